section RPUB
variable {sc : List (Nat × Nat × (Nat → Int32))} {l : Launch} {d : Nat} {h : se_H} {S : st_S} {t : Int32} {N : Nat}
theorem rm_q {X M : Nat} {x n : Int32} {A B : Nat} (h1 : x = nI X) (h2 : X ≤ M) (h3 : M < 2 ^ 30) (h4 : st_in (nI A) (nI B) n = true) (h5 : A ≤ B) (h6 : B < 2 ^ 30) : (nI M < x + n) ↔ st_rm x n (nI M) = false := by
  obtain ⟨m, m1, m2, rfl⟩ := st_in_nat (by omega) h5 h4
  subst h1
  rw [rm_iff h2 h3 (by omega), st_rm, decide_eq_false_iff_not]
set_option maxHeartbeats 1000000 in
set_option maxRecDepth 100000 in
theorem r_put {v t9 n : Int32} (hd : 3 ≤ d) (hR : is_R S t h) (hI : st_I S) (hQ : st_Q N S) (hN : N < 2 ^ 31) : se_W (vG sc) l d mR_put 0 (se_ent 5 [.ref 41, .int v, .int t9, .int n]) [] h 0 0 (rPi h (sp_put S v t9 n)) := by
  obtain ⟨d, rfl⟩ : ∃ e, d = e + 1 := ⟨d - 1, by omega⟩
  show se_W (vG sc) l (d + 1) mR_put 0 [some (.ref 41), some (.int v), some (.int t9), some (.int n), none] [] h 0 0 _
  have hn20 := hI.2.1
  have hd100 := hI.2.2.2.1
  have hO := hR.1
  rw [hI.1, hI.2.2.1] at hO
  refine se_aload_n (pc := 0) rfl dR_put_0 ?_
  refine se_iload_n (pc := 1) rfl dR_put_1 ?_
  refine se_invV (pc := 2) (as := [.int v]) (st := []) (vok sc) kR_isVehicle dR_put_2 ⟨wd_674, wd_676, sl_11, wd_3⟩ rfl hO rfl (Nat.le_of_ble_eq_true rfl) (Nat.le_of_ble_eq_true rfl) (x_R_isVehicle (by omega) hR hI) (C2 := 0) (S2 := 0) (by omega) (by omega) (fun v2 h2 _ q2 => ?_) (fun x hx => absurd hx List.not_mem_nil) (fun v2 h2 _ q2 => ?_)
  rotate_left
  · rcases q2.2 with ⟨_, _, _, _, e⟩ | ⟨_, e⟩ <;> cases e
  obtain ⟨h2e, q2⟩ := q2
  have h2f := h2e.symm
  subst h2f
  rcases q2 with ⟨jv, hxv, hjv, rfl, q2⟩ | ⟨hxv, q2⟩
  · cases q2
    refine se_if_eq (pc := 5) (tgt := 19) dR_put_5 (by decide) (fun q1 => absurd q1 (by decide)) (fun q1 => ?_)
    refine se_iload_n (pc := 8) rfl dR_put_8 ?_
    refine se_invS (pc := 9) (as := [.int t9]) (st := []) (vok sc) kR_isThing dR_put_9 ⟨wd_740, wd_741, wd_3⟩ rfl (Nat.le_of_ble_eq_true rfl) (Nat.le_of_ble_eq_true rfl) (x_R_isThing (by omega)) (C2 := 0) (S2 := 0) (by omega) (by omega) (fun v9 h9 _ q9 => ?_) (fun x hx => absurd hx List.not_mem_nil) (fun v9 h9 _ q9 => ?_)
    rotate_left
    · rcases q9.2 with ⟨_, _, _, _, e⟩ | ⟨_, e⟩ <;> cases e
    obtain ⟨h9e, q9⟩ := q9
    have h9f := h9e.symm
    subst h9f
    rcases q9 with ⟨jt9, hxt9, hjt9, rfl, q9⟩ | ⟨hxt9, q9⟩
    · cases q9
      refine se_if_eq (pc := 12) (tgt := 19) dR_put_12 (by decide) (fun q2 => absurd q2 (by decide)) (fun q2 => ?_)
      refine se_iconst (pc := 15) 1 (by decide) dR_put_15 ?_
      refine se_goto (pc := 16) (tgt := 20) dR_put_16 (by decide) ?_
      refine se_istore (pc := 20) dR_put_20 (by decide) [some (.ref 41), some (.int (nI jv)), some (.int (nI jt9)), some (.int n), some (.int 1)] rfl ?_
      refine se_aload_n (pc := 22) rfl dR_put_22 ?_
      refine se_iload (pc := 23) rfl dR_put_23 ?_
      refine se_iload_n (pc := 25) rfl dR_put_25 ?_
      refine se_iconst (pc := 26) 1 (by decide) dR_put_26 ?_
      refine se_bipush (pc := 27) 9 (by decide) dR_put_27 ?_
      refine se_invS (pc := 29) (as := [.int n, .int 1, .int 9]) (st := [.int 1, .ref 41]) (vok sc) kR_in dR_put_29 ⟨wd_652, wd_653, wd_3⟩ rfl (Nat.le_of_ble_eq_true rfl) (Nat.le_of_ble_eq_true rfl) (x_R_in) (C2 := 0) (S2 := 0) (by omega) (by omega) (fun v29 h29 _ q29 => ?_) (fun x hx => absurd hx List.not_mem_nil) (fun v29 h29 _ q29 => ?_)
      rotate_left
      · rcases q29.2 with ⟨_, e⟩ | ⟨_, e⟩ <;> cases e
      obtain ⟨h29e, q29⟩ := q29
      have h29f := h29e.symm
      subst h29f
      rcases q29 with ⟨hi29, q29⟩ | ⟨hi29, q29⟩
      · cases q29
        refine se_iload (pc := 32) rfl dR_put_32 ?_
        refine se_if_eq (pc := 34) (tgt := 59) dR_put_34 (by decide) (fun q3 => absurd q3 (by decide)) (fun q3 => ?_)
        refine se_aload_n (pc := 37) rfl dR_put_37 ?_
        refine se_getf (pc := 38) clR 19 dR_put_38 wd_572 rfl (by decide) hO rfl ?_
        refine se_bipush (pc := 41) 10 (by decide) dR_put_41 ?_
        refine se_iload_n (pc := 43) rfl dR_put_43 ?_
        refine se_imul (pc := 44) dR_put_44 ?_
        refine se_iload_n (pc := 45) rfl dR_put_45 ?_
        refine se_iadd (pc := 46) dR_put_46 ?_
        rw [nx10]
        refine se_ialdN (pc := 47) 0 dR_put_47 rfl hR.2.2.2.2.2.2.2.2.2.2.2.2.2.2.2.2.2.1 (by omega) (by decide) ?_
        rw [rf_l_at (by omega)]
        refine se_iload_n (pc := 48) rfl dR_put_48 ?_
        refine se_iadd (pc := 49) dR_put_49 ?_
        refine se_bipush (pc := 50) 99 (by decide) dR_put_50 ?_
        refine se_icmp_gt (pc := 52) (tgt := 59) dR_put_52 (by decide) (fun q4 => ?_) (fun q4 => ?_)
        · refine se_iconst (pc := 59) 0 (by decide) dR_put_59 ?_
          refine se_invV (pc := 60) (as := [.int 1, .int 1, .int 0]) (st := []) (vok sc) kR_goes dR_put_60 ⟨wd_655, wd_657, sl_10, wd_3⟩ rfl hO rfl (Nat.le_of_ble_eq_true rfl) (Nat.le_of_ble_eq_true rfl) (g_goes (r := 0) 3 hR (by decide) (by decide)) (C2 := 0) (S2 := 0) (by omega) (by omega) (fun v60 h60 _ q60 => ?_) (fun x hx => absurd hx List.not_mem_nil) (fun v60 h60 _ q60 => ?_)
          rotate_left
          · cases q60.2.2
          obtain ⟨hR9, hf9, q60⟩ := q60
          cases q60
          have hO9 := hR9.1
          rw [hI.1, hI.2.2.1] at hO9
          refine se_if_ne (pc := 63) (tgt := 68) dR_put_63 (by decide) (fun q5 => absurd q5 (by decide)) (fun q5 => ?_)
          refine se_iconst (pc := 66) 0 (by decide) dR_put_66 ?_
          exact se_iret (pc := 67) dR_put_67 rfl (rPi_no 2 (by clear hR hO hR9 hO9 hf9; obtain ⟨X9, hX9, eX9⟩ := hQ.2.2.2.2.1 jv jt9; first | (simp_all [sp_put, upd]; done) | (have hrm9 := rm_q (A := 1) (B := 9) (M := 99) eX9 hX9 (by decide) (by assumption) (by decide) (by decide); clear hX9 eX9; simp only [show nI 99 = (99 : Int32) from rfl] at hrm9; cases hrmb : st_rm (S 6 jv jt9) n 99 <;> simp_all [sp_put, upd])) hR9 hf9)
        · refine se_iconst (pc := 55) 1 (by decide) dR_put_55 ?_
          refine se_goto (pc := 56) (tgt := 60) dR_put_56 (by decide) ?_
          refine se_invV (pc := 60) (as := [.int 1, .int 1, .int 1]) (st := []) (vok sc) kR_goes dR_put_60 ⟨wd_655, wd_657, sl_10, wd_3⟩ rfl hO rfl (Nat.le_of_ble_eq_true rfl) (Nat.le_of_ble_eq_true rfl) (g_goes (r := 1) 0 hR (by decide) (by decide)) (C2 := 0) (S2 := 0) (by omega) (by omega) (fun v60 h60 _ q60 => ?_) (fun x hx => absurd hx List.not_mem_nil) (fun v60 h60 _ q60 => ?_)
          rotate_left
          · cases q60.2.2
          obtain ⟨hR9, hf9, q60⟩ := q60
          cases q60
          have hO9 := hR9.1
          rw [hI.1, hI.2.2.1] at hO9
          refine se_if_ne (pc := 63) (tgt := 68) dR_put_63 (by decide) (fun q6 => ?_) (fun q6 => absurd q6 (by decide))
          refine se_aload_n (pc := 68) rfl dR_put_68 ?_
          refine se_getf (pc := 69) clR 19 dR_put_69 wd_572 rfl (by decide) hO9 rfl ?_
          refine se_bipush (pc := 72) 10 (by decide) dR_put_72 ?_
          refine se_iload_n (pc := 74) rfl dR_put_74 ?_
          refine se_imul (pc := 75) dR_put_75 ?_
          refine se_iload_n (pc := 76) rfl dR_put_76 ?_
          refine se_iadd (pc := 77) dR_put_77 ?_
          rw [nx10]
          refine se_aload_n (pc := 78) rfl dR_put_78 ?_
          refine se_getf (pc := 79) clR 19 dR_put_79 wd_572 rfl (by decide) hO9 rfl ?_
          refine se_bipush (pc := 82) 10 (by decide) dR_put_82 ?_
          refine se_iload_n (pc := 84) rfl dR_put_84 ?_
          refine se_imul (pc := 85) dR_put_85 ?_
          refine se_iload_n (pc := 86) rfl dR_put_86 ?_
          refine se_iadd (pc := 87) dR_put_87 ?_
          rw [nx10]
          refine se_ialdN (pc := 88) 0 dR_put_88 rfl hR9.2.2.2.2.2.2.2.2.2.2.2.2.2.2.2.2.2.1 (by omega) (by decide) ?_
          rw [rf_l_at (by omega)]
          refine se_iload_n (pc := 89) rfl dR_put_89 ?_
          refine se_iadd (pc := 90) dR_put_90 ?_
          refine se_iastN (pc := 91) 0 dR_put_91 rfl hR9.2.2.2.2.2.2.2.2.2.2.2.2.2.2.2.2.2.1 (by omega) (by decide) ?_
          refine se_aload_n (pc := 92) rfl dR_put_92 ?_
          refine se_getf (pc := 93) clR 19 dR_put_93 wd_572 rfl (by decide) (st_ne hO9 (by omega)) rfl ?_
          refine se_bipush (pc := 96) 10 (by decide) dR_put_96 ?_
          refine se_iload_n (pc := 98) rfl dR_put_98 ?_
          refine se_imul (pc := 99) dR_put_99 ?_
          refine se_iload_n (pc := 100) rfl dR_put_100 ?_
          refine se_iadd (pc := 101) dR_put_101 ?_
          rw [nx10]
          refine se_ialdN (pc := 102) 0 dR_put_102 rfl (st_eq hR9.2.2.2.2.2.2.2.2.2.2.2.2.2.2.2.2.2.1) (by omega) (by decide) ?_
          exact se_iret (pc := 103) dR_put_103 rfl (rPi_ok (S' := st_up S 6 jv jt9 (S 6 jv jt9 + n)) (by clear hR hO hR9 hO9 hf9; obtain ⟨X9, hX9, eX9⟩ := hQ.2.2.2.2.1 jv jt9; first | (simp_all [sp_put, upd]; done) | (have hrm9 := rm_q (A := 1) (B := 9) (M := 99) eX9 hX9 (by decide) (by assumption) (by decide) (by decide); clear hX9 eX9; simp only [show nI 99 = (99 : Int32) from rfl] at hrm9; cases hrmb : st_rm (S 6 jv jt9) n 99 <;> simp_all [sp_put, upd])) ⟨rf_O (st_ne hO9 (by omega)) (by simp (decide := true) only [up_ne, up_v, ← hI.1, ← hI.2.2.1]) (by simp (decide := true) only [up_ne, up_v, ← hI.1, ← hI.2.2.1]) (by simp (decide := true) only [up_ne, up_v, ← hI.1, ← hI.2.2.1]), rf_R (st_ne hR9.2.1 (by omega)) (by simp (decide := true) only [rf_l_ne, rf_v_ne, rf_an_ne, rf_at_ne, rf_by_ne, rf_ky_ne, up_ne, up_eq, up_v, rf_l_up hjt9]), rf_R (st_ne hR9.2.2.1 (by omega)) (by simp (decide := true) only [rf_l_ne, rf_v_ne, rf_an_ne, rf_at_ne, rf_by_ne, rf_ky_ne, up_ne, up_eq, up_v, rf_l_up hjt9]), rf_R (st_ne hR9.2.2.2.1 (by omega)) (by simp (decide := true) only [rf_l_ne, rf_v_ne, rf_an_ne, rf_at_ne, rf_by_ne, rf_ky_ne, up_ne, up_eq, up_v, rf_l_up hjt9]), rf_R (st_ne hR9.2.2.2.2.1 (by omega)) (by simp (decide := true) only [rf_l_ne, rf_v_ne, rf_an_ne, rf_at_ne, rf_by_ne, rf_ky_ne, up_ne, up_eq, up_v, rf_l_up hjt9]), rf_R (st_ne hR9.2.2.2.2.2.1 (by omega)) (by simp (decide := true) only [rf_l_ne, rf_v_ne, rf_an_ne, rf_at_ne, rf_by_ne, rf_ky_ne, up_ne, up_eq, up_v, rf_l_up hjt9]), rf_R (st_ne hR9.2.2.2.2.2.2.1 (by omega)) (by simp (decide := true) only [rf_l_ne, rf_v_ne, rf_an_ne, rf_at_ne, rf_by_ne, rf_ky_ne, up_ne, up_eq, up_v, rf_l_up hjt9]), rf_R (st_ne hR9.2.2.2.2.2.2.2.1 (by omega)) (by simp (decide := true) only [rf_l_ne, rf_v_ne, rf_an_ne, rf_at_ne, rf_by_ne, rf_ky_ne, up_ne, up_eq, up_v, rf_l_up hjt9]), rf_R (st_ne hR9.2.2.2.2.2.2.2.2.1 (by omega)) (by simp (decide := true) only [rf_l_ne, rf_v_ne, rf_an_ne, rf_at_ne, rf_by_ne, rf_ky_ne, up_ne, up_eq, up_v, rf_l_up hjt9]), rf_R (st_ne hR9.2.2.2.2.2.2.2.2.2.1 (by omega)) (by simp (decide := true) only [rf_l_ne, rf_v_ne, rf_an_ne, rf_at_ne, rf_by_ne, rf_ky_ne, up_ne, up_eq, up_v, rf_l_up hjt9]), rf_R (st_ne hR9.2.2.2.2.2.2.2.2.2.2.1 (by omega)) (by simp (decide := true) only [rf_l_ne, rf_v_ne, rf_an_ne, rf_at_ne, rf_by_ne, rf_ky_ne, up_ne, up_eq, up_v, rf_l_up hjt9]), rf_R (st_ne hR9.2.2.2.2.2.2.2.2.2.2.2.1 (by omega)) (by simp (decide := true) only [rf_l_ne, rf_v_ne, rf_an_ne, rf_at_ne, rf_by_ne, rf_ky_ne, up_ne, up_eq, up_v, rf_l_up hjt9]), rf_R (st_ne hR9.2.2.2.2.2.2.2.2.2.2.2.2.1 (by omega)) (by simp (decide := true) only [rf_l_ne, rf_v_ne, rf_an_ne, rf_at_ne, rf_by_ne, rf_ky_ne, up_ne, up_eq, up_v, rf_l_up hjt9]), rf_R (st_ne hR9.2.2.2.2.2.2.2.2.2.2.2.2.2.1 (by omega)) (by simp (decide := true) only [rf_l_ne, rf_v_ne, rf_an_ne, rf_at_ne, rf_by_ne, rf_ky_ne, up_ne, up_eq, up_v, rf_l_up hjt9]), rf_R (st_ne hR9.2.2.2.2.2.2.2.2.2.2.2.2.2.2.1 (by omega)) (by simp (decide := true) only [rf_l_ne, rf_v_ne, rf_an_ne, rf_at_ne, rf_by_ne, rf_ky_ne, up_ne, up_eq, up_v, rf_l_up hjt9]), rf_R (st_ne hR9.2.2.2.2.2.2.2.2.2.2.2.2.2.2.2.1 (by omega)) (by simp (decide := true) only [rf_l_ne, rf_v_ne, rf_an_ne, rf_at_ne, rf_by_ne, rf_ky_ne, up_ne, up_eq, up_v, rf_l_up hjt9]), rf_R (st_ne hR9.2.2.2.2.2.2.2.2.2.2.2.2.2.2.2.2.1 (by omega)) (by simp (decide := true) only [rf_l_ne, rf_v_ne, rf_an_ne, rf_at_ne, rf_by_ne, rf_ky_ne, up_ne, up_eq, up_v, rf_l_up hjt9]), rf_R (st_eq hR9.2.2.2.2.2.2.2.2.2.2.2.2.2.2.2.2.2.1) (by simp (decide := true) only [rf_l_ne, rf_v_ne, rf_an_ne, rf_at_ne, rf_by_ne, rf_ky_ne, up_ne, up_eq, up_v, rf_l_up hjt9]), rf_R (st_ne hR9.2.2.2.2.2.2.2.2.2.2.2.2.2.2.2.2.2.2.1 (by omega)) (by simp (decide := true) only [rf_l_ne, rf_v_ne, rf_an_ne, rf_at_ne, rf_by_ne, rf_ky_ne, up_ne, up_eq, up_v, rf_l_up hjt9]), rf_R (st_ne hR9.2.2.2.2.2.2.2.2.2.2.2.2.2.2.2.2.2.2.2.1 (by omega)) (by simp (decide := true) only [rf_l_ne, rf_v_ne, rf_an_ne, rf_at_ne, rf_by_ne, rf_ky_ne, up_ne, up_eq, up_v, rf_l_up hjt9]), rf_R (st_ne hR9.2.2.2.2.2.2.2.2.2.2.2.2.2.2.2.2.2.2.2.2.1 (by omega)) (by simp (decide := true) only [rf_l_ne, rf_v_ne, rf_an_ne, rf_at_ne, rf_by_ne, rf_ky_ne, up_ne, up_eq, up_v, rf_l_up hjt9]), rf_R (st_ne hR9.2.2.2.2.2.2.2.2.2.2.2.2.2.2.2.2.2.2.2.2.2.1 (by omega)) (by simp (decide := true) only [rf_l_ne, rf_v_ne, rf_an_ne, rf_at_ne, rf_by_ne, rf_ky_ne, up_ne, up_eq, up_v, rf_l_up hjt9]), rf_R (st_ne hR9.2.2.2.2.2.2.2.2.2.2.2.2.2.2.2.2.2.2.2.2.2.2.1 (by omega)) (by simp (decide := true) only [rf_l_ne, rf_v_ne, rf_an_ne, rf_at_ne, rf_by_ne, rf_ky_ne, up_ne, up_eq, up_v, rf_l_up hjt9]), rf_R (st_ne hR9.2.2.2.2.2.2.2.2.2.2.2.2.2.2.2.2.2.2.2.2.2.2.2.1 (by omega)) (by simp (decide := true) only [rf_l_ne, rf_v_ne, rf_an_ne, rf_at_ne, rf_by_ne, rf_ky_ne, up_ne, up_eq, up_v, rf_l_up hjt9]), rf_R (st_ne hR9.2.2.2.2.2.2.2.2.2.2.2.2.2.2.2.2.2.2.2.2.2.2.2.2.1 (by omega)) (by simp (decide := true) only [rf_l_ne, rf_v_ne, rf_an_ne, rf_at_ne, rf_by_ne, rf_ky_ne, up_ne, up_eq, up_v, rf_l_up hjt9]), rf_R (st_ne hR9.2.2.2.2.2.2.2.2.2.2.2.2.2.2.2.2.2.2.2.2.2.2.2.2.2 (by omega)) (by simp (decide := true) only [rf_l_ne, rf_v_ne, rf_an_ne, rf_at_ne, rf_by_ne, rf_ky_ne, up_ne, up_eq, up_v, rf_l_up hjt9])⟩ (fR_tr hf9 (fR_set (by decide) (by decide))))
      · cases q29
        refine se_iload (pc := 32) rfl dR_put_32 ?_
        refine se_if_eq (pc := 34) (tgt := 59) dR_put_34 (by decide) (fun q7 => absurd q7 (by decide)) (fun q7 => ?_)
        refine se_aload_n (pc := 37) rfl dR_put_37 ?_
        refine se_getf (pc := 38) clR 19 dR_put_38 wd_572 rfl (by decide) hO rfl ?_
        refine se_bipush (pc := 41) 10 (by decide) dR_put_41 ?_
        refine se_iload_n (pc := 43) rfl dR_put_43 ?_
        refine se_imul (pc := 44) dR_put_44 ?_
        refine se_iload_n (pc := 45) rfl dR_put_45 ?_
        refine se_iadd (pc := 46) dR_put_46 ?_
        rw [nx10]
        refine se_ialdN (pc := 47) 0 dR_put_47 rfl hR.2.2.2.2.2.2.2.2.2.2.2.2.2.2.2.2.2.1 (by omega) (by decide) ?_
        rw [rf_l_at (by omega)]
        refine se_iload_n (pc := 48) rfl dR_put_48 ?_
        refine se_iadd (pc := 49) dR_put_49 ?_
        refine se_bipush (pc := 50) 99 (by decide) dR_put_50 ?_
        refine se_icmp_gt (pc := 52) (tgt := 59) dR_put_52 (by decide) (fun q8 => ?_) (fun q8 => ?_)
        · refine se_iconst (pc := 59) 0 (by decide) dR_put_59 ?_
          refine se_invV (pc := 60) (as := [.int 1, .int 0, .int 0]) (st := []) (vok sc) kR_goes dR_put_60 ⟨wd_655, wd_657, sl_10, wd_3⟩ rfl hO rfl (Nat.le_of_ble_eq_true rfl) (Nat.le_of_ble_eq_true rfl) (g_goes (r := 0) 2 hR (by decide) (by decide)) (C2 := 0) (S2 := 0) (by omega) (by omega) (fun v60 h60 _ q60 => ?_) (fun x hx => absurd hx List.not_mem_nil) (fun v60 h60 _ q60 => ?_)
          rotate_left
          · cases q60.2.2
          obtain ⟨hR9, hf9, q60⟩ := q60
          cases q60
          have hO9 := hR9.1
          rw [hI.1, hI.2.2.1] at hO9
          refine se_if_ne (pc := 63) (tgt := 68) dR_put_63 (by decide) (fun q9 => absurd q9 (by decide)) (fun q9 => ?_)
          refine se_iconst (pc := 66) 0 (by decide) dR_put_66 ?_
          exact se_iret (pc := 67) dR_put_67 rfl (rPi_no 1 (by clear hR hO hR9 hO9 hf9; simp_all [sp_put, upd]) hR9 hf9)
        · refine se_iconst (pc := 55) 1 (by decide) dR_put_55 ?_
          refine se_goto (pc := 56) (tgt := 60) dR_put_56 (by decide) ?_
          refine se_invV (pc := 60) (as := [.int 1, .int 0, .int 1]) (st := []) (vok sc) kR_goes dR_put_60 ⟨wd_655, wd_657, sl_10, wd_3⟩ rfl hO rfl (Nat.le_of_ble_eq_true rfl) (Nat.le_of_ble_eq_true rfl) (g_goes (r := 0) 2 hR (by decide) (by decide)) (C2 := 0) (S2 := 0) (by omega) (by omega) (fun v60 h60 _ q60 => ?_) (fun x hx => absurd hx List.not_mem_nil) (fun v60 h60 _ q60 => ?_)
          rotate_left
          · cases q60.2.2
          obtain ⟨hR9, hf9, q60⟩ := q60
          cases q60
          have hO9 := hR9.1
          rw [hI.1, hI.2.2.1] at hO9
          refine se_if_ne (pc := 63) (tgt := 68) dR_put_63 (by decide) (fun q10 => absurd q10 (by decide)) (fun q10 => ?_)
          refine se_iconst (pc := 66) 0 (by decide) dR_put_66 ?_
          exact se_iret (pc := 67) dR_put_67 rfl (rPi_no 1 (by clear hR hO hR9 hO9 hf9; simp_all [sp_put, upd]) hR9 hf9)
    · cases q9
      refine se_if_eq (pc := 12) (tgt := 19) dR_put_12 (by decide) (fun q11 => ?_) (fun q11 => absurd q11 (by decide))
      refine se_iconst (pc := 19) 0 (by decide) dR_put_19 ?_
      refine se_istore (pc := 20) dR_put_20 (by decide) [some (.ref 41), some (.int (nI jv)), some (.int t9), some (.int n), some (.int 0)] rfl ?_
      refine se_aload_n (pc := 22) rfl dR_put_22 ?_
      refine se_iload (pc := 23) rfl dR_put_23 ?_
      refine se_iload_n (pc := 25) rfl dR_put_25 ?_
      refine se_iconst (pc := 26) 1 (by decide) dR_put_26 ?_
      refine se_bipush (pc := 27) 9 (by decide) dR_put_27 ?_
      refine se_invS (pc := 29) (as := [.int n, .int 1, .int 9]) (st := [.int 0, .ref 41]) (vok sc) kR_in dR_put_29 ⟨wd_652, wd_653, wd_3⟩ rfl (Nat.le_of_ble_eq_true rfl) (Nat.le_of_ble_eq_true rfl) (x_R_in) (C2 := 0) (S2 := 0) (by omega) (by omega) (fun v29 h29 _ q29 => ?_) (fun x hx => absurd hx List.not_mem_nil) (fun v29 h29 _ q29 => ?_)
      rotate_left
      · rcases q29.2 with ⟨_, e⟩ | ⟨_, e⟩ <;> cases e
      obtain ⟨h29e, q29⟩ := q29
      have h29f := h29e.symm
      subst h29f
      rcases q29 with ⟨hi29, q29⟩ | ⟨hi29, q29⟩
      · cases q29
        refine se_iload (pc := 32) rfl dR_put_32 ?_
        refine se_if_eq (pc := 34) (tgt := 59) dR_put_34 (by decide) (fun q12 => ?_) (fun q12 => absurd q12 (by decide))
        refine se_iconst (pc := 59) 0 (by decide) dR_put_59 ?_
        refine se_invV (pc := 60) (as := [.int 0, .int 1, .int 0]) (st := []) (vok sc) kR_goes dR_put_60 ⟨wd_655, wd_657, sl_10, wd_3⟩ rfl hO rfl (Nat.le_of_ble_eq_true rfl) (Nat.le_of_ble_eq_true rfl) (g_goes (r := 0) 1 hR (by decide) (by decide)) (C2 := 0) (S2 := 0) (by omega) (by omega) (fun v60 h60 _ q60 => ?_) (fun x hx => absurd hx List.not_mem_nil) (fun v60 h60 _ q60 => ?_)
        rotate_left
        · cases q60.2.2
        obtain ⟨hR9, hf9, q60⟩ := q60
        cases q60
        have hO9 := hR9.1
        rw [hI.1, hI.2.2.1] at hO9
        refine se_if_ne (pc := 63) (tgt := 68) dR_put_63 (by decide) (fun q13 => absurd q13 (by decide)) (fun q13 => ?_)
        refine se_iconst (pc := 66) 0 (by decide) dR_put_66 ?_
        exact se_iret (pc := 67) dR_put_67 rfl (rPi_no 0 (by clear hR hO hR9 hO9 hf9; simp_all [sp_put, upd]) hR9 hf9)
      · cases q29
        refine se_iload (pc := 32) rfl dR_put_32 ?_
        refine se_if_eq (pc := 34) (tgt := 59) dR_put_34 (by decide) (fun q14 => ?_) (fun q14 => absurd q14 (by decide))
        refine se_iconst (pc := 59) 0 (by decide) dR_put_59 ?_
        refine se_invV (pc := 60) (as := [.int 0, .int 0, .int 0]) (st := []) (vok sc) kR_goes dR_put_60 ⟨wd_655, wd_657, sl_10, wd_3⟩ rfl hO rfl (Nat.le_of_ble_eq_true rfl) (Nat.le_of_ble_eq_true rfl) (g_goes (r := 0) 1 hR (by decide) (by decide)) (C2 := 0) (S2 := 0) (by omega) (by omega) (fun v60 h60 _ q60 => ?_) (fun x hx => absurd hx List.not_mem_nil) (fun v60 h60 _ q60 => ?_)
        rotate_left
        · cases q60.2.2
        obtain ⟨hR9, hf9, q60⟩ := q60
        cases q60
        have hO9 := hR9.1
        rw [hI.1, hI.2.2.1] at hO9
        refine se_if_ne (pc := 63) (tgt := 68) dR_put_63 (by decide) (fun q15 => absurd q15 (by decide)) (fun q15 => ?_)
        refine se_iconst (pc := 66) 0 (by decide) dR_put_66 ?_
        exact se_iret (pc := 67) dR_put_67 rfl (rPi_no 0 (by clear hR hO hR9 hO9 hf9; simp_all [sp_put, upd]) hR9 hf9)
  · cases q2
    refine se_if_eq (pc := 5) (tgt := 19) dR_put_5 (by decide) (fun q16 => ?_) (fun q16 => absurd q16 (by decide))
    refine se_iconst (pc := 19) 0 (by decide) dR_put_19 ?_
    refine se_istore (pc := 20) dR_put_20 (by decide) [some (.ref 41), some (.int v), some (.int t9), some (.int n), some (.int 0)] rfl ?_
    refine se_aload_n (pc := 22) rfl dR_put_22 ?_
    refine se_iload (pc := 23) rfl dR_put_23 ?_
    refine se_iload_n (pc := 25) rfl dR_put_25 ?_
    refine se_iconst (pc := 26) 1 (by decide) dR_put_26 ?_
    refine se_bipush (pc := 27) 9 (by decide) dR_put_27 ?_
    refine se_invS (pc := 29) (as := [.int n, .int 1, .int 9]) (st := [.int 0, .ref 41]) (vok sc) kR_in dR_put_29 ⟨wd_652, wd_653, wd_3⟩ rfl (Nat.le_of_ble_eq_true rfl) (Nat.le_of_ble_eq_true rfl) (x_R_in) (C2 := 0) (S2 := 0) (by omega) (by omega) (fun v29 h29 _ q29 => ?_) (fun x hx => absurd hx List.not_mem_nil) (fun v29 h29 _ q29 => ?_)
    rotate_left
    · rcases q29.2 with ⟨_, e⟩ | ⟨_, e⟩ <;> cases e
    obtain ⟨h29e, q29⟩ := q29
    have h29f := h29e.symm
    subst h29f
    rcases q29 with ⟨hi29, q29⟩ | ⟨hi29, q29⟩
    · cases q29
      refine se_iload (pc := 32) rfl dR_put_32 ?_
      refine se_if_eq (pc := 34) (tgt := 59) dR_put_34 (by decide) (fun q17 => ?_) (fun q17 => absurd q17 (by decide))
      refine se_iconst (pc := 59) 0 (by decide) dR_put_59 ?_
      refine se_invV (pc := 60) (as := [.int 0, .int 1, .int 0]) (st := []) (vok sc) kR_goes dR_put_60 ⟨wd_655, wd_657, sl_10, wd_3⟩ rfl hO rfl (Nat.le_of_ble_eq_true rfl) (Nat.le_of_ble_eq_true rfl) (g_goes (r := 0) 1 hR (by decide) (by decide)) (C2 := 0) (S2 := 0) (by omega) (by omega) (fun v60 h60 _ q60 => ?_) (fun x hx => absurd hx List.not_mem_nil) (fun v60 h60 _ q60 => ?_)
      rotate_left
      · cases q60.2.2
      obtain ⟨hR9, hf9, q60⟩ := q60
      cases q60
      have hO9 := hR9.1
      rw [hI.1, hI.2.2.1] at hO9
      refine se_if_ne (pc := 63) (tgt := 68) dR_put_63 (by decide) (fun q18 => absurd q18 (by decide)) (fun q18 => ?_)
      refine se_iconst (pc := 66) 0 (by decide) dR_put_66 ?_
      exact se_iret (pc := 67) dR_put_67 rfl (rPi_no 0 (by clear hR hO hR9 hO9 hf9; simp_all [sp_put, upd]) hR9 hf9)
    · cases q29
      refine se_iload (pc := 32) rfl dR_put_32 ?_
      refine se_if_eq (pc := 34) (tgt := 59) dR_put_34 (by decide) (fun q19 => ?_) (fun q19 => absurd q19 (by decide))
      refine se_iconst (pc := 59) 0 (by decide) dR_put_59 ?_
      refine se_invV (pc := 60) (as := [.int 0, .int 0, .int 0]) (st := []) (vok sc) kR_goes dR_put_60 ⟨wd_655, wd_657, sl_10, wd_3⟩ rfl hO rfl (Nat.le_of_ble_eq_true rfl) (Nat.le_of_ble_eq_true rfl) (g_goes (r := 0) 1 hR (by decide) (by decide)) (C2 := 0) (S2 := 0) (by omega) (by omega) (fun v60 h60 _ q60 => ?_) (fun x hx => absurd hx List.not_mem_nil) (fun v60 h60 _ q60 => ?_)
      rotate_left
      · cases q60.2.2
      obtain ⟨hR9, hf9, q60⟩ := q60
      cases q60
      have hO9 := hR9.1
      rw [hI.1, hI.2.2.1] at hO9
      refine se_if_ne (pc := 63) (tgt := 68) dR_put_63 (by decide) (fun q20 => absurd q20 (by decide)) (fun q20 => ?_)
      refine se_iconst (pc := 66) 0 (by decide) dR_put_66 ?_
      exact se_iret (pc := 67) dR_put_67 rfl (rPi_no 0 (by clear hR hO hR9 hO9 hf9; simp_all [sp_put, upd]) hR9 hf9)
set_option maxHeartbeats 1000000 in
set_option maxRecDepth 100000 in
theorem r_fuel {v m : Int32} (hd : 3 ≤ d) (hR : is_R S t h) (hI : st_I S) (hQ : st_Q N S) (hN : N < 2 ^ 31) : se_W (vG sc) l d mR_fuel 0 (se_ent 3 [.ref 41, .int v, .int m]) [] h 0 0 (rPi h (sp_fuel S v m)) := by
  obtain ⟨d, rfl⟩ : ∃ e, d = e + 1 := ⟨d - 1, by omega⟩
  show se_W (vG sc) l (d + 1) mR_fuel 0 [some (.ref 41), some (.int v), some (.int m)] [] h 0 0 _
  have hn20 := hI.2.1
  have hd100 := hI.2.2.2.1
  have hO := hR.1
  rw [hI.1, hI.2.2.1] at hO
  refine se_aload_n (pc := 0) rfl dR_fuel_0 ?_
  refine se_aload_n (pc := 1) rfl dR_fuel_1 ?_
  refine se_iload_n (pc := 2) rfl dR_fuel_2 ?_
  refine se_invV (pc := 3) (as := [.int v]) (st := [.ref 41]) (vok sc) kR_isVehicle dR_fuel_3 ⟨wd_674, wd_676, sl_11, wd_3⟩ rfl hO rfl (Nat.le_of_ble_eq_true rfl) (Nat.le_of_ble_eq_true rfl) (x_R_isVehicle (by omega) hR hI) (C2 := 0) (S2 := 0) (by omega) (by omega) (fun v3 h3 _ q3 => ?_) (fun x hx => absurd hx List.not_mem_nil) (fun v3 h3 _ q3 => ?_)
  rotate_left
  · rcases q3.2 with ⟨_, _, _, _, e⟩ | ⟨_, e⟩ <;> cases e
  obtain ⟨h3e, q3⟩ := q3
  have h3f := h3e.symm
  subst h3f
  rcases q3 with ⟨jv, hxv, hjv, rfl, q3⟩ | ⟨hxv, q3⟩
  · cases q3
    refine se_iload_n (pc := 6) rfl dR_fuel_6 ?_
    refine se_iconst (pc := 7) 1 (by decide) dR_fuel_7 ?_
    refine se_ldc (pc := 8) 1000000 dR_fuel_8 wd_723 ?_
    refine se_invS (pc := 10) (as := [.int m, .int 1, .int 1000000]) (st := [.int 1, .ref 41]) (vok sc) kR_in dR_fuel_10 ⟨wd_652, wd_653, wd_3⟩ rfl (Nat.le_of_ble_eq_true rfl) (Nat.le_of_ble_eq_true rfl) (x_R_in) (C2 := 0) (S2 := 0) (by omega) (by omega) (fun v10 h10 _ q10 => ?_) (fun x hx => absurd hx List.not_mem_nil) (fun v10 h10 _ q10 => ?_)
    rotate_left
    · rcases q10.2 with ⟨_, e⟩ | ⟨_, e⟩ <;> cases e
    obtain ⟨h10e, q10⟩ := q10
    have h10f := h10e.symm
    subst h10f
    rcases q10 with ⟨hi10, q10⟩ | ⟨hi10, q10⟩
    · cases q10
      refine se_aload_n (pc := 13) rfl dR_fuel_13 ?_
      refine se_iload_n (pc := 14) rfl dR_fuel_14 ?_
      refine se_invV (pc := 15) (as := [.int (nI jv)]) (st := [.int 1, .int 1, .ref 41]) (vok sc) kR_isVehicle dR_fuel_15 ⟨wd_674, wd_676, sl_11, wd_3⟩ rfl hO rfl (Nat.le_of_ble_eq_true rfl) (Nat.le_of_ble_eq_true rfl) (x_R_vy (by omega) hR hI hjv) (C2 := 0) (S2 := 0) (by omega) (by omega) (fun v15 h15 _ q15 => ?_) (fun x hx => absurd hx List.not_mem_nil) (fun v15 h15 _ q15 => ?_)
      rotate_left
      · cases q15.2
      obtain ⟨h15e, q15⟩ := q15
      have h15f := h15e.symm
      subst h15f
      cases q15
      refine se_if_eq (pc := 18) (tgt := 38) dR_fuel_18 (by decide) (fun q1 => absurd q1 (by decide)) (fun q1 => ?_)
      refine se_aload_n (pc := 21) rfl dR_fuel_21 ?_
      refine se_getf (pc := 22) clR 16 dR_fuel_22 wd_569 rfl (by decide) hO rfl ?_
      refine se_iload_n (pc := 25) rfl dR_fuel_25 ?_
      refine se_ialdN (pc := 26) 0 dR_fuel_26 rfl hR.2.2.2.2.2.2.2.2.2.2.2.2.2.2.1 (by omega) (by decide) ?_
      rw [rf_v_at]
      refine se_iload_n (pc := 27) rfl dR_fuel_27 ?_
      refine se_iadd (pc := 28) dR_fuel_28 ?_
      refine se_ldc (pc := 29) 1000000000 dR_fuel_29 wd_759 ?_
      refine se_icmp_gt (pc := 31) (tgt := 38) dR_fuel_31 (by decide) (fun q2 => ?_) (fun q2 => ?_)
      · refine se_iconst (pc := 38) 0 (by decide) dR_fuel_38 ?_
        refine se_invV (pc := 39) (as := [.int 1, .int 1, .int 0]) (st := []) (vok sc) kR_goes dR_fuel_39 ⟨wd_655, wd_657, sl_10, wd_3⟩ rfl hO rfl (Nat.le_of_ble_eq_true rfl) (Nat.le_of_ble_eq_true rfl) (g_goes (r := 0) 3 hR (by decide) (by decide)) (C2 := 0) (S2 := 0) (by omega) (by omega) (fun v39 h39 _ q39 => ?_) (fun x hx => absurd hx List.not_mem_nil) (fun v39 h39 _ q39 => ?_)
        rotate_left
        · cases q39.2.2
        obtain ⟨hR9, hf9, q39⟩ := q39
        cases q39
        have hO9 := hR9.1
        rw [hI.1, hI.2.2.1] at hO9
        refine se_if_ne (pc := 42) (tgt := 47) dR_fuel_42 (by decide) (fun q3 => absurd q3 (by decide)) (fun q3 => ?_)
        refine se_iconst (pc := 45) 0 (by decide) dR_fuel_45 ?_
        exact se_iret (pc := 46) dR_fuel_46 rfl (rPi_no 2 (by clear hR hO hR9 hO9 hf9; obtain ⟨X9, hX9, eX9⟩ := hQ.2.2.2.2.2.1 jv; first | (simp_all [sp_fuel, upd]; done) | (have hrm9 := rm_q (A := 1) (B := 1000000) (M := 1000000000) eX9 hX9 (by decide) (by assumption) (by decide) (by decide); clear hX9 eX9; simp only [show nI 1000000000 = (1000000000 : Int32) from rfl] at hrm9; cases hrmb : st_rm (S 18 jv 0) m 1000000000 <;> simp_all [sp_fuel, upd])) hR9 hf9)
      · refine se_iconst (pc := 34) 1 (by decide) dR_fuel_34 ?_
        refine se_goto (pc := 35) (tgt := 39) dR_fuel_35 (by decide) ?_
        refine se_invV (pc := 39) (as := [.int 1, .int 1, .int 1]) (st := []) (vok sc) kR_goes dR_fuel_39 ⟨wd_655, wd_657, sl_10, wd_3⟩ rfl hO rfl (Nat.le_of_ble_eq_true rfl) (Nat.le_of_ble_eq_true rfl) (g_goes (r := 1) 0 hR (by decide) (by decide)) (C2 := 0) (S2 := 0) (by omega) (by omega) (fun v39 h39 _ q39 => ?_) (fun x hx => absurd hx List.not_mem_nil) (fun v39 h39 _ q39 => ?_)
        rotate_left
        · cases q39.2.2
        obtain ⟨hR9, hf9, q39⟩ := q39
        cases q39
        have hO9 := hR9.1
        rw [hI.1, hI.2.2.1] at hO9
        refine se_if_ne (pc := 42) (tgt := 47) dR_fuel_42 (by decide) (fun q4 => ?_) (fun q4 => absurd q4 (by decide))
        refine se_aload_n (pc := 47) rfl dR_fuel_47 ?_
        refine se_getf (pc := 48) clR 16 dR_fuel_48 wd_569 rfl (by decide) hO9 rfl ?_
        refine se_iload_n (pc := 51) rfl dR_fuel_51 ?_
        refine se_aload_n (pc := 52) rfl dR_fuel_52 ?_
        refine se_getf (pc := 53) clR 16 dR_fuel_53 wd_569 rfl (by decide) hO9 rfl ?_
        refine se_iload_n (pc := 56) rfl dR_fuel_56 ?_
        refine se_ialdN (pc := 57) 0 dR_fuel_57 rfl hR9.2.2.2.2.2.2.2.2.2.2.2.2.2.2.1 (by omega) (by decide) ?_
        rw [rf_v_at]
        refine se_iload_n (pc := 58) rfl dR_fuel_58 ?_
        refine se_iadd (pc := 59) dR_fuel_59 ?_
        refine se_iastN (pc := 60) 0 dR_fuel_60 rfl hR9.2.2.2.2.2.2.2.2.2.2.2.2.2.2.1 (by omega) (by decide) ?_
        refine se_aload_n (pc := 61) rfl dR_fuel_61 ?_
        refine se_getf (pc := 62) clR 16 dR_fuel_62 wd_569 rfl (by decide) (st_ne hO9 (by omega)) rfl ?_
        refine se_iload_n (pc := 65) rfl dR_fuel_65 ?_
        refine se_ialdN (pc := 66) 0 dR_fuel_66 rfl (st_eq hR9.2.2.2.2.2.2.2.2.2.2.2.2.2.2.1) (by omega) (by decide) ?_
        exact se_iret (pc := 67) dR_fuel_67 rfl (rPi_ok (S' := st_up S 18 jv 0 (S 18 jv 0 + m)) (by clear hR hO hR9 hO9 hf9; obtain ⟨X9, hX9, eX9⟩ := hQ.2.2.2.2.2.1 jv; first | (simp_all [sp_fuel, upd]; done) | (have hrm9 := rm_q (A := 1) (B := 1000000) (M := 1000000000) eX9 hX9 (by decide) (by assumption) (by decide) (by decide); clear hX9 eX9; simp only [show nI 1000000000 = (1000000000 : Int32) from rfl] at hrm9; cases hrmb : st_rm (S 18 jv 0) m 1000000000 <;> simp_all [sp_fuel, upd])) ⟨rf_O (st_ne hO9 (by omega)) (by simp (decide := true) only [up_ne, up_v, ← hI.1, ← hI.2.2.1]) (by simp (decide := true) only [up_ne, up_v, ← hI.1, ← hI.2.2.1]) (by simp (decide := true) only [up_ne, up_v, ← hI.1, ← hI.2.2.1]), rf_R (st_ne hR9.2.1 (by omega)) (by simp (decide := true) only [rf_l_ne, rf_v_ne, rf_an_ne, rf_at_ne, rf_by_ne, rf_ky_ne, up_ne, up_eq, up_v, rf_v_up]), rf_R (st_ne hR9.2.2.1 (by omega)) (by simp (decide := true) only [rf_l_ne, rf_v_ne, rf_an_ne, rf_at_ne, rf_by_ne, rf_ky_ne, up_ne, up_eq, up_v, rf_v_up]), rf_R (st_ne hR9.2.2.2.1 (by omega)) (by simp (decide := true) only [rf_l_ne, rf_v_ne, rf_an_ne, rf_at_ne, rf_by_ne, rf_ky_ne, up_ne, up_eq, up_v, rf_v_up]), rf_R (st_ne hR9.2.2.2.2.1 (by omega)) (by simp (decide := true) only [rf_l_ne, rf_v_ne, rf_an_ne, rf_at_ne, rf_by_ne, rf_ky_ne, up_ne, up_eq, up_v, rf_v_up]), rf_R (st_ne hR9.2.2.2.2.2.1 (by omega)) (by simp (decide := true) only [rf_l_ne, rf_v_ne, rf_an_ne, rf_at_ne, rf_by_ne, rf_ky_ne, up_ne, up_eq, up_v, rf_v_up]), rf_R (st_ne hR9.2.2.2.2.2.2.1 (by omega)) (by simp (decide := true) only [rf_l_ne, rf_v_ne, rf_an_ne, rf_at_ne, rf_by_ne, rf_ky_ne, up_ne, up_eq, up_v, rf_v_up]), rf_R (st_ne hR9.2.2.2.2.2.2.2.1 (by omega)) (by simp (decide := true) only [rf_l_ne, rf_v_ne, rf_an_ne, rf_at_ne, rf_by_ne, rf_ky_ne, up_ne, up_eq, up_v, rf_v_up]), rf_R (st_ne hR9.2.2.2.2.2.2.2.2.1 (by omega)) (by simp (decide := true) only [rf_l_ne, rf_v_ne, rf_an_ne, rf_at_ne, rf_by_ne, rf_ky_ne, up_ne, up_eq, up_v, rf_v_up]), rf_R (st_ne hR9.2.2.2.2.2.2.2.2.2.1 (by omega)) (by simp (decide := true) only [rf_l_ne, rf_v_ne, rf_an_ne, rf_at_ne, rf_by_ne, rf_ky_ne, up_ne, up_eq, up_v, rf_v_up]), rf_R (st_ne hR9.2.2.2.2.2.2.2.2.2.2.1 (by omega)) (by simp (decide := true) only [rf_l_ne, rf_v_ne, rf_an_ne, rf_at_ne, rf_by_ne, rf_ky_ne, up_ne, up_eq, up_v, rf_v_up]), rf_R (st_ne hR9.2.2.2.2.2.2.2.2.2.2.2.1 (by omega)) (by simp (decide := true) only [rf_l_ne, rf_v_ne, rf_an_ne, rf_at_ne, rf_by_ne, rf_ky_ne, up_ne, up_eq, up_v, rf_v_up]), rf_R (st_ne hR9.2.2.2.2.2.2.2.2.2.2.2.2.1 (by omega)) (by simp (decide := true) only [rf_l_ne, rf_v_ne, rf_an_ne, rf_at_ne, rf_by_ne, rf_ky_ne, up_ne, up_eq, up_v, rf_v_up]), rf_R (st_ne hR9.2.2.2.2.2.2.2.2.2.2.2.2.2.1 (by omega)) (by simp (decide := true) only [rf_l_ne, rf_v_ne, rf_an_ne, rf_at_ne, rf_by_ne, rf_ky_ne, up_ne, up_eq, up_v, rf_v_up]), rf_R (st_eq hR9.2.2.2.2.2.2.2.2.2.2.2.2.2.2.1) (by simp (decide := true) only [rf_l_ne, rf_v_ne, rf_an_ne, rf_at_ne, rf_by_ne, rf_ky_ne, up_ne, up_eq, up_v, rf_v_up]), rf_R (st_ne hR9.2.2.2.2.2.2.2.2.2.2.2.2.2.2.2.1 (by omega)) (by simp (decide := true) only [rf_l_ne, rf_v_ne, rf_an_ne, rf_at_ne, rf_by_ne, rf_ky_ne, up_ne, up_eq, up_v, rf_v_up]), rf_R (st_ne hR9.2.2.2.2.2.2.2.2.2.2.2.2.2.2.2.2.1 (by omega)) (by simp (decide := true) only [rf_l_ne, rf_v_ne, rf_an_ne, rf_at_ne, rf_by_ne, rf_ky_ne, up_ne, up_eq, up_v, rf_v_up]), rf_R (st_ne hR9.2.2.2.2.2.2.2.2.2.2.2.2.2.2.2.2.2.1 (by omega)) (by simp (decide := true) only [rf_l_ne, rf_v_ne, rf_an_ne, rf_at_ne, rf_by_ne, rf_ky_ne, up_ne, up_eq, up_v, rf_v_up]), rf_R (st_ne hR9.2.2.2.2.2.2.2.2.2.2.2.2.2.2.2.2.2.2.1 (by omega)) (by simp (decide := true) only [rf_l_ne, rf_v_ne, rf_an_ne, rf_at_ne, rf_by_ne, rf_ky_ne, up_ne, up_eq, up_v, rf_v_up]), rf_R (st_ne hR9.2.2.2.2.2.2.2.2.2.2.2.2.2.2.2.2.2.2.2.1 (by omega)) (by simp (decide := true) only [rf_l_ne, rf_v_ne, rf_an_ne, rf_at_ne, rf_by_ne, rf_ky_ne, up_ne, up_eq, up_v, rf_v_up]), rf_R (st_ne hR9.2.2.2.2.2.2.2.2.2.2.2.2.2.2.2.2.2.2.2.2.1 (by omega)) (by simp (decide := true) only [rf_l_ne, rf_v_ne, rf_an_ne, rf_at_ne, rf_by_ne, rf_ky_ne, up_ne, up_eq, up_v, rf_v_up]), rf_R (st_ne hR9.2.2.2.2.2.2.2.2.2.2.2.2.2.2.2.2.2.2.2.2.2.1 (by omega)) (by simp (decide := true) only [rf_l_ne, rf_v_ne, rf_an_ne, rf_at_ne, rf_by_ne, rf_ky_ne, up_ne, up_eq, up_v, rf_v_up]), rf_R (st_ne hR9.2.2.2.2.2.2.2.2.2.2.2.2.2.2.2.2.2.2.2.2.2.2.1 (by omega)) (by simp (decide := true) only [rf_l_ne, rf_v_ne, rf_an_ne, rf_at_ne, rf_by_ne, rf_ky_ne, up_ne, up_eq, up_v, rf_v_up]), rf_R (st_ne hR9.2.2.2.2.2.2.2.2.2.2.2.2.2.2.2.2.2.2.2.2.2.2.2.1 (by omega)) (by simp (decide := true) only [rf_l_ne, rf_v_ne, rf_an_ne, rf_at_ne, rf_by_ne, rf_ky_ne, up_ne, up_eq, up_v, rf_v_up]), rf_R (st_ne hR9.2.2.2.2.2.2.2.2.2.2.2.2.2.2.2.2.2.2.2.2.2.2.2.2.1 (by omega)) (by simp (decide := true) only [rf_l_ne, rf_v_ne, rf_an_ne, rf_at_ne, rf_by_ne, rf_ky_ne, up_ne, up_eq, up_v, rf_v_up]), rf_R (st_ne hR9.2.2.2.2.2.2.2.2.2.2.2.2.2.2.2.2.2.2.2.2.2.2.2.2.2 (by omega)) (by simp (decide := true) only [rf_l_ne, rf_v_ne, rf_an_ne, rf_at_ne, rf_by_ne, rf_ky_ne, up_ne, up_eq, up_v, rf_v_up])⟩ (fR_tr hf9 (fR_set (by decide) (by decide))))
    · cases q10
      refine se_aload_n (pc := 13) rfl dR_fuel_13 ?_
      refine se_iload_n (pc := 14) rfl dR_fuel_14 ?_
      refine se_invV (pc := 15) (as := [.int (nI jv)]) (st := [.int 0, .int 1, .ref 41]) (vok sc) kR_isVehicle dR_fuel_15 ⟨wd_674, wd_676, sl_11, wd_3⟩ rfl hO rfl (Nat.le_of_ble_eq_true rfl) (Nat.le_of_ble_eq_true rfl) (x_R_vy (by omega) hR hI hjv) (C2 := 0) (S2 := 0) (by omega) (by omega) (fun v15 h15 _ q15 => ?_) (fun x hx => absurd hx List.not_mem_nil) (fun v15 h15 _ q15 => ?_)
      rotate_left
      · cases q15.2
      obtain ⟨h15e, q15⟩ := q15
      have h15f := h15e.symm
      subst h15f
      cases q15
      refine se_if_eq (pc := 18) (tgt := 38) dR_fuel_18 (by decide) (fun q5 => absurd q5 (by decide)) (fun q5 => ?_)
      refine se_aload_n (pc := 21) rfl dR_fuel_21 ?_
      refine se_getf (pc := 22) clR 16 dR_fuel_22 wd_569 rfl (by decide) hO rfl ?_
      refine se_iload_n (pc := 25) rfl dR_fuel_25 ?_
      refine se_ialdN (pc := 26) 0 dR_fuel_26 rfl hR.2.2.2.2.2.2.2.2.2.2.2.2.2.2.1 (by omega) (by decide) ?_
      rw [rf_v_at]
      refine se_iload_n (pc := 27) rfl dR_fuel_27 ?_
      refine se_iadd (pc := 28) dR_fuel_28 ?_
      refine se_ldc (pc := 29) 1000000000 dR_fuel_29 wd_759 ?_
      refine se_icmp_gt (pc := 31) (tgt := 38) dR_fuel_31 (by decide) (fun q6 => ?_) (fun q6 => ?_)
      · refine se_iconst (pc := 38) 0 (by decide) dR_fuel_38 ?_
        refine se_invV (pc := 39) (as := [.int 1, .int 0, .int 0]) (st := []) (vok sc) kR_goes dR_fuel_39 ⟨wd_655, wd_657, sl_10, wd_3⟩ rfl hO rfl (Nat.le_of_ble_eq_true rfl) (Nat.le_of_ble_eq_true rfl) (g_goes (r := 0) 2 hR (by decide) (by decide)) (C2 := 0) (S2 := 0) (by omega) (by omega) (fun v39 h39 _ q39 => ?_) (fun x hx => absurd hx List.not_mem_nil) (fun v39 h39 _ q39 => ?_)
        rotate_left
        · cases q39.2.2
        obtain ⟨hR9, hf9, q39⟩ := q39
        cases q39
        have hO9 := hR9.1
        rw [hI.1, hI.2.2.1] at hO9
        refine se_if_ne (pc := 42) (tgt := 47) dR_fuel_42 (by decide) (fun q7 => absurd q7 (by decide)) (fun q7 => ?_)
        refine se_iconst (pc := 45) 0 (by decide) dR_fuel_45 ?_
        exact se_iret (pc := 46) dR_fuel_46 rfl (rPi_no 1 (by clear hR hO hR9 hO9 hf9; simp_all [sp_fuel, upd]) hR9 hf9)
      · refine se_iconst (pc := 34) 1 (by decide) dR_fuel_34 ?_
        refine se_goto (pc := 35) (tgt := 39) dR_fuel_35 (by decide) ?_
        refine se_invV (pc := 39) (as := [.int 1, .int 0, .int 1]) (st := []) (vok sc) kR_goes dR_fuel_39 ⟨wd_655, wd_657, sl_10, wd_3⟩ rfl hO rfl (Nat.le_of_ble_eq_true rfl) (Nat.le_of_ble_eq_true rfl) (g_goes (r := 0) 2 hR (by decide) (by decide)) (C2 := 0) (S2 := 0) (by omega) (by omega) (fun v39 h39 _ q39 => ?_) (fun x hx => absurd hx List.not_mem_nil) (fun v39 h39 _ q39 => ?_)
        rotate_left
        · cases q39.2.2
        obtain ⟨hR9, hf9, q39⟩ := q39
        cases q39
        have hO9 := hR9.1
        rw [hI.1, hI.2.2.1] at hO9
        refine se_if_ne (pc := 42) (tgt := 47) dR_fuel_42 (by decide) (fun q8 => absurd q8 (by decide)) (fun q8 => ?_)
        refine se_iconst (pc := 45) 0 (by decide) dR_fuel_45 ?_
        exact se_iret (pc := 46) dR_fuel_46 rfl (rPi_no 1 (by clear hR hO hR9 hO9 hf9; simp_all [sp_fuel, upd]) hR9 hf9)
  · cases q3
    refine se_iload_n (pc := 6) rfl dR_fuel_6 ?_
    refine se_iconst (pc := 7) 1 (by decide) dR_fuel_7 ?_
    refine se_ldc (pc := 8) 1000000 dR_fuel_8 wd_723 ?_
    refine se_invS (pc := 10) (as := [.int m, .int 1, .int 1000000]) (st := [.int 0, .ref 41]) (vok sc) kR_in dR_fuel_10 ⟨wd_652, wd_653, wd_3⟩ rfl (Nat.le_of_ble_eq_true rfl) (Nat.le_of_ble_eq_true rfl) (x_R_in) (C2 := 0) (S2 := 0) (by omega) (by omega) (fun v10 h10 _ q10 => ?_) (fun x hx => absurd hx List.not_mem_nil) (fun v10 h10 _ q10 => ?_)
    rotate_left
    · rcases q10.2 with ⟨_, e⟩ | ⟨_, e⟩ <;> cases e
    obtain ⟨h10e, q10⟩ := q10
    have h10f := h10e.symm
    subst h10f
    rcases q10 with ⟨hi10, q10⟩ | ⟨hi10, q10⟩
    · cases q10
      refine se_aload_n (pc := 13) rfl dR_fuel_13 ?_
      refine se_iload_n (pc := 14) rfl dR_fuel_14 ?_
      refine se_invV (pc := 15) (as := [.int v]) (st := [.int 1, .int 0, .ref 41]) (vok sc) kR_isVehicle dR_fuel_15 ⟨wd_674, wd_676, sl_11, wd_3⟩ rfl hO rfl (Nat.le_of_ble_eq_true rfl) (Nat.le_of_ble_eq_true rfl) (x_R_vn (by omega) hR hI hxv) (C2 := 0) (S2 := 0) (by omega) (by omega) (fun v15 h15 _ q15 => ?_) (fun x hx => absurd hx List.not_mem_nil) (fun v15 h15 _ q15 => ?_)
      rotate_left
      · cases q15.2
      obtain ⟨h15e, q15⟩ := q15
      have h15f := h15e.symm
      subst h15f
      cases q15
      refine se_if_eq (pc := 18) (tgt := 38) dR_fuel_18 (by decide) (fun q9 => ?_) (fun q9 => absurd q9 (by decide))
      refine se_iconst (pc := 38) 0 (by decide) dR_fuel_38 ?_
      refine se_invV (pc := 39) (as := [.int 0, .int 1, .int 0]) (st := []) (vok sc) kR_goes dR_fuel_39 ⟨wd_655, wd_657, sl_10, wd_3⟩ rfl hO rfl (Nat.le_of_ble_eq_true rfl) (Nat.le_of_ble_eq_true rfl) (g_goes (r := 0) 1 hR (by decide) (by decide)) (C2 := 0) (S2 := 0) (by omega) (by omega) (fun v39 h39 _ q39 => ?_) (fun x hx => absurd hx List.not_mem_nil) (fun v39 h39 _ q39 => ?_)
      rotate_left
      · cases q39.2.2
      obtain ⟨hR9, hf9, q39⟩ := q39
      cases q39
      have hO9 := hR9.1
      rw [hI.1, hI.2.2.1] at hO9
      refine se_if_ne (pc := 42) (tgt := 47) dR_fuel_42 (by decide) (fun q10 => absurd q10 (by decide)) (fun q10 => ?_)
      refine se_iconst (pc := 45) 0 (by decide) dR_fuel_45 ?_
      exact se_iret (pc := 46) dR_fuel_46 rfl (rPi_no 0 (by clear hR hO hR9 hO9 hf9; simp_all [sp_fuel, upd]) hR9 hf9)
    · cases q10
      refine se_aload_n (pc := 13) rfl dR_fuel_13 ?_
      refine se_iload_n (pc := 14) rfl dR_fuel_14 ?_
      refine se_invV (pc := 15) (as := [.int v]) (st := [.int 0, .int 0, .ref 41]) (vok sc) kR_isVehicle dR_fuel_15 ⟨wd_674, wd_676, sl_11, wd_3⟩ rfl hO rfl (Nat.le_of_ble_eq_true rfl) (Nat.le_of_ble_eq_true rfl) (x_R_vn (by omega) hR hI hxv) (C2 := 0) (S2 := 0) (by omega) (by omega) (fun v15 h15 _ q15 => ?_) (fun x hx => absurd hx List.not_mem_nil) (fun v15 h15 _ q15 => ?_)
      rotate_left
      · cases q15.2
      obtain ⟨h15e, q15⟩ := q15
      have h15f := h15e.symm
      subst h15f
      cases q15
      refine se_if_eq (pc := 18) (tgt := 38) dR_fuel_18 (by decide) (fun q11 => ?_) (fun q11 => absurd q11 (by decide))
      refine se_iconst (pc := 38) 0 (by decide) dR_fuel_38 ?_
      refine se_invV (pc := 39) (as := [.int 0, .int 0, .int 0]) (st := []) (vok sc) kR_goes dR_fuel_39 ⟨wd_655, wd_657, sl_10, wd_3⟩ rfl hO rfl (Nat.le_of_ble_eq_true rfl) (Nat.le_of_ble_eq_true rfl) (g_goes (r := 0) 1 hR (by decide) (by decide)) (C2 := 0) (S2 := 0) (by omega) (by omega) (fun v39 h39 _ q39 => ?_) (fun x hx => absurd hx List.not_mem_nil) (fun v39 h39 _ q39 => ?_)
      rotate_left
      · cases q39.2.2
      obtain ⟨hR9, hf9, q39⟩ := q39
      cases q39
      have hO9 := hR9.1
      rw [hI.1, hI.2.2.1] at hO9
      refine se_if_ne (pc := 42) (tgt := 47) dR_fuel_42 (by decide) (fun q12 => absurd q12 (by decide)) (fun q12 => ?_)
      refine se_iconst (pc := 45) 0 (by decide) dR_fuel_45 ?_
      exact se_iret (pc := 46) dR_fuel_46 rfl (rPi_no 0 (by clear hR hO hR9 hO9 hf9; simp_all [sp_fuel, upd]) hR9 hf9)
set_option maxHeartbeats 1000000 in
set_option maxRecDepth 100000 in
theorem r_cost {v m : Int32} (hd : 3 ≤ d) (hR : is_R S t h) (hI : st_I S) (hQ : st_Q N S) (hN : N < 2 ^ 31) : se_W (vG sc) l d mR_cost 0 (se_ent 3 [.ref 41, .int v, .int m]) [] h 0 0 (rPi h (sp_cost S v m)) := by
  obtain ⟨d, rfl⟩ : ∃ e, d = e + 1 := ⟨d - 1, by omega⟩
  show se_W (vG sc) l (d + 1) mR_cost 0 [some (.ref 41), some (.int v), some (.int m)] [] h 0 0 _
  have hn20 := hI.2.1
  have hd100 := hI.2.2.2.1
  have hO := hR.1
  rw [hI.1, hI.2.2.1] at hO
  refine se_aload_n (pc := 0) rfl dR_cost_0 ?_
  refine se_aload_n (pc := 1) rfl dR_cost_1 ?_
  refine se_iload_n (pc := 2) rfl dR_cost_2 ?_
  refine se_invV (pc := 3) (as := [.int v]) (st := [.ref 41]) (vok sc) kR_isVehicle dR_cost_3 ⟨wd_674, wd_676, sl_11, wd_3⟩ rfl hO rfl (Nat.le_of_ble_eq_true rfl) (Nat.le_of_ble_eq_true rfl) (x_R_isVehicle (by omega) hR hI) (C2 := 0) (S2 := 0) (by omega) (by omega) (fun v3 h3 _ q3 => ?_) (fun x hx => absurd hx List.not_mem_nil) (fun v3 h3 _ q3 => ?_)
  rotate_left
  · rcases q3.2 with ⟨_, _, _, _, e⟩ | ⟨_, e⟩ <;> cases e
  obtain ⟨h3e, q3⟩ := q3
  have h3f := h3e.symm
  subst h3f
  rcases q3 with ⟨jv, hxv, hjv, rfl, q3⟩ | ⟨hxv, q3⟩
  · cases q3
    refine se_iload_n (pc := 6) rfl dR_cost_6 ?_
    refine se_iconst (pc := 7) 0 (by decide) dR_cost_7 ?_
    refine se_ldc (pc := 8) 10000000 dR_cost_8 wd_773 ?_
    refine se_invS (pc := 10) (as := [.int m, .int 0, .int 10000000]) (st := [.int 1, .ref 41]) (vok sc) kR_in dR_cost_10 ⟨wd_652, wd_653, wd_3⟩ rfl (Nat.le_of_ble_eq_true rfl) (Nat.le_of_ble_eq_true rfl) (x_R_in) (C2 := 0) (S2 := 0) (by omega) (by omega) (fun v10 h10 _ q10 => ?_) (fun x hx => absurd hx List.not_mem_nil) (fun v10 h10 _ q10 => ?_)
    rotate_left
    · rcases q10.2 with ⟨_, e⟩ | ⟨_, e⟩ <;> cases e
    obtain ⟨h10e, q10⟩ := q10
    have h10f := h10e.symm
    subst h10f
    rcases q10 with ⟨hi10, q10⟩ | ⟨hi10, q10⟩
    · cases q10
      refine se_aload_n (pc := 13) rfl dR_cost_13 ?_
      refine se_iload_n (pc := 14) rfl dR_cost_14 ?_
      refine se_invV (pc := 15) (as := [.int (nI jv)]) (st := [.int 1, .int 1, .ref 41]) (vok sc) kR_isVehicle dR_cost_15 ⟨wd_674, wd_676, sl_11, wd_3⟩ rfl hO rfl (Nat.le_of_ble_eq_true rfl) (Nat.le_of_ble_eq_true rfl) (x_R_vy (by omega) hR hI hjv) (C2 := 0) (S2 := 0) (by omega) (by omega) (fun v15 h15 _ q15 => ?_) (fun x hx => absurd hx List.not_mem_nil) (fun v15 h15 _ q15 => ?_)
      rotate_left
      · cases q15.2
      obtain ⟨h15e, q15⟩ := q15
      have h15f := h15e.symm
      subst h15f
      cases q15
      refine se_if_eq (pc := 18) (tgt := 38) dR_cost_18 (by decide) (fun q1 => absurd q1 (by decide)) (fun q1 => ?_)
      refine se_aload_n (pc := 21) rfl dR_cost_21 ?_
      refine se_getf (pc := 22) clR 17 dR_cost_22 wd_570 rfl (by decide) hO rfl ?_
      refine se_iload_n (pc := 25) rfl dR_cost_25 ?_
      refine se_ialdN (pc := 26) 0 dR_cost_26 rfl hR.2.2.2.2.2.2.2.2.2.2.2.2.2.2.2.1 (by omega) (by decide) ?_
      rw [rf_v_at]
      refine se_iload_n (pc := 27) rfl dR_cost_27 ?_
      refine se_iadd (pc := 28) dR_cost_28 ?_
      refine se_ldc (pc := 29) 1000000000 dR_cost_29 wd_759 ?_
      refine se_icmp_gt (pc := 31) (tgt := 38) dR_cost_31 (by decide) (fun q2 => ?_) (fun q2 => ?_)
      · refine se_iconst (pc := 38) 0 (by decide) dR_cost_38 ?_
        refine se_invV (pc := 39) (as := [.int 1, .int 1, .int 0]) (st := []) (vok sc) kR_goes dR_cost_39 ⟨wd_655, wd_657, sl_10, wd_3⟩ rfl hO rfl (Nat.le_of_ble_eq_true rfl) (Nat.le_of_ble_eq_true rfl) (g_goes (r := 0) 3 hR (by decide) (by decide)) (C2 := 0) (S2 := 0) (by omega) (by omega) (fun v39 h39 _ q39 => ?_) (fun x hx => absurd hx List.not_mem_nil) (fun v39 h39 _ q39 => ?_)
        rotate_left
        · cases q39.2.2
        obtain ⟨hR9, hf9, q39⟩ := q39
        cases q39
        have hO9 := hR9.1
        rw [hI.1, hI.2.2.1] at hO9
        refine se_if_ne (pc := 42) (tgt := 47) dR_cost_42 (by decide) (fun q3 => absurd q3 (by decide)) (fun q3 => ?_)
        refine se_iconst (pc := 45) 0 (by decide) dR_cost_45 ?_
        exact se_iret (pc := 46) dR_cost_46 rfl (rPi_no 2 (by clear hR hO hR9 hO9 hf9; obtain ⟨X9, hX9, eX9⟩ := hQ.2.2.2.2.2.2.1 jv; first | (simp_all [sp_cost, upd]; done) | (have hrm9 := rm_q (A := 0) (B := 10000000) (M := 1000000000) eX9 hX9 (by decide) (by assumption) (by decide) (by decide); clear hX9 eX9; simp only [show nI 1000000000 = (1000000000 : Int32) from rfl] at hrm9; cases hrmb : st_rm (S 19 jv 0) m 1000000000 <;> simp_all [sp_cost, upd])) hR9 hf9)
      · refine se_iconst (pc := 34) 1 (by decide) dR_cost_34 ?_
        refine se_goto (pc := 35) (tgt := 39) dR_cost_35 (by decide) ?_
        refine se_invV (pc := 39) (as := [.int 1, .int 1, .int 1]) (st := []) (vok sc) kR_goes dR_cost_39 ⟨wd_655, wd_657, sl_10, wd_3⟩ rfl hO rfl (Nat.le_of_ble_eq_true rfl) (Nat.le_of_ble_eq_true rfl) (g_goes (r := 1) 0 hR (by decide) (by decide)) (C2 := 0) (S2 := 0) (by omega) (by omega) (fun v39 h39 _ q39 => ?_) (fun x hx => absurd hx List.not_mem_nil) (fun v39 h39 _ q39 => ?_)
        rotate_left
        · cases q39.2.2
        obtain ⟨hR9, hf9, q39⟩ := q39
        cases q39
        have hO9 := hR9.1
        rw [hI.1, hI.2.2.1] at hO9
        refine se_if_ne (pc := 42) (tgt := 47) dR_cost_42 (by decide) (fun q4 => ?_) (fun q4 => absurd q4 (by decide))
        refine se_aload_n (pc := 47) rfl dR_cost_47 ?_
        refine se_getf (pc := 48) clR 17 dR_cost_48 wd_570 rfl (by decide) hO9 rfl ?_
        refine se_iload_n (pc := 51) rfl dR_cost_51 ?_
        refine se_aload_n (pc := 52) rfl dR_cost_52 ?_
        refine se_getf (pc := 53) clR 17 dR_cost_53 wd_570 rfl (by decide) hO9 rfl ?_
        refine se_iload_n (pc := 56) rfl dR_cost_56 ?_
        refine se_ialdN (pc := 57) 0 dR_cost_57 rfl hR9.2.2.2.2.2.2.2.2.2.2.2.2.2.2.2.1 (by omega) (by decide) ?_
        rw [rf_v_at]
        refine se_iload_n (pc := 58) rfl dR_cost_58 ?_
        refine se_iadd (pc := 59) dR_cost_59 ?_
        refine se_iastN (pc := 60) 0 dR_cost_60 rfl hR9.2.2.2.2.2.2.2.2.2.2.2.2.2.2.2.1 (by omega) (by decide) ?_
        refine se_aload_n (pc := 61) rfl dR_cost_61 ?_
        refine se_getf (pc := 62) clR 17 dR_cost_62 wd_570 rfl (by decide) (st_ne hO9 (by omega)) rfl ?_
        refine se_iload_n (pc := 65) rfl dR_cost_65 ?_
        refine se_ialdN (pc := 66) 0 dR_cost_66 rfl (st_eq hR9.2.2.2.2.2.2.2.2.2.2.2.2.2.2.2.1) (by omega) (by decide) ?_
        exact se_iret (pc := 67) dR_cost_67 rfl (rPi_ok (S' := st_up S 19 jv 0 (S 19 jv 0 + m)) (by clear hR hO hR9 hO9 hf9; obtain ⟨X9, hX9, eX9⟩ := hQ.2.2.2.2.2.2.1 jv; first | (simp_all [sp_cost, upd]; done) | (have hrm9 := rm_q (A := 0) (B := 10000000) (M := 1000000000) eX9 hX9 (by decide) (by assumption) (by decide) (by decide); clear hX9 eX9; simp only [show nI 1000000000 = (1000000000 : Int32) from rfl] at hrm9; cases hrmb : st_rm (S 19 jv 0) m 1000000000 <;> simp_all [sp_cost, upd])) ⟨rf_O (st_ne hO9 (by omega)) (by simp (decide := true) only [up_ne, up_v, ← hI.1, ← hI.2.2.1]) (by simp (decide := true) only [up_ne, up_v, ← hI.1, ← hI.2.2.1]) (by simp (decide := true) only [up_ne, up_v, ← hI.1, ← hI.2.2.1]), rf_R (st_ne hR9.2.1 (by omega)) (by simp (decide := true) only [rf_l_ne, rf_v_ne, rf_an_ne, rf_at_ne, rf_by_ne, rf_ky_ne, up_ne, up_eq, up_v, rf_v_up]), rf_R (st_ne hR9.2.2.1 (by omega)) (by simp (decide := true) only [rf_l_ne, rf_v_ne, rf_an_ne, rf_at_ne, rf_by_ne, rf_ky_ne, up_ne, up_eq, up_v, rf_v_up]), rf_R (st_ne hR9.2.2.2.1 (by omega)) (by simp (decide := true) only [rf_l_ne, rf_v_ne, rf_an_ne, rf_at_ne, rf_by_ne, rf_ky_ne, up_ne, up_eq, up_v, rf_v_up]), rf_R (st_ne hR9.2.2.2.2.1 (by omega)) (by simp (decide := true) only [rf_l_ne, rf_v_ne, rf_an_ne, rf_at_ne, rf_by_ne, rf_ky_ne, up_ne, up_eq, up_v, rf_v_up]), rf_R (st_ne hR9.2.2.2.2.2.1 (by omega)) (by simp (decide := true) only [rf_l_ne, rf_v_ne, rf_an_ne, rf_at_ne, rf_by_ne, rf_ky_ne, up_ne, up_eq, up_v, rf_v_up]), rf_R (st_ne hR9.2.2.2.2.2.2.1 (by omega)) (by simp (decide := true) only [rf_l_ne, rf_v_ne, rf_an_ne, rf_at_ne, rf_by_ne, rf_ky_ne, up_ne, up_eq, up_v, rf_v_up]), rf_R (st_ne hR9.2.2.2.2.2.2.2.1 (by omega)) (by simp (decide := true) only [rf_l_ne, rf_v_ne, rf_an_ne, rf_at_ne, rf_by_ne, rf_ky_ne, up_ne, up_eq, up_v, rf_v_up]), rf_R (st_ne hR9.2.2.2.2.2.2.2.2.1 (by omega)) (by simp (decide := true) only [rf_l_ne, rf_v_ne, rf_an_ne, rf_at_ne, rf_by_ne, rf_ky_ne, up_ne, up_eq, up_v, rf_v_up]), rf_R (st_ne hR9.2.2.2.2.2.2.2.2.2.1 (by omega)) (by simp (decide := true) only [rf_l_ne, rf_v_ne, rf_an_ne, rf_at_ne, rf_by_ne, rf_ky_ne, up_ne, up_eq, up_v, rf_v_up]), rf_R (st_ne hR9.2.2.2.2.2.2.2.2.2.2.1 (by omega)) (by simp (decide := true) only [rf_l_ne, rf_v_ne, rf_an_ne, rf_at_ne, rf_by_ne, rf_ky_ne, up_ne, up_eq, up_v, rf_v_up]), rf_R (st_ne hR9.2.2.2.2.2.2.2.2.2.2.2.1 (by omega)) (by simp (decide := true) only [rf_l_ne, rf_v_ne, rf_an_ne, rf_at_ne, rf_by_ne, rf_ky_ne, up_ne, up_eq, up_v, rf_v_up]), rf_R (st_ne hR9.2.2.2.2.2.2.2.2.2.2.2.2.1 (by omega)) (by simp (decide := true) only [rf_l_ne, rf_v_ne, rf_an_ne, rf_at_ne, rf_by_ne, rf_ky_ne, up_ne, up_eq, up_v, rf_v_up]), rf_R (st_ne hR9.2.2.2.2.2.2.2.2.2.2.2.2.2.1 (by omega)) (by simp (decide := true) only [rf_l_ne, rf_v_ne, rf_an_ne, rf_at_ne, rf_by_ne, rf_ky_ne, up_ne, up_eq, up_v, rf_v_up]), rf_R (st_ne hR9.2.2.2.2.2.2.2.2.2.2.2.2.2.2.1 (by omega)) (by simp (decide := true) only [rf_l_ne, rf_v_ne, rf_an_ne, rf_at_ne, rf_by_ne, rf_ky_ne, up_ne, up_eq, up_v, rf_v_up]), rf_R (st_eq hR9.2.2.2.2.2.2.2.2.2.2.2.2.2.2.2.1) (by simp (decide := true) only [rf_l_ne, rf_v_ne, rf_an_ne, rf_at_ne, rf_by_ne, rf_ky_ne, up_ne, up_eq, up_v, rf_v_up]), rf_R (st_ne hR9.2.2.2.2.2.2.2.2.2.2.2.2.2.2.2.2.1 (by omega)) (by simp (decide := true) only [rf_l_ne, rf_v_ne, rf_an_ne, rf_at_ne, rf_by_ne, rf_ky_ne, up_ne, up_eq, up_v, rf_v_up]), rf_R (st_ne hR9.2.2.2.2.2.2.2.2.2.2.2.2.2.2.2.2.2.1 (by omega)) (by simp (decide := true) only [rf_l_ne, rf_v_ne, rf_an_ne, rf_at_ne, rf_by_ne, rf_ky_ne, up_ne, up_eq, up_v, rf_v_up]), rf_R (st_ne hR9.2.2.2.2.2.2.2.2.2.2.2.2.2.2.2.2.2.2.1 (by omega)) (by simp (decide := true) only [rf_l_ne, rf_v_ne, rf_an_ne, rf_at_ne, rf_by_ne, rf_ky_ne, up_ne, up_eq, up_v, rf_v_up]), rf_R (st_ne hR9.2.2.2.2.2.2.2.2.2.2.2.2.2.2.2.2.2.2.2.1 (by omega)) (by simp (decide := true) only [rf_l_ne, rf_v_ne, rf_an_ne, rf_at_ne, rf_by_ne, rf_ky_ne, up_ne, up_eq, up_v, rf_v_up]), rf_R (st_ne hR9.2.2.2.2.2.2.2.2.2.2.2.2.2.2.2.2.2.2.2.2.1 (by omega)) (by simp (decide := true) only [rf_l_ne, rf_v_ne, rf_an_ne, rf_at_ne, rf_by_ne, rf_ky_ne, up_ne, up_eq, up_v, rf_v_up]), rf_R (st_ne hR9.2.2.2.2.2.2.2.2.2.2.2.2.2.2.2.2.2.2.2.2.2.1 (by omega)) (by simp (decide := true) only [rf_l_ne, rf_v_ne, rf_an_ne, rf_at_ne, rf_by_ne, rf_ky_ne, up_ne, up_eq, up_v, rf_v_up]), rf_R (st_ne hR9.2.2.2.2.2.2.2.2.2.2.2.2.2.2.2.2.2.2.2.2.2.2.1 (by omega)) (by simp (decide := true) only [rf_l_ne, rf_v_ne, rf_an_ne, rf_at_ne, rf_by_ne, rf_ky_ne, up_ne, up_eq, up_v, rf_v_up]), rf_R (st_ne hR9.2.2.2.2.2.2.2.2.2.2.2.2.2.2.2.2.2.2.2.2.2.2.2.1 (by omega)) (by simp (decide := true) only [rf_l_ne, rf_v_ne, rf_an_ne, rf_at_ne, rf_by_ne, rf_ky_ne, up_ne, up_eq, up_v, rf_v_up]), rf_R (st_ne hR9.2.2.2.2.2.2.2.2.2.2.2.2.2.2.2.2.2.2.2.2.2.2.2.2.1 (by omega)) (by simp (decide := true) only [rf_l_ne, rf_v_ne, rf_an_ne, rf_at_ne, rf_by_ne, rf_ky_ne, up_ne, up_eq, up_v, rf_v_up]), rf_R (st_ne hR9.2.2.2.2.2.2.2.2.2.2.2.2.2.2.2.2.2.2.2.2.2.2.2.2.2 (by omega)) (by simp (decide := true) only [rf_l_ne, rf_v_ne, rf_an_ne, rf_at_ne, rf_by_ne, rf_ky_ne, up_ne, up_eq, up_v, rf_v_up])⟩ (fR_tr hf9 (fR_set (by decide) (by decide))))
    · cases q10
      refine se_aload_n (pc := 13) rfl dR_cost_13 ?_
      refine se_iload_n (pc := 14) rfl dR_cost_14 ?_
      refine se_invV (pc := 15) (as := [.int (nI jv)]) (st := [.int 0, .int 1, .ref 41]) (vok sc) kR_isVehicle dR_cost_15 ⟨wd_674, wd_676, sl_11, wd_3⟩ rfl hO rfl (Nat.le_of_ble_eq_true rfl) (Nat.le_of_ble_eq_true rfl) (x_R_vy (by omega) hR hI hjv) (C2 := 0) (S2 := 0) (by omega) (by omega) (fun v15 h15 _ q15 => ?_) (fun x hx => absurd hx List.not_mem_nil) (fun v15 h15 _ q15 => ?_)
      rotate_left
      · cases q15.2
      obtain ⟨h15e, q15⟩ := q15
      have h15f := h15e.symm
      subst h15f
      cases q15
      refine se_if_eq (pc := 18) (tgt := 38) dR_cost_18 (by decide) (fun q5 => absurd q5 (by decide)) (fun q5 => ?_)
      refine se_aload_n (pc := 21) rfl dR_cost_21 ?_
      refine se_getf (pc := 22) clR 17 dR_cost_22 wd_570 rfl (by decide) hO rfl ?_
      refine se_iload_n (pc := 25) rfl dR_cost_25 ?_
      refine se_ialdN (pc := 26) 0 dR_cost_26 rfl hR.2.2.2.2.2.2.2.2.2.2.2.2.2.2.2.1 (by omega) (by decide) ?_
      rw [rf_v_at]
      refine se_iload_n (pc := 27) rfl dR_cost_27 ?_
      refine se_iadd (pc := 28) dR_cost_28 ?_
      refine se_ldc (pc := 29) 1000000000 dR_cost_29 wd_759 ?_
      refine se_icmp_gt (pc := 31) (tgt := 38) dR_cost_31 (by decide) (fun q6 => ?_) (fun q6 => ?_)
      · refine se_iconst (pc := 38) 0 (by decide) dR_cost_38 ?_
        refine se_invV (pc := 39) (as := [.int 1, .int 0, .int 0]) (st := []) (vok sc) kR_goes dR_cost_39 ⟨wd_655, wd_657, sl_10, wd_3⟩ rfl hO rfl (Nat.le_of_ble_eq_true rfl) (Nat.le_of_ble_eq_true rfl) (g_goes (r := 0) 2 hR (by decide) (by decide)) (C2 := 0) (S2 := 0) (by omega) (by omega) (fun v39 h39 _ q39 => ?_) (fun x hx => absurd hx List.not_mem_nil) (fun v39 h39 _ q39 => ?_)
        rotate_left
        · cases q39.2.2
        obtain ⟨hR9, hf9, q39⟩ := q39
        cases q39
        have hO9 := hR9.1
        rw [hI.1, hI.2.2.1] at hO9
        refine se_if_ne (pc := 42) (tgt := 47) dR_cost_42 (by decide) (fun q7 => absurd q7 (by decide)) (fun q7 => ?_)
        refine se_iconst (pc := 45) 0 (by decide) dR_cost_45 ?_
        exact se_iret (pc := 46) dR_cost_46 rfl (rPi_no 1 (by clear hR hO hR9 hO9 hf9; simp_all [sp_cost, upd]) hR9 hf9)
      · refine se_iconst (pc := 34) 1 (by decide) dR_cost_34 ?_
        refine se_goto (pc := 35) (tgt := 39) dR_cost_35 (by decide) ?_
        refine se_invV (pc := 39) (as := [.int 1, .int 0, .int 1]) (st := []) (vok sc) kR_goes dR_cost_39 ⟨wd_655, wd_657, sl_10, wd_3⟩ rfl hO rfl (Nat.le_of_ble_eq_true rfl) (Nat.le_of_ble_eq_true rfl) (g_goes (r := 0) 2 hR (by decide) (by decide)) (C2 := 0) (S2 := 0) (by omega) (by omega) (fun v39 h39 _ q39 => ?_) (fun x hx => absurd hx List.not_mem_nil) (fun v39 h39 _ q39 => ?_)
        rotate_left
        · cases q39.2.2
        obtain ⟨hR9, hf9, q39⟩ := q39
        cases q39
        have hO9 := hR9.1
        rw [hI.1, hI.2.2.1] at hO9
        refine se_if_ne (pc := 42) (tgt := 47) dR_cost_42 (by decide) (fun q8 => absurd q8 (by decide)) (fun q8 => ?_)
        refine se_iconst (pc := 45) 0 (by decide) dR_cost_45 ?_
        exact se_iret (pc := 46) dR_cost_46 rfl (rPi_no 1 (by clear hR hO hR9 hO9 hf9; simp_all [sp_cost, upd]) hR9 hf9)
  · cases q3
    refine se_iload_n (pc := 6) rfl dR_cost_6 ?_
    refine se_iconst (pc := 7) 0 (by decide) dR_cost_7 ?_
    refine se_ldc (pc := 8) 10000000 dR_cost_8 wd_773 ?_
    refine se_invS (pc := 10) (as := [.int m, .int 0, .int 10000000]) (st := [.int 0, .ref 41]) (vok sc) kR_in dR_cost_10 ⟨wd_652, wd_653, wd_3⟩ rfl (Nat.le_of_ble_eq_true rfl) (Nat.le_of_ble_eq_true rfl) (x_R_in) (C2 := 0) (S2 := 0) (by omega) (by omega) (fun v10 h10 _ q10 => ?_) (fun x hx => absurd hx List.not_mem_nil) (fun v10 h10 _ q10 => ?_)
    rotate_left
    · rcases q10.2 with ⟨_, e⟩ | ⟨_, e⟩ <;> cases e
    obtain ⟨h10e, q10⟩ := q10
    have h10f := h10e.symm
    subst h10f
    rcases q10 with ⟨hi10, q10⟩ | ⟨hi10, q10⟩
    · cases q10
      refine se_aload_n (pc := 13) rfl dR_cost_13 ?_
      refine se_iload_n (pc := 14) rfl dR_cost_14 ?_
      refine se_invV (pc := 15) (as := [.int v]) (st := [.int 1, .int 0, .ref 41]) (vok sc) kR_isVehicle dR_cost_15 ⟨wd_674, wd_676, sl_11, wd_3⟩ rfl hO rfl (Nat.le_of_ble_eq_true rfl) (Nat.le_of_ble_eq_true rfl) (x_R_vn (by omega) hR hI hxv) (C2 := 0) (S2 := 0) (by omega) (by omega) (fun v15 h15 _ q15 => ?_) (fun x hx => absurd hx List.not_mem_nil) (fun v15 h15 _ q15 => ?_)
      rotate_left
      · cases q15.2
      obtain ⟨h15e, q15⟩ := q15
      have h15f := h15e.symm
      subst h15f
      cases q15
      refine se_if_eq (pc := 18) (tgt := 38) dR_cost_18 (by decide) (fun q9 => ?_) (fun q9 => absurd q9 (by decide))
      refine se_iconst (pc := 38) 0 (by decide) dR_cost_38 ?_
      refine se_invV (pc := 39) (as := [.int 0, .int 1, .int 0]) (st := []) (vok sc) kR_goes dR_cost_39 ⟨wd_655, wd_657, sl_10, wd_3⟩ rfl hO rfl (Nat.le_of_ble_eq_true rfl) (Nat.le_of_ble_eq_true rfl) (g_goes (r := 0) 1 hR (by decide) (by decide)) (C2 := 0) (S2 := 0) (by omega) (by omega) (fun v39 h39 _ q39 => ?_) (fun x hx => absurd hx List.not_mem_nil) (fun v39 h39 _ q39 => ?_)
      rotate_left
      · cases q39.2.2
      obtain ⟨hR9, hf9, q39⟩ := q39
      cases q39
      have hO9 := hR9.1
      rw [hI.1, hI.2.2.1] at hO9
      refine se_if_ne (pc := 42) (tgt := 47) dR_cost_42 (by decide) (fun q10 => absurd q10 (by decide)) (fun q10 => ?_)
      refine se_iconst (pc := 45) 0 (by decide) dR_cost_45 ?_
      exact se_iret (pc := 46) dR_cost_46 rfl (rPi_no 0 (by clear hR hO hR9 hO9 hf9; simp_all [sp_cost, upd]) hR9 hf9)
    · cases q10
      refine se_aload_n (pc := 13) rfl dR_cost_13 ?_
      refine se_iload_n (pc := 14) rfl dR_cost_14 ?_
      refine se_invV (pc := 15) (as := [.int v]) (st := [.int 0, .int 0, .ref 41]) (vok sc) kR_isVehicle dR_cost_15 ⟨wd_674, wd_676, sl_11, wd_3⟩ rfl hO rfl (Nat.le_of_ble_eq_true rfl) (Nat.le_of_ble_eq_true rfl) (x_R_vn (by omega) hR hI hxv) (C2 := 0) (S2 := 0) (by omega) (by omega) (fun v15 h15 _ q15 => ?_) (fun x hx => absurd hx List.not_mem_nil) (fun v15 h15 _ q15 => ?_)
      rotate_left
      · cases q15.2
      obtain ⟨h15e, q15⟩ := q15
      have h15f := h15e.symm
      subst h15f
      cases q15
      refine se_if_eq (pc := 18) (tgt := 38) dR_cost_18 (by decide) (fun q11 => ?_) (fun q11 => absurd q11 (by decide))
      refine se_iconst (pc := 38) 0 (by decide) dR_cost_38 ?_
      refine se_invV (pc := 39) (as := [.int 0, .int 0, .int 0]) (st := []) (vok sc) kR_goes dR_cost_39 ⟨wd_655, wd_657, sl_10, wd_3⟩ rfl hO rfl (Nat.le_of_ble_eq_true rfl) (Nat.le_of_ble_eq_true rfl) (g_goes (r := 0) 1 hR (by decide) (by decide)) (C2 := 0) (S2 := 0) (by omega) (by omega) (fun v39 h39 _ q39 => ?_) (fun x hx => absurd hx List.not_mem_nil) (fun v39 h39 _ q39 => ?_)
      rotate_left
      · cases q39.2.2
      obtain ⟨hR9, hf9, q39⟩ := q39
      cases q39
      have hO9 := hR9.1
      rw [hI.1, hI.2.2.1] at hO9
      refine se_if_ne (pc := 42) (tgt := 47) dR_cost_42 (by decide) (fun q12 => absurd q12 (by decide)) (fun q12 => ?_)
      refine se_iconst (pc := 45) 0 (by decide) dR_cost_45 ?_
      exact se_iret (pc := 46) dR_cost_46 rfl (rPi_no 0 (by clear hR hO hR9 hO9 hf9; simp_all [sp_cost, upd]) hR9 hf9)
set_option maxHeartbeats 1000000 in
set_option maxRecDepth 100000 in
theorem r_off {v b p q : Int32} (hd : 3 ≤ d) (hR : is_R S t h) (hI : st_I S) (hQ : st_Q N S) (hN : N < 2 ^ 31) (hb : b = 0 ∨ b = 1) : se_W (vG sc) l d mR_off 0 (se_ent 6 [.ref 41, .int v, .int b, .int p, .int q]) [] h 0 0 (rPv h (sp_off S v b p q)) := by
  obtain ⟨d, rfl⟩ : ∃ e, d = e + 1 := ⟨d - 1, by omega⟩
  show se_W (vG sc) l (d + 1) mR_off 0 [some (.ref 41), some (.int v), some (.int b), some (.int p), some (.int q), none] [] h 0 0 _
  have hn20 := hI.2.1
  have hd100 := hI.2.2.2.1
  have hO := hR.1
  rw [hI.1, hI.2.2.1] at hO
  refine se_aload_n (pc := 0) rfl dR_off_0 ?_
  refine se_iload_n (pc := 1) rfl dR_off_1 ?_
  refine se_invV (pc := 2) (as := [.int v]) (st := []) (vok sc) kR_isVehicle dR_off_2 ⟨wd_674, wd_676, sl_11, wd_3⟩ rfl hO rfl (Nat.le_of_ble_eq_true rfl) (Nat.le_of_ble_eq_true rfl) (x_R_isVehicle (by omega) hR hI) (C2 := 0) (S2 := 0) (by omega) (by omega) (fun v2 h2 _ q2 => ?_) (fun x hx => absurd hx List.not_mem_nil) (fun v2 h2 _ q2 => ?_)
  rotate_left
  · rcases q2.2 with ⟨_, _, _, _, e⟩ | ⟨_, e⟩ <;> cases e
  obtain ⟨h2e, q2⟩ := q2
  have h2f := h2e.symm
  subst h2f
  rcases q2 with ⟨jv, hxv, hjv, rfl, q2⟩ | ⟨hxv, q2⟩
  · cases q2
    refine se_if_eq (pc := 5) (tgt := 27) dR_off_5 (by decide) (fun q1 => absurd q1 (by decide)) (fun q1 => ?_)
    refine se_iload_n (pc := 8) rfl dR_off_8 ?_
    refine se_invS (pc := 9) (as := [.int p]) (st := []) (vok sc) kR_isPerson dR_off_9 ⟨wd_678, wd_679, wd_3⟩ rfl (Nat.le_of_ble_eq_true rfl) (Nat.le_of_ble_eq_true rfl) (x_R_isPerson (by omega)) (C2 := 0) (S2 := 0) (by omega) (by omega) (fun v9 h9 _ q9 => ?_) (fun x hx => absurd hx List.not_mem_nil) (fun v9 h9 _ q9 => ?_)
    rotate_left
    · rcases q9.2 with ⟨_, _, _, _, e⟩ | ⟨_, e⟩ <;> cases e
    obtain ⟨h9e, q9⟩ := q9
    have h9f := h9e.symm
    subst h9f
    rcases q9 with ⟨jp, hxp, hjp, rfl, q9⟩ | ⟨hxp, q9⟩
    · cases q9
      refine se_if_eq (pc := 12) (tgt := 27) dR_off_12 (by decide) (fun q2 => absurd q2 (by decide)) (fun q2 => ?_)
      refine se_iload (pc := 15) rfl dR_off_15 ?_
      refine se_invS (pc := 17) (as := [.int q]) (st := []) (vok sc) kR_isPerson dR_off_17 ⟨wd_678, wd_679, wd_3⟩ rfl (Nat.le_of_ble_eq_true rfl) (Nat.le_of_ble_eq_true rfl) (x_R_isPerson (by omega)) (C2 := 0) (S2 := 0) (by omega) (by omega) (fun v17 h17 _ q17 => ?_) (fun x hx => absurd hx List.not_mem_nil) (fun v17 h17 _ q17 => ?_)
      rotate_left
      · rcases q17.2 with ⟨_, _, _, _, e⟩ | ⟨_, e⟩ <;> cases e
      obtain ⟨h17e, q17⟩ := q17
      have h17f := h17e.symm
      subst h17f
      rcases q17 with ⟨jq, hxq, hjq, rfl, q17⟩ | ⟨hxq, q17⟩
      · cases q17
        refine se_if_eq (pc := 20) (tgt := 27) dR_off_20 (by decide) (fun q3 => absurd q3 (by decide)) (fun q3 => ?_)
        refine se_iconst (pc := 23) 1 (by decide) dR_off_23 ?_
        refine se_goto (pc := 24) (tgt := 28) dR_off_24 (by decide) ?_
        refine se_istore (pc := 28) dR_off_28 (by decide) [some (.ref 41), some (.int (nI jv)), some (.int b), some (.int (nI jp)), some (.int (nI jq)), some (.int 1)] rfl ?_
        refine se_aload_n (pc := 30) rfl dR_off_30 ?_
        refine se_iload (pc := 31) rfl dR_off_31 ?_
        refine se_iload (pc := 33) rfl dR_off_33 ?_
        refine se_if_eq (pc := 35) (tgt := 58) dR_off_35 (by decide) (fun q4 => absurd q4 (by decide)) (fun q4 => ?_)
        refine se_aload_n (pc := 38) rfl dR_off_38 ?_
        refine se_getf (pc := 39) clR 11 dR_off_39 wd_564 rfl (by decide) hO rfl ?_
        refine se_iload_n (pc := 42) rfl dR_off_42 ?_
        refine se_zaldN (pc := 43) 1 dR_off_43 rfl hR.2.2.2.2.2.2.2.2.2.1 (by omega) (by decide) ?_
        rw [rf_v_at]
        refine se_iload_n (pc := 44) rfl dR_off_44 ?_
        refine se_icmp_eq (pc := 45) (tgt := 58) dR_off_45 (by decide) (fun q5 => ?_) (fun q5 => ?_)
        · refine se_iconst (pc := 58) 0 (by decide) dR_off_58 ?_
          refine se_iconst (pc := 59) 1 (by decide) dR_off_59 ?_
          refine se_invV (pc := 60) (as := [.int 1, .int 0, .int 1]) (st := []) (vok sc) kR_goes dR_off_60 ⟨wd_655, wd_657, sl_10, wd_3⟩ rfl hO rfl (Nat.le_of_ble_eq_true rfl) (Nat.le_of_ble_eq_true rfl) (g_goes (r := 0) 2 hR (by decide) (by decide)) (C2 := 0) (S2 := 0) (by omega) (by omega) (fun v60 h60 _ q60 => ?_) (fun x hx => absurd hx List.not_mem_nil) (fun v60 h60 _ q60 => ?_)
          rotate_left
          · cases q60.2.2
          obtain ⟨hR9, hf9, q60⟩ := q60
          cases q60
          have hO9 := hR9.1
          rw [hI.1, hI.2.2.1] at hO9
          refine se_if_eq (pc := 63) (tgt := 73) dR_off_63 (by decide) (fun q6 => ?_) (fun q6 => absurd q6 (by decide))
          exact se_vret (pc := 73) dR_off_73 rfl (rPv_ok 2 (by clear hR hO hR9 hO9 hf9; simp_all [sp_off]) hR9 hf9)
        · refine se_iload_n (pc := 48) rfl dR_off_48 ?_
          refine se_iload (pc := 49) rfl dR_off_49 ?_
          refine se_icmp_eq (pc := 51) (tgt := 58) dR_off_51 (by decide) (fun q7 => ?_) (fun q7 => ?_)
          · refine se_iconst (pc := 58) 0 (by decide) dR_off_58 ?_
            refine se_iconst (pc := 59) 1 (by decide) dR_off_59 ?_
            refine se_invV (pc := 60) (as := [.int 1, .int 0, .int 1]) (st := []) (vok sc) kR_goes dR_off_60 ⟨wd_655, wd_657, sl_10, wd_3⟩ rfl hO rfl (Nat.le_of_ble_eq_true rfl) (Nat.le_of_ble_eq_true rfl) (g_goes (r := 0) 2 hR (by decide) (by decide)) (C2 := 0) (S2 := 0) (by omega) (by omega) (fun v60 h60 _ q60 => ?_) (fun x hx => absurd hx List.not_mem_nil) (fun v60 h60 _ q60 => ?_)
            rotate_left
            · cases q60.2.2
            obtain ⟨hR9, hf9, q60⟩ := q60
            cases q60
            have hO9 := hR9.1
            rw [hI.1, hI.2.2.1] at hO9
            refine se_if_eq (pc := 63) (tgt := 73) dR_off_63 (by decide) (fun q8 => ?_) (fun q8 => absurd q8 (by decide))
            exact se_vret (pc := 73) dR_off_73 rfl (rPv_ok 2 (by clear hR hO hR9 hO9 hf9; simp_all [sp_off]) hR9 hf9)
          · refine se_iconst (pc := 54) 1 (by decide) dR_off_54 ?_
            refine se_goto (pc := 55) (tgt := 59) dR_off_55 (by decide) ?_
            refine se_iconst (pc := 59) 1 (by decide) dR_off_59 ?_
            refine se_invV (pc := 60) (as := [.int 1, .int 1, .int 1]) (st := []) (vok sc) kR_goes dR_off_60 ⟨wd_655, wd_657, sl_10, wd_3⟩ rfl hO rfl (Nat.le_of_ble_eq_true rfl) (Nat.le_of_ble_eq_true rfl) (g_goes (r := 1) 0 hR (by decide) (by decide)) (C2 := 0) (S2 := 0) (by omega) (by omega) (fun v60 h60 _ q60 => ?_) (fun x hx => absurd hx List.not_mem_nil) (fun v60 h60 _ q60 => ?_)
            rotate_left
            · cases q60.2.2
            obtain ⟨hR9, hf9, q60⟩ := q60
            cases q60
            have hO9 := hR9.1
            rw [hI.1, hI.2.2.1] at hO9
            refine se_if_eq (pc := 63) (tgt := 73) dR_off_63 (by decide) (fun q9 => absurd q9 (by decide)) (fun q9 => ?_)
            refine se_aload_n (pc := 66) rfl dR_off_66 ?_
            refine se_getf (pc := 67) clR 11 dR_off_67 wd_564 rfl (by decide) hO9 rfl ?_
            refine se_iload_n (pc := 70) rfl dR_off_70 ?_
            refine se_iload_n (pc := 71) rfl dR_off_71 ?_
            refine se_zastN (pc := 72) 1 dR_off_72 rfl hR9.2.2.2.2.2.2.2.2.2.1 (by omega) (by decide) (by first | decide | assumption) ?_
            exact se_vret (pc := 73) dR_off_73 rfl (rPv_ok 0 (S' := st_up S 14 jv 0 b) (by clear hR hO hR9 hO9 hf9; simp_all [sp_off]) ⟨rf_O (st_ne hO9 (by omega)) (by simp (decide := true) only [up_ne, up_v, ← hI.1, ← hI.2.2.1]) (by simp (decide := true) only [up_ne, up_v, ← hI.1, ← hI.2.2.1]) (by simp (decide := true) only [up_ne, up_v, ← hI.1, ← hI.2.2.1]), rf_R (st_ne hR9.2.1 (by omega)) (by simp (decide := true) only [rf_l_ne, rf_v_ne, rf_an_ne, rf_at_ne, rf_by_ne, rf_ky_ne, up_ne, up_eq, up_v, rf_v_up]), rf_R (st_ne hR9.2.2.1 (by omega)) (by simp (decide := true) only [rf_l_ne, rf_v_ne, rf_an_ne, rf_at_ne, rf_by_ne, rf_ky_ne, up_ne, up_eq, up_v, rf_v_up]), rf_R (st_ne hR9.2.2.2.1 (by omega)) (by simp (decide := true) only [rf_l_ne, rf_v_ne, rf_an_ne, rf_at_ne, rf_by_ne, rf_ky_ne, up_ne, up_eq, up_v, rf_v_up]), rf_R (st_ne hR9.2.2.2.2.1 (by omega)) (by simp (decide := true) only [rf_l_ne, rf_v_ne, rf_an_ne, rf_at_ne, rf_by_ne, rf_ky_ne, up_ne, up_eq, up_v, rf_v_up]), rf_R (st_ne hR9.2.2.2.2.2.1 (by omega)) (by simp (decide := true) only [rf_l_ne, rf_v_ne, rf_an_ne, rf_at_ne, rf_by_ne, rf_ky_ne, up_ne, up_eq, up_v, rf_v_up]), rf_R (st_ne hR9.2.2.2.2.2.2.1 (by omega)) (by simp (decide := true) only [rf_l_ne, rf_v_ne, rf_an_ne, rf_at_ne, rf_by_ne, rf_ky_ne, up_ne, up_eq, up_v, rf_v_up]), rf_R (st_ne hR9.2.2.2.2.2.2.2.1 (by omega)) (by simp (decide := true) only [rf_l_ne, rf_v_ne, rf_an_ne, rf_at_ne, rf_by_ne, rf_ky_ne, up_ne, up_eq, up_v, rf_v_up]), rf_R (st_ne hR9.2.2.2.2.2.2.2.2.1 (by omega)) (by simp (decide := true) only [rf_l_ne, rf_v_ne, rf_an_ne, rf_at_ne, rf_by_ne, rf_ky_ne, up_ne, up_eq, up_v, rf_v_up]), rf_R (st_eq hR9.2.2.2.2.2.2.2.2.2.1) (by simp (decide := true) only [rf_l_ne, rf_v_ne, rf_an_ne, rf_at_ne, rf_by_ne, rf_ky_ne, up_ne, up_eq, up_v, rf_v_up]), rf_R (st_ne hR9.2.2.2.2.2.2.2.2.2.2.1 (by omega)) (by simp (decide := true) only [rf_l_ne, rf_v_ne, rf_an_ne, rf_at_ne, rf_by_ne, rf_ky_ne, up_ne, up_eq, up_v, rf_v_up]), rf_R (st_ne hR9.2.2.2.2.2.2.2.2.2.2.2.1 (by omega)) (by simp (decide := true) only [rf_l_ne, rf_v_ne, rf_an_ne, rf_at_ne, rf_by_ne, rf_ky_ne, up_ne, up_eq, up_v, rf_v_up]), rf_R (st_ne hR9.2.2.2.2.2.2.2.2.2.2.2.2.1 (by omega)) (by simp (decide := true) only [rf_l_ne, rf_v_ne, rf_an_ne, rf_at_ne, rf_by_ne, rf_ky_ne, up_ne, up_eq, up_v, rf_v_up]), rf_R (st_ne hR9.2.2.2.2.2.2.2.2.2.2.2.2.2.1 (by omega)) (by simp (decide := true) only [rf_l_ne, rf_v_ne, rf_an_ne, rf_at_ne, rf_by_ne, rf_ky_ne, up_ne, up_eq, up_v, rf_v_up]), rf_R (st_ne hR9.2.2.2.2.2.2.2.2.2.2.2.2.2.2.1 (by omega)) (by simp (decide := true) only [rf_l_ne, rf_v_ne, rf_an_ne, rf_at_ne, rf_by_ne, rf_ky_ne, up_ne, up_eq, up_v, rf_v_up]), rf_R (st_ne hR9.2.2.2.2.2.2.2.2.2.2.2.2.2.2.2.1 (by omega)) (by simp (decide := true) only [rf_l_ne, rf_v_ne, rf_an_ne, rf_at_ne, rf_by_ne, rf_ky_ne, up_ne, up_eq, up_v, rf_v_up]), rf_R (st_ne hR9.2.2.2.2.2.2.2.2.2.2.2.2.2.2.2.2.1 (by omega)) (by simp (decide := true) only [rf_l_ne, rf_v_ne, rf_an_ne, rf_at_ne, rf_by_ne, rf_ky_ne, up_ne, up_eq, up_v, rf_v_up]), rf_R (st_ne hR9.2.2.2.2.2.2.2.2.2.2.2.2.2.2.2.2.2.1 (by omega)) (by simp (decide := true) only [rf_l_ne, rf_v_ne, rf_an_ne, rf_at_ne, rf_by_ne, rf_ky_ne, up_ne, up_eq, up_v, rf_v_up]), rf_R (st_ne hR9.2.2.2.2.2.2.2.2.2.2.2.2.2.2.2.2.2.2.1 (by omega)) (by simp (decide := true) only [rf_l_ne, rf_v_ne, rf_an_ne, rf_at_ne, rf_by_ne, rf_ky_ne, up_ne, up_eq, up_v, rf_v_up]), rf_R (st_ne hR9.2.2.2.2.2.2.2.2.2.2.2.2.2.2.2.2.2.2.2.1 (by omega)) (by simp (decide := true) only [rf_l_ne, rf_v_ne, rf_an_ne, rf_at_ne, rf_by_ne, rf_ky_ne, up_ne, up_eq, up_v, rf_v_up]), rf_R (st_ne hR9.2.2.2.2.2.2.2.2.2.2.2.2.2.2.2.2.2.2.2.2.1 (by omega)) (by simp (decide := true) only [rf_l_ne, rf_v_ne, rf_an_ne, rf_at_ne, rf_by_ne, rf_ky_ne, up_ne, up_eq, up_v, rf_v_up]), rf_R (st_ne hR9.2.2.2.2.2.2.2.2.2.2.2.2.2.2.2.2.2.2.2.2.2.1 (by omega)) (by simp (decide := true) only [rf_l_ne, rf_v_ne, rf_an_ne, rf_at_ne, rf_by_ne, rf_ky_ne, up_ne, up_eq, up_v, rf_v_up]), rf_R (st_ne hR9.2.2.2.2.2.2.2.2.2.2.2.2.2.2.2.2.2.2.2.2.2.2.1 (by omega)) (by simp (decide := true) only [rf_l_ne, rf_v_ne, rf_an_ne, rf_at_ne, rf_by_ne, rf_ky_ne, up_ne, up_eq, up_v, rf_v_up]), rf_R (st_ne hR9.2.2.2.2.2.2.2.2.2.2.2.2.2.2.2.2.2.2.2.2.2.2.2.1 (by omega)) (by simp (decide := true) only [rf_l_ne, rf_v_ne, rf_an_ne, rf_at_ne, rf_by_ne, rf_ky_ne, up_ne, up_eq, up_v, rf_v_up]), rf_R (st_ne hR9.2.2.2.2.2.2.2.2.2.2.2.2.2.2.2.2.2.2.2.2.2.2.2.2.1 (by omega)) (by simp (decide := true) only [rf_l_ne, rf_v_ne, rf_an_ne, rf_at_ne, rf_by_ne, rf_ky_ne, up_ne, up_eq, up_v, rf_v_up]), rf_R (st_ne hR9.2.2.2.2.2.2.2.2.2.2.2.2.2.2.2.2.2.2.2.2.2.2.2.2.2 (by omega)) (by simp (decide := true) only [rf_l_ne, rf_v_ne, rf_an_ne, rf_at_ne, rf_by_ne, rf_ky_ne, up_ne, up_eq, up_v, rf_v_up])⟩ (fR_tr hf9 (fR_set (by decide) (by decide))))
      · cases q17
        refine se_if_eq (pc := 20) (tgt := 27) dR_off_20 (by decide) (fun q10 => ?_) (fun q10 => absurd q10 (by decide))
        refine se_iconst (pc := 27) 0 (by decide) dR_off_27 ?_
        refine se_istore (pc := 28) dR_off_28 (by decide) [some (.ref 41), some (.int (nI jv)), some (.int b), some (.int (nI jp)), some (.int q), some (.int 0)] rfl ?_
        refine se_aload_n (pc := 30) rfl dR_off_30 ?_
        refine se_iload (pc := 31) rfl dR_off_31 ?_
        refine se_iload (pc := 33) rfl dR_off_33 ?_
        refine se_if_eq (pc := 35) (tgt := 58) dR_off_35 (by decide) (fun q11 => ?_) (fun q11 => absurd q11 (by decide))
        refine se_iconst (pc := 58) 0 (by decide) dR_off_58 ?_
        refine se_iconst (pc := 59) 1 (by decide) dR_off_59 ?_
        refine se_invV (pc := 60) (as := [.int 0, .int 0, .int 1]) (st := []) (vok sc) kR_goes dR_off_60 ⟨wd_655, wd_657, sl_10, wd_3⟩ rfl hO rfl (Nat.le_of_ble_eq_true rfl) (Nat.le_of_ble_eq_true rfl) (g_goes (r := 0) 1 hR (by decide) (by decide)) (C2 := 0) (S2 := 0) (by omega) (by omega) (fun v60 h60 _ q60 => ?_) (fun x hx => absurd hx List.not_mem_nil) (fun v60 h60 _ q60 => ?_)
        rotate_left
        · cases q60.2.2
        obtain ⟨hR9, hf9, q60⟩ := q60
        cases q60
        have hO9 := hR9.1
        rw [hI.1, hI.2.2.1] at hO9
        refine se_if_eq (pc := 63) (tgt := 73) dR_off_63 (by decide) (fun q12 => ?_) (fun q12 => absurd q12 (by decide))
        exact se_vret (pc := 73) dR_off_73 rfl (rPv_ok 1 (by clear hR hO hR9 hO9 hf9; simp_all [sp_off]) hR9 hf9)
    · cases q9
      refine se_if_eq (pc := 12) (tgt := 27) dR_off_12 (by decide) (fun q13 => ?_) (fun q13 => absurd q13 (by decide))
      refine se_iconst (pc := 27) 0 (by decide) dR_off_27 ?_
      refine se_istore (pc := 28) dR_off_28 (by decide) [some (.ref 41), some (.int (nI jv)), some (.int b), some (.int p), some (.int q), some (.int 0)] rfl ?_
      refine se_aload_n (pc := 30) rfl dR_off_30 ?_
      refine se_iload (pc := 31) rfl dR_off_31 ?_
      refine se_iload (pc := 33) rfl dR_off_33 ?_
      refine se_if_eq (pc := 35) (tgt := 58) dR_off_35 (by decide) (fun q14 => ?_) (fun q14 => absurd q14 (by decide))
      refine se_iconst (pc := 58) 0 (by decide) dR_off_58 ?_
      refine se_iconst (pc := 59) 1 (by decide) dR_off_59 ?_
      refine se_invV (pc := 60) (as := [.int 0, .int 0, .int 1]) (st := []) (vok sc) kR_goes dR_off_60 ⟨wd_655, wd_657, sl_10, wd_3⟩ rfl hO rfl (Nat.le_of_ble_eq_true rfl) (Nat.le_of_ble_eq_true rfl) (g_goes (r := 0) 1 hR (by decide) (by decide)) (C2 := 0) (S2 := 0) (by omega) (by omega) (fun v60 h60 _ q60 => ?_) (fun x hx => absurd hx List.not_mem_nil) (fun v60 h60 _ q60 => ?_)
      rotate_left
      · cases q60.2.2
      obtain ⟨hR9, hf9, q60⟩ := q60
      cases q60
      have hO9 := hR9.1
      rw [hI.1, hI.2.2.1] at hO9
      refine se_if_eq (pc := 63) (tgt := 73) dR_off_63 (by decide) (fun q15 => ?_) (fun q15 => absurd q15 (by decide))
      exact se_vret (pc := 73) dR_off_73 rfl (rPv_ok 1 (by clear hR hO hR9 hO9 hf9; simp_all [sp_off]) hR9 hf9)
  · cases q2
    refine se_if_eq (pc := 5) (tgt := 27) dR_off_5 (by decide) (fun q16 => ?_) (fun q16 => absurd q16 (by decide))
    refine se_iconst (pc := 27) 0 (by decide) dR_off_27 ?_
    refine se_istore (pc := 28) dR_off_28 (by decide) [some (.ref 41), some (.int v), some (.int b), some (.int p), some (.int q), some (.int 0)] rfl ?_
    refine se_aload_n (pc := 30) rfl dR_off_30 ?_
    refine se_iload (pc := 31) rfl dR_off_31 ?_
    refine se_iload (pc := 33) rfl dR_off_33 ?_
    refine se_if_eq (pc := 35) (tgt := 58) dR_off_35 (by decide) (fun q17 => ?_) (fun q17 => absurd q17 (by decide))
    refine se_iconst (pc := 58) 0 (by decide) dR_off_58 ?_
    refine se_iconst (pc := 59) 1 (by decide) dR_off_59 ?_
    refine se_invV (pc := 60) (as := [.int 0, .int 0, .int 1]) (st := []) (vok sc) kR_goes dR_off_60 ⟨wd_655, wd_657, sl_10, wd_3⟩ rfl hO rfl (Nat.le_of_ble_eq_true rfl) (Nat.le_of_ble_eq_true rfl) (g_goes (r := 0) 1 hR (by decide) (by decide)) (C2 := 0) (S2 := 0) (by omega) (by omega) (fun v60 h60 _ q60 => ?_) (fun x hx => absurd hx List.not_mem_nil) (fun v60 h60 _ q60 => ?_)
    rotate_left
    · cases q60.2.2
    obtain ⟨hR9, hf9, q60⟩ := q60
    cases q60
    have hO9 := hR9.1
    rw [hI.1, hI.2.2.1] at hO9
    refine se_if_eq (pc := 63) (tgt := 73) dR_off_63 (by decide) (fun q18 => ?_) (fun q18 => absurd q18 (by decide))
    exact se_vret (pc := 73) dR_off_73 rfl (rPv_ok 1 (by clear hR hO hR9 hO9 hf9; simp_all [sp_off]) hR9 hf9)
set_option maxHeartbeats 1000000 in
set_option maxRecDepth 100000 in
theorem r_key {v p : Int32} (hd : 3 ≤ d) (hR : is_R S t h) (hI : st_I S) (hQ : st_Q N S) (hN : N < 2 ^ 31) : se_W (vG sc) l d mR_key 0 (se_ent 5 [.ref 41, .int v, .int p]) [] h 0 0 (rPi h (sp_key S v p)) := by
  obtain ⟨d, rfl⟩ : ∃ e, d = e + 1 := ⟨d - 1, by omega⟩
  show se_W (vG sc) l (d + 1) mR_key 0 [some (.ref 41), some (.int v), some (.int p), none, none] [] h 0 0 _
  have hn20 := hI.2.1
  have hd100 := hI.2.2.2.1
  have hO := hR.1
  rw [hI.1, hI.2.2.1] at hO
  refine se_aload_n (pc := 0) rfl dR_key_0 ?_
  refine se_iload_n (pc := 1) rfl dR_key_1 ?_
  refine se_invV (pc := 2) (as := [.int v]) (st := []) (vok sc) kR_isVehicle dR_key_2 ⟨wd_674, wd_676, sl_11, wd_3⟩ rfl hO rfl (Nat.le_of_ble_eq_true rfl) (Nat.le_of_ble_eq_true rfl) (x_R_isVehicle (by omega) hR hI) (C2 := 0) (S2 := 0) (by omega) (by omega) (fun v2 h2 _ q2 => ?_) (fun x hx => absurd hx List.not_mem_nil) (fun v2 h2 _ q2 => ?_)
  rotate_left
  · rcases q2.2 with ⟨_, _, _, _, e⟩ | ⟨_, e⟩ <;> cases e
  obtain ⟨h2e, q2⟩ := q2
  have h2f := h2e.symm
  subst h2f
  rcases q2 with ⟨jv, hxv, hjv, rfl, q2⟩ | ⟨hxv, q2⟩
  · cases q2
    refine se_if_eq (pc := 5) (tgt := 24) dR_key_5 (by decide) (fun q1 => absurd q1 (by decide)) (fun q1 => ?_)
    refine se_iload_n (pc := 8) rfl dR_key_8 ?_
    refine se_iconst (pc := 9) (-1) (by decide) dR_key_9 ?_
    refine se_icmp_eq (pc := 10) (tgt := 20) dR_key_10 (by decide) (fun q2 => ?_) (fun q2 => ?_)
    · refine se_iconst (pc := 20) 1 (by decide) dR_key_20 ?_
      refine se_goto (pc := 21) (tgt := 25) dR_key_21 (by decide) ?_
      refine se_istore_n (pc := 25) dR_key_25 (by decide) [some (.ref 41), some (.int (nI jv)), some (.int p), some (.int 1), none] rfl ?_
      refine se_aload_n (pc := 26) rfl dR_key_26 ?_
      refine se_iload_n (pc := 27) rfl dR_key_27 ?_
      refine se_iload_n (pc := 28) rfl dR_key_28 ?_
      refine se_if_eq (pc := 29) (tgt := 46) dR_key_29 (by decide) (fun q3 => absurd q3 (by decide)) (fun q3 => ?_)
      refine se_aload_n (pc := 32) rfl dR_key_32 ?_
      refine se_getf (pc := 33) clR 18 dR_key_33 wd_571 rfl (by decide) hO rfl ?_
      refine se_iload_n (pc := 36) rfl dR_key_36 ?_
      refine se_ialdN (pc := 37) 0 dR_key_37 rfl hR.2.2.2.2.2.2.2.2.2.2.2.2.2.2.2.2.1 (by omega) (by decide) ?_
      rw [rf_ky_at (by assumption)]
      refine se_iload_n (pc := 38) rfl dR_key_38 ?_
      refine se_icmp_eq (pc := 39) (tgt := 46) dR_key_39 (by decide) (fun q4 => ?_) (fun q4 => ?_)
      · refine se_iconst (pc := 46) 0 (by decide) dR_key_46 ?_
        refine se_iconst (pc := 47) 1 (by decide) dR_key_47 ?_
        refine se_invV (pc := 48) (as := [.int 1, .int 0, .int 1]) (st := []) (vok sc) kR_goes dR_key_48 ⟨wd_655, wd_657, sl_10, wd_3⟩ rfl hO rfl (Nat.le_of_ble_eq_true rfl) (Nat.le_of_ble_eq_true rfl) (g_goes (r := 0) 2 hR (by decide) (by decide)) (C2 := 0) (S2 := 0) (by omega) (by omega) (fun v48 h48 _ q48 => ?_) (fun x hx => absurd hx List.not_mem_nil) (fun v48 h48 _ q48 => ?_)
        rotate_left
        · cases q48.2.2
        obtain ⟨hR9, hf9, q48⟩ := q48
        cases q48
        have hO9 := hR9.1
        rw [hI.1, hI.2.2.1] at hO9
        refine se_if_ne (pc := 51) (tgt := 56) dR_key_51 (by decide) (fun q5 => absurd q5 (by decide)) (fun q5 => ?_)
        refine se_iconst (pc := 54) 0 (by decide) dR_key_54 ?_
        exact se_iret (pc := 55) dR_key_55 rfl (rPi_no 1 (by clear hR hO hR9 hO9 hf9; simp_all [sp_key]) hR9 hf9)
      · refine se_iconst (pc := 42) 1 (by decide) dR_key_42 ?_
        refine se_goto (pc := 43) (tgt := 47) dR_key_43 (by decide) ?_
        refine se_iconst (pc := 47) 1 (by decide) dR_key_47 ?_
        refine se_invV (pc := 48) (as := [.int 1, .int 1, .int 1]) (st := []) (vok sc) kR_goes dR_key_48 ⟨wd_655, wd_657, sl_10, wd_3⟩ rfl hO rfl (Nat.le_of_ble_eq_true rfl) (Nat.le_of_ble_eq_true rfl) (g_goes (r := 1) 0 hR (by decide) (by decide)) (C2 := 0) (S2 := 0) (by omega) (by omega) (fun v48 h48 _ q48 => ?_) (fun x hx => absurd hx List.not_mem_nil) (fun v48 h48 _ q48 => ?_)
        rotate_left
        · cases q48.2.2
        obtain ⟨hR9, hf9, q48⟩ := q48
        cases q48
        have hO9 := hR9.1
        rw [hI.1, hI.2.2.1] at hO9
        refine se_if_ne (pc := 51) (tgt := 56) dR_key_51 (by decide) (fun q6 => ?_) (fun q6 => absurd q6 (by decide))
        refine se_aload_n (pc := 56) rfl dR_key_56 ?_
        refine se_getf (pc := 57) clR 18 dR_key_57 wd_571 rfl (by decide) hO9 rfl ?_
        refine se_iload_n (pc := 60) rfl dR_key_60 ?_
        refine se_ialdN (pc := 61) 0 dR_key_61 rfl hR9.2.2.2.2.2.2.2.2.2.2.2.2.2.2.2.2.1 (by omega) (by decide) ?_
        rw [rf_ky_at (by assumption)]
        refine se_istore (pc := 62) dR_key_62 (by decide) [some (.ref 41), some (.int (nI jv)), some (.int p), some (.int 1), some (.int (S 20 jv 0))] rfl ?_
        refine se_aload_n (pc := 64) rfl dR_key_64 ?_
        refine se_getf (pc := 65) clR 18 dR_key_65 wd_571 rfl (by decide) hO9 rfl ?_
        refine se_iload_n (pc := 68) rfl dR_key_68 ?_
        refine se_iload_n (pc := 69) rfl dR_key_69 ?_
        refine se_iastN (pc := 70) 0 dR_key_70 rfl hR9.2.2.2.2.2.2.2.2.2.2.2.2.2.2.2.2.1 (by omega) (by decide) ?_
        refine se_iload (pc := 71) rfl dR_key_71 ?_
        exact se_iret (pc := 73) dR_key_73 rfl (rPi_ok (S' := st_up S 20 jv 0 p) (by clear hR hO hR9 hO9 hf9; simp_all [sp_key]) ⟨rf_O (st_ne hO9 (by omega)) (by simp (decide := true) only [up_ne, up_v, ← hI.1, ← hI.2.2.1]) (by simp (decide := true) only [up_ne, up_v, ← hI.1, ← hI.2.2.1]) (by simp (decide := true) only [up_ne, up_v, ← hI.1, ← hI.2.2.1]), rf_R (st_ne hR9.2.1 (by omega)) (by simp (decide := true) only [rf_l_ne, rf_v_ne, rf_an_ne, rf_at_ne, rf_by_ne, rf_ky_ne, up_ne, up_eq, up_v, rf_ky_up hjv]), rf_R (st_ne hR9.2.2.1 (by omega)) (by simp (decide := true) only [rf_l_ne, rf_v_ne, rf_an_ne, rf_at_ne, rf_by_ne, rf_ky_ne, up_ne, up_eq, up_v, rf_ky_up hjv]), rf_R (st_ne hR9.2.2.2.1 (by omega)) (by simp (decide := true) only [rf_l_ne, rf_v_ne, rf_an_ne, rf_at_ne, rf_by_ne, rf_ky_ne, up_ne, up_eq, up_v, rf_ky_up hjv]), rf_R (st_ne hR9.2.2.2.2.1 (by omega)) (by simp (decide := true) only [rf_l_ne, rf_v_ne, rf_an_ne, rf_at_ne, rf_by_ne, rf_ky_ne, up_ne, up_eq, up_v, rf_ky_up hjv]), rf_R (st_ne hR9.2.2.2.2.2.1 (by omega)) (by simp (decide := true) only [rf_l_ne, rf_v_ne, rf_an_ne, rf_at_ne, rf_by_ne, rf_ky_ne, up_ne, up_eq, up_v, rf_ky_up hjv]), rf_R (st_ne hR9.2.2.2.2.2.2.1 (by omega)) (by simp (decide := true) only [rf_l_ne, rf_v_ne, rf_an_ne, rf_at_ne, rf_by_ne, rf_ky_ne, up_ne, up_eq, up_v, rf_ky_up hjv]), rf_R (st_ne hR9.2.2.2.2.2.2.2.1 (by omega)) (by simp (decide := true) only [rf_l_ne, rf_v_ne, rf_an_ne, rf_at_ne, rf_by_ne, rf_ky_ne, up_ne, up_eq, up_v, rf_ky_up hjv]), rf_R (st_ne hR9.2.2.2.2.2.2.2.2.1 (by omega)) (by simp (decide := true) only [rf_l_ne, rf_v_ne, rf_an_ne, rf_at_ne, rf_by_ne, rf_ky_ne, up_ne, up_eq, up_v, rf_ky_up hjv]), rf_R (st_ne hR9.2.2.2.2.2.2.2.2.2.1 (by omega)) (by simp (decide := true) only [rf_l_ne, rf_v_ne, rf_an_ne, rf_at_ne, rf_by_ne, rf_ky_ne, up_ne, up_eq, up_v, rf_ky_up hjv]), rf_R (st_ne hR9.2.2.2.2.2.2.2.2.2.2.1 (by omega)) (by simp (decide := true) only [rf_l_ne, rf_v_ne, rf_an_ne, rf_at_ne, rf_by_ne, rf_ky_ne, up_ne, up_eq, up_v, rf_ky_up hjv]), rf_R (st_ne hR9.2.2.2.2.2.2.2.2.2.2.2.1 (by omega)) (by simp (decide := true) only [rf_l_ne, rf_v_ne, rf_an_ne, rf_at_ne, rf_by_ne, rf_ky_ne, up_ne, up_eq, up_v, rf_ky_up hjv]), rf_R (st_ne hR9.2.2.2.2.2.2.2.2.2.2.2.2.1 (by omega)) (by simp (decide := true) only [rf_l_ne, rf_v_ne, rf_an_ne, rf_at_ne, rf_by_ne, rf_ky_ne, up_ne, up_eq, up_v, rf_ky_up hjv]), rf_R (st_ne hR9.2.2.2.2.2.2.2.2.2.2.2.2.2.1 (by omega)) (by simp (decide := true) only [rf_l_ne, rf_v_ne, rf_an_ne, rf_at_ne, rf_by_ne, rf_ky_ne, up_ne, up_eq, up_v, rf_ky_up hjv]), rf_R (st_ne hR9.2.2.2.2.2.2.2.2.2.2.2.2.2.2.1 (by omega)) (by simp (decide := true) only [rf_l_ne, rf_v_ne, rf_an_ne, rf_at_ne, rf_by_ne, rf_ky_ne, up_ne, up_eq, up_v, rf_ky_up hjv]), rf_R (st_ne hR9.2.2.2.2.2.2.2.2.2.2.2.2.2.2.2.1 (by omega)) (by simp (decide := true) only [rf_l_ne, rf_v_ne, rf_an_ne, rf_at_ne, rf_by_ne, rf_ky_ne, up_ne, up_eq, up_v, rf_ky_up hjv]), rf_R (st_eq hR9.2.2.2.2.2.2.2.2.2.2.2.2.2.2.2.2.1) (by simp (decide := true) only [rf_l_ne, rf_v_ne, rf_an_ne, rf_at_ne, rf_by_ne, rf_ky_ne, up_ne, up_eq, up_v, rf_ky_up hjv]), rf_R (st_ne hR9.2.2.2.2.2.2.2.2.2.2.2.2.2.2.2.2.2.1 (by omega)) (by simp (decide := true) only [rf_l_ne, rf_v_ne, rf_an_ne, rf_at_ne, rf_by_ne, rf_ky_ne, up_ne, up_eq, up_v, rf_ky_up hjv]), rf_R (st_ne hR9.2.2.2.2.2.2.2.2.2.2.2.2.2.2.2.2.2.2.1 (by omega)) (by simp (decide := true) only [rf_l_ne, rf_v_ne, rf_an_ne, rf_at_ne, rf_by_ne, rf_ky_ne, up_ne, up_eq, up_v, rf_ky_up hjv]), rf_R (st_ne hR9.2.2.2.2.2.2.2.2.2.2.2.2.2.2.2.2.2.2.2.1 (by omega)) (by simp (decide := true) only [rf_l_ne, rf_v_ne, rf_an_ne, rf_at_ne, rf_by_ne, rf_ky_ne, up_ne, up_eq, up_v, rf_ky_up hjv]), rf_R (st_ne hR9.2.2.2.2.2.2.2.2.2.2.2.2.2.2.2.2.2.2.2.2.1 (by omega)) (by simp (decide := true) only [rf_l_ne, rf_v_ne, rf_an_ne, rf_at_ne, rf_by_ne, rf_ky_ne, up_ne, up_eq, up_v, rf_ky_up hjv]), rf_R (st_ne hR9.2.2.2.2.2.2.2.2.2.2.2.2.2.2.2.2.2.2.2.2.2.1 (by omega)) (by simp (decide := true) only [rf_l_ne, rf_v_ne, rf_an_ne, rf_at_ne, rf_by_ne, rf_ky_ne, up_ne, up_eq, up_v, rf_ky_up hjv]), rf_R (st_ne hR9.2.2.2.2.2.2.2.2.2.2.2.2.2.2.2.2.2.2.2.2.2.2.1 (by omega)) (by simp (decide := true) only [rf_l_ne, rf_v_ne, rf_an_ne, rf_at_ne, rf_by_ne, rf_ky_ne, up_ne, up_eq, up_v, rf_ky_up hjv]), rf_R (st_ne hR9.2.2.2.2.2.2.2.2.2.2.2.2.2.2.2.2.2.2.2.2.2.2.2.1 (by omega)) (by simp (decide := true) only [rf_l_ne, rf_v_ne, rf_an_ne, rf_at_ne, rf_by_ne, rf_ky_ne, up_ne, up_eq, up_v, rf_ky_up hjv]), rf_R (st_ne hR9.2.2.2.2.2.2.2.2.2.2.2.2.2.2.2.2.2.2.2.2.2.2.2.2.1 (by omega)) (by simp (decide := true) only [rf_l_ne, rf_v_ne, rf_an_ne, rf_at_ne, rf_by_ne, rf_ky_ne, up_ne, up_eq, up_v, rf_ky_up hjv]), rf_R (st_ne hR9.2.2.2.2.2.2.2.2.2.2.2.2.2.2.2.2.2.2.2.2.2.2.2.2.2 (by omega)) (by simp (decide := true) only [rf_l_ne, rf_v_ne, rf_an_ne, rf_at_ne, rf_by_ne, rf_ky_ne, up_ne, up_eq, up_v, rf_ky_up hjv])⟩ (fR_tr hf9 (fR_set (by decide) (by decide))))
    · refine se_iload_n (pc := 13) rfl dR_key_13 ?_
      refine se_invS (pc := 14) (as := [.int p]) (st := []) (vok sc) kR_isPerson dR_key_14 ⟨wd_678, wd_679, wd_3⟩ rfl (Nat.le_of_ble_eq_true rfl) (Nat.le_of_ble_eq_true rfl) (x_R_isPerson (by omega)) (C2 := 0) (S2 := 0) (by omega) (by omega) (fun v14 h14 _ q14 => ?_) (fun x hx => absurd hx List.not_mem_nil) (fun v14 h14 _ q14 => ?_)
      rotate_left
      · rcases q14.2 with ⟨_, _, _, _, e⟩ | ⟨_, e⟩ <;> cases e
      obtain ⟨h14e, q14⟩ := q14
      have h14f := h14e.symm
      subst h14f
      rcases q14 with ⟨jp, hxp, hjp, rfl, q14⟩ | ⟨hxp, q14⟩
      · cases q14
        refine se_if_eq (pc := 17) (tgt := 24) dR_key_17 (by decide) (fun q7 => absurd q7 (by decide)) (fun q7 => ?_)
        refine se_iconst (pc := 20) 1 (by decide) dR_key_20 ?_
        refine se_goto (pc := 21) (tgt := 25) dR_key_21 (by decide) ?_
        refine se_istore_n (pc := 25) dR_key_25 (by decide) [some (.ref 41), some (.int (nI jv)), some (.int (nI jp)), some (.int 1), none] rfl ?_
        refine se_aload_n (pc := 26) rfl dR_key_26 ?_
        refine se_iload_n (pc := 27) rfl dR_key_27 ?_
        refine se_iload_n (pc := 28) rfl dR_key_28 ?_
        refine se_if_eq (pc := 29) (tgt := 46) dR_key_29 (by decide) (fun q8 => absurd q8 (by decide)) (fun q8 => ?_)
        refine se_aload_n (pc := 32) rfl dR_key_32 ?_
        refine se_getf (pc := 33) clR 18 dR_key_33 wd_571 rfl (by decide) hO rfl ?_
        refine se_iload_n (pc := 36) rfl dR_key_36 ?_
        refine se_ialdN (pc := 37) 0 dR_key_37 rfl hR.2.2.2.2.2.2.2.2.2.2.2.2.2.2.2.2.1 (by omega) (by decide) ?_
        rw [rf_ky_at (by assumption)]
        refine se_iload_n (pc := 38) rfl dR_key_38 ?_
        refine se_icmp_eq (pc := 39) (tgt := 46) dR_key_39 (by decide) (fun q9 => ?_) (fun q9 => ?_)
        · refine se_iconst (pc := 46) 0 (by decide) dR_key_46 ?_
          refine se_iconst (pc := 47) 1 (by decide) dR_key_47 ?_
          refine se_invV (pc := 48) (as := [.int 1, .int 0, .int 1]) (st := []) (vok sc) kR_goes dR_key_48 ⟨wd_655, wd_657, sl_10, wd_3⟩ rfl hO rfl (Nat.le_of_ble_eq_true rfl) (Nat.le_of_ble_eq_true rfl) (g_goes (r := 0) 2 hR (by decide) (by decide)) (C2 := 0) (S2 := 0) (by omega) (by omega) (fun v48 h48 _ q48 => ?_) (fun x hx => absurd hx List.not_mem_nil) (fun v48 h48 _ q48 => ?_)
          rotate_left
          · cases q48.2.2
          obtain ⟨hR9, hf9, q48⟩ := q48
          cases q48
          have hO9 := hR9.1
          rw [hI.1, hI.2.2.1] at hO9
          refine se_if_ne (pc := 51) (tgt := 56) dR_key_51 (by decide) (fun q10 => absurd q10 (by decide)) (fun q10 => ?_)
          refine se_iconst (pc := 54) 0 (by decide) dR_key_54 ?_
          exact se_iret (pc := 55) dR_key_55 rfl (rPi_no 1 (by clear hR hO hR9 hO9 hf9; simp_all [sp_key]) hR9 hf9)
        · refine se_iconst (pc := 42) 1 (by decide) dR_key_42 ?_
          refine se_goto (pc := 43) (tgt := 47) dR_key_43 (by decide) ?_
          refine se_iconst (pc := 47) 1 (by decide) dR_key_47 ?_
          refine se_invV (pc := 48) (as := [.int 1, .int 1, .int 1]) (st := []) (vok sc) kR_goes dR_key_48 ⟨wd_655, wd_657, sl_10, wd_3⟩ rfl hO rfl (Nat.le_of_ble_eq_true rfl) (Nat.le_of_ble_eq_true rfl) (g_goes (r := 1) 0 hR (by decide) (by decide)) (C2 := 0) (S2 := 0) (by omega) (by omega) (fun v48 h48 _ q48 => ?_) (fun x hx => absurd hx List.not_mem_nil) (fun v48 h48 _ q48 => ?_)
          rotate_left
          · cases q48.2.2
          obtain ⟨hR9, hf9, q48⟩ := q48
          cases q48
          have hO9 := hR9.1
          rw [hI.1, hI.2.2.1] at hO9
          refine se_if_ne (pc := 51) (tgt := 56) dR_key_51 (by decide) (fun q11 => ?_) (fun q11 => absurd q11 (by decide))
          refine se_aload_n (pc := 56) rfl dR_key_56 ?_
          refine se_getf (pc := 57) clR 18 dR_key_57 wd_571 rfl (by decide) hO9 rfl ?_
          refine se_iload_n (pc := 60) rfl dR_key_60 ?_
          refine se_ialdN (pc := 61) 0 dR_key_61 rfl hR9.2.2.2.2.2.2.2.2.2.2.2.2.2.2.2.2.1 (by omega) (by decide) ?_
          rw [rf_ky_at (by assumption)]
          refine se_istore (pc := 62) dR_key_62 (by decide) [some (.ref 41), some (.int (nI jv)), some (.int (nI jp)), some (.int 1), some (.int (S 20 jv 0))] rfl ?_
          refine se_aload_n (pc := 64) rfl dR_key_64 ?_
          refine se_getf (pc := 65) clR 18 dR_key_65 wd_571 rfl (by decide) hO9 rfl ?_
          refine se_iload_n (pc := 68) rfl dR_key_68 ?_
          refine se_iload_n (pc := 69) rfl dR_key_69 ?_
          refine se_iastN (pc := 70) 0 dR_key_70 rfl hR9.2.2.2.2.2.2.2.2.2.2.2.2.2.2.2.2.1 (by omega) (by decide) ?_
          refine se_iload (pc := 71) rfl dR_key_71 ?_
          exact se_iret (pc := 73) dR_key_73 rfl (rPi_ok (S' := st_up S 20 jv 0 (nI jp)) (by clear hR hO hR9 hO9 hf9; simp_all [sp_key]) ⟨rf_O (st_ne hO9 (by omega)) (by simp (decide := true) only [up_ne, up_v, ← hI.1, ← hI.2.2.1]) (by simp (decide := true) only [up_ne, up_v, ← hI.1, ← hI.2.2.1]) (by simp (decide := true) only [up_ne, up_v, ← hI.1, ← hI.2.2.1]), rf_R (st_ne hR9.2.1 (by omega)) (by simp (decide := true) only [rf_l_ne, rf_v_ne, rf_an_ne, rf_at_ne, rf_by_ne, rf_ky_ne, up_ne, up_eq, up_v, rf_ky_up hjv]), rf_R (st_ne hR9.2.2.1 (by omega)) (by simp (decide := true) only [rf_l_ne, rf_v_ne, rf_an_ne, rf_at_ne, rf_by_ne, rf_ky_ne, up_ne, up_eq, up_v, rf_ky_up hjv]), rf_R (st_ne hR9.2.2.2.1 (by omega)) (by simp (decide := true) only [rf_l_ne, rf_v_ne, rf_an_ne, rf_at_ne, rf_by_ne, rf_ky_ne, up_ne, up_eq, up_v, rf_ky_up hjv]), rf_R (st_ne hR9.2.2.2.2.1 (by omega)) (by simp (decide := true) only [rf_l_ne, rf_v_ne, rf_an_ne, rf_at_ne, rf_by_ne, rf_ky_ne, up_ne, up_eq, up_v, rf_ky_up hjv]), rf_R (st_ne hR9.2.2.2.2.2.1 (by omega)) (by simp (decide := true) only [rf_l_ne, rf_v_ne, rf_an_ne, rf_at_ne, rf_by_ne, rf_ky_ne, up_ne, up_eq, up_v, rf_ky_up hjv]), rf_R (st_ne hR9.2.2.2.2.2.2.1 (by omega)) (by simp (decide := true) only [rf_l_ne, rf_v_ne, rf_an_ne, rf_at_ne, rf_by_ne, rf_ky_ne, up_ne, up_eq, up_v, rf_ky_up hjv]), rf_R (st_ne hR9.2.2.2.2.2.2.2.1 (by omega)) (by simp (decide := true) only [rf_l_ne, rf_v_ne, rf_an_ne, rf_at_ne, rf_by_ne, rf_ky_ne, up_ne, up_eq, up_v, rf_ky_up hjv]), rf_R (st_ne hR9.2.2.2.2.2.2.2.2.1 (by omega)) (by simp (decide := true) only [rf_l_ne, rf_v_ne, rf_an_ne, rf_at_ne, rf_by_ne, rf_ky_ne, up_ne, up_eq, up_v, rf_ky_up hjv]), rf_R (st_ne hR9.2.2.2.2.2.2.2.2.2.1 (by omega)) (by simp (decide := true) only [rf_l_ne, rf_v_ne, rf_an_ne, rf_at_ne, rf_by_ne, rf_ky_ne, up_ne, up_eq, up_v, rf_ky_up hjv]), rf_R (st_ne hR9.2.2.2.2.2.2.2.2.2.2.1 (by omega)) (by simp (decide := true) only [rf_l_ne, rf_v_ne, rf_an_ne, rf_at_ne, rf_by_ne, rf_ky_ne, up_ne, up_eq, up_v, rf_ky_up hjv]), rf_R (st_ne hR9.2.2.2.2.2.2.2.2.2.2.2.1 (by omega)) (by simp (decide := true) only [rf_l_ne, rf_v_ne, rf_an_ne, rf_at_ne, rf_by_ne, rf_ky_ne, up_ne, up_eq, up_v, rf_ky_up hjv]), rf_R (st_ne hR9.2.2.2.2.2.2.2.2.2.2.2.2.1 (by omega)) (by simp (decide := true) only [rf_l_ne, rf_v_ne, rf_an_ne, rf_at_ne, rf_by_ne, rf_ky_ne, up_ne, up_eq, up_v, rf_ky_up hjv]), rf_R (st_ne hR9.2.2.2.2.2.2.2.2.2.2.2.2.2.1 (by omega)) (by simp (decide := true) only [rf_l_ne, rf_v_ne, rf_an_ne, rf_at_ne, rf_by_ne, rf_ky_ne, up_ne, up_eq, up_v, rf_ky_up hjv]), rf_R (st_ne hR9.2.2.2.2.2.2.2.2.2.2.2.2.2.2.1 (by omega)) (by simp (decide := true) only [rf_l_ne, rf_v_ne, rf_an_ne, rf_at_ne, rf_by_ne, rf_ky_ne, up_ne, up_eq, up_v, rf_ky_up hjv]), rf_R (st_ne hR9.2.2.2.2.2.2.2.2.2.2.2.2.2.2.2.1 (by omega)) (by simp (decide := true) only [rf_l_ne, rf_v_ne, rf_an_ne, rf_at_ne, rf_by_ne, rf_ky_ne, up_ne, up_eq, up_v, rf_ky_up hjv]), rf_R (st_eq hR9.2.2.2.2.2.2.2.2.2.2.2.2.2.2.2.2.1) (by simp (decide := true) only [rf_l_ne, rf_v_ne, rf_an_ne, rf_at_ne, rf_by_ne, rf_ky_ne, up_ne, up_eq, up_v, rf_ky_up hjv]), rf_R (st_ne hR9.2.2.2.2.2.2.2.2.2.2.2.2.2.2.2.2.2.1 (by omega)) (by simp (decide := true) only [rf_l_ne, rf_v_ne, rf_an_ne, rf_at_ne, rf_by_ne, rf_ky_ne, up_ne, up_eq, up_v, rf_ky_up hjv]), rf_R (st_ne hR9.2.2.2.2.2.2.2.2.2.2.2.2.2.2.2.2.2.2.1 (by omega)) (by simp (decide := true) only [rf_l_ne, rf_v_ne, rf_an_ne, rf_at_ne, rf_by_ne, rf_ky_ne, up_ne, up_eq, up_v, rf_ky_up hjv]), rf_R (st_ne hR9.2.2.2.2.2.2.2.2.2.2.2.2.2.2.2.2.2.2.2.1 (by omega)) (by simp (decide := true) only [rf_l_ne, rf_v_ne, rf_an_ne, rf_at_ne, rf_by_ne, rf_ky_ne, up_ne, up_eq, up_v, rf_ky_up hjv]), rf_R (st_ne hR9.2.2.2.2.2.2.2.2.2.2.2.2.2.2.2.2.2.2.2.2.1 (by omega)) (by simp (decide := true) only [rf_l_ne, rf_v_ne, rf_an_ne, rf_at_ne, rf_by_ne, rf_ky_ne, up_ne, up_eq, up_v, rf_ky_up hjv]), rf_R (st_ne hR9.2.2.2.2.2.2.2.2.2.2.2.2.2.2.2.2.2.2.2.2.2.1 (by omega)) (by simp (decide := true) only [rf_l_ne, rf_v_ne, rf_an_ne, rf_at_ne, rf_by_ne, rf_ky_ne, up_ne, up_eq, up_v, rf_ky_up hjv]), rf_R (st_ne hR9.2.2.2.2.2.2.2.2.2.2.2.2.2.2.2.2.2.2.2.2.2.2.1 (by omega)) (by simp (decide := true) only [rf_l_ne, rf_v_ne, rf_an_ne, rf_at_ne, rf_by_ne, rf_ky_ne, up_ne, up_eq, up_v, rf_ky_up hjv]), rf_R (st_ne hR9.2.2.2.2.2.2.2.2.2.2.2.2.2.2.2.2.2.2.2.2.2.2.2.1 (by omega)) (by simp (decide := true) only [rf_l_ne, rf_v_ne, rf_an_ne, rf_at_ne, rf_by_ne, rf_ky_ne, up_ne, up_eq, up_v, rf_ky_up hjv]), rf_R (st_ne hR9.2.2.2.2.2.2.2.2.2.2.2.2.2.2.2.2.2.2.2.2.2.2.2.2.1 (by omega)) (by simp (decide := true) only [rf_l_ne, rf_v_ne, rf_an_ne, rf_at_ne, rf_by_ne, rf_ky_ne, up_ne, up_eq, up_v, rf_ky_up hjv]), rf_R (st_ne hR9.2.2.2.2.2.2.2.2.2.2.2.2.2.2.2.2.2.2.2.2.2.2.2.2.2 (by omega)) (by simp (decide := true) only [rf_l_ne, rf_v_ne, rf_an_ne, rf_at_ne, rf_by_ne, rf_ky_ne, up_ne, up_eq, up_v, rf_ky_up hjv])⟩ (fR_tr hf9 (fR_set (by decide) (by decide))))
      · cases q14
        refine se_if_eq (pc := 17) (tgt := 24) dR_key_17 (by decide) (fun q12 => ?_) (fun q12 => absurd q12 (by decide))
        refine se_iconst (pc := 24) 0 (by decide) dR_key_24 ?_
        refine se_istore_n (pc := 25) dR_key_25 (by decide) [some (.ref 41), some (.int (nI jv)), some (.int p), some (.int 0), none] rfl ?_
        refine se_aload_n (pc := 26) rfl dR_key_26 ?_
        refine se_iload_n (pc := 27) rfl dR_key_27 ?_
        refine se_iload_n (pc := 28) rfl dR_key_28 ?_
        refine se_if_eq (pc := 29) (tgt := 46) dR_key_29 (by decide) (fun q13 => ?_) (fun q13 => absurd q13 (by decide))
        refine se_iconst (pc := 46) 0 (by decide) dR_key_46 ?_
        refine se_iconst (pc := 47) 1 (by decide) dR_key_47 ?_
        refine se_invV (pc := 48) (as := [.int 0, .int 0, .int 1]) (st := []) (vok sc) kR_goes dR_key_48 ⟨wd_655, wd_657, sl_10, wd_3⟩ rfl hO rfl (Nat.le_of_ble_eq_true rfl) (Nat.le_of_ble_eq_true rfl) (g_goes (r := 0) 1 hR (by decide) (by decide)) (C2 := 0) (S2 := 0) (by omega) (by omega) (fun v48 h48 _ q48 => ?_) (fun x hx => absurd hx List.not_mem_nil) (fun v48 h48 _ q48 => ?_)
        rotate_left
        · cases q48.2.2
        obtain ⟨hR9, hf9, q48⟩ := q48
        cases q48
        have hO9 := hR9.1
        rw [hI.1, hI.2.2.1] at hO9
        refine se_if_ne (pc := 51) (tgt := 56) dR_key_51 (by decide) (fun q14 => absurd q14 (by decide)) (fun q14 => ?_)
        refine se_iconst (pc := 54) 0 (by decide) dR_key_54 ?_
        exact se_iret (pc := 55) dR_key_55 rfl (rPi_no 0 (by clear hR hO hR9 hO9 hf9; simp_all [sp_key]) hR9 hf9)
  · cases q2
    refine se_if_eq (pc := 5) (tgt := 24) dR_key_5 (by decide) (fun q15 => ?_) (fun q15 => absurd q15 (by decide))
    refine se_iconst (pc := 24) 0 (by decide) dR_key_24 ?_
    refine se_istore_n (pc := 25) dR_key_25 (by decide) [some (.ref 41), some (.int v), some (.int p), some (.int 0), none] rfl ?_
    refine se_aload_n (pc := 26) rfl dR_key_26 ?_
    refine se_iload_n (pc := 27) rfl dR_key_27 ?_
    refine se_iload_n (pc := 28) rfl dR_key_28 ?_
    refine se_if_eq (pc := 29) (tgt := 46) dR_key_29 (by decide) (fun q16 => ?_) (fun q16 => absurd q16 (by decide))
    refine se_iconst (pc := 46) 0 (by decide) dR_key_46 ?_
    refine se_iconst (pc := 47) 1 (by decide) dR_key_47 ?_
    refine se_invV (pc := 48) (as := [.int 0, .int 0, .int 1]) (st := []) (vok sc) kR_goes dR_key_48 ⟨wd_655, wd_657, sl_10, wd_3⟩ rfl hO rfl (Nat.le_of_ble_eq_true rfl) (Nat.le_of_ble_eq_true rfl) (g_goes (r := 0) 1 hR (by decide) (by decide)) (C2 := 0) (S2 := 0) (by omega) (by omega) (fun v48 h48 _ q48 => ?_) (fun x hx => absurd hx List.not_mem_nil) (fun v48 h48 _ q48 => ?_)
    rotate_left
    · cases q48.2.2
    obtain ⟨hR9, hf9, q48⟩ := q48
    cases q48
    have hO9 := hR9.1
    rw [hI.1, hI.2.2.1] at hO9
    refine se_if_ne (pc := 51) (tgt := 56) dR_key_51 (by decide) (fun q17 => absurd q17 (by decide)) (fun q17 => ?_)
    refine se_iconst (pc := 54) 0 (by decide) dR_key_54 ?_
    exact se_iret (pc := 55) dR_key_55 rfl (rPi_no 0 (by clear hR hO hR9 hO9 hf9; simp_all [sp_key]) hR9 hf9)
end RPUB
