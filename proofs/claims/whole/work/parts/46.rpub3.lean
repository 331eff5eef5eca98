section RPUB
variable {sc : List (Nat × Nat × (Nat → Int32))} {l : Launch} {d : Nat} {h : se_H} {S : st_S} {t : Int32} {N : Nat}
theorem q_hr (hQ : st_Q N S) : ¬ S 26 0 0 = -1 := by
  obtain ⟨H, h1, h2⟩ := hQ.1
  rw [h2]
  intro e
  have := congrArg Int32.toInt e
  rw [nI_toInt (by omega), show (-1 : Int32).toInt = -1 from rfl] at this
  omega
theorem n_lt {n M : Nat} (h : ¬ nI M ≤ nI n) (hn : n ≤ M) (hM : M < 2 ^ 31) : n < M := by
  rw [nI_leI hM (by omega)] at h; omega
theorem sw6_in {w : Int32} (h : w.toInt < 0 ∨ 5 < w.toInt) : st_in 0 5 w = false := by
  rw [st_in, Bool.and_eq_false_iff, decide_eq_false_iff_not, decide_eq_false_iff_not, Int32.le_iff_toInt_le, Int32.le_iff_toInt_le, show (0 : Int32).toInt = 0 from rfl, show (5 : Int32).toInt = 5 from rfl]
  omega
theorem rf_ky_nV {k s y : Int32} (h20 : S 20 (st_nv S) 0 = -1) (hn : st_nv S ≤ 20) : rf_ky (st_up (st_up (st_up (st_up S 11 (st_nv S) 0 k) 12 (st_nv S) 0 s) 13 (st_nv S) 0 y) 24 0 0 (nI (st_nv S) + 1)) = upd (rf_ky S) (st_nv S) (-1) := by
  funext j
  have e : st_nv (st_up (st_up (st_up (st_up S 11 (st_nv S) 0 k) 12 (st_nv S) 0 s) 13 (st_nv S) 0 y) 24 0 0 (nI (st_nv S) + 1)) = st_nv S + 1 := by
    show (st_up _ 24 0 0 (nI (st_nv S) + 1) 24 0 0).toNatClampNeg = _
    rw [up_v, nI_1, nI_clamp (by omega)]
  simp only [rf_ky, e, up_ne (show (20 : Nat) ≠ 24 by decide), up_ne (show (20 : Nat) ≠ 13 by decide), up_ne (show (20 : Nat) ≠ 12 by decide), up_ne (show (20 : Nat) ≠ 11 by decide), upd]
  by_cases h1 : j = st_nv S
  · subst h1; simp [h20]
  · by_cases h2 : j < st_nv S
    · simp [h1, h2, show j < st_nv S + 1 by omega]
    · simp [h1, h2, show ¬ j < st_nv S + 1 by omega]
set_option maxHeartbeats 1000000 in
set_option maxRecDepth 100000 in
theorem r_use {v k : Int32} (hd : 8 ≤ d) (hR : is_R S t h) (hI : st_I S) (hQ : st_Q N S) (hN : N < 2 ^ 31) : se_W (vG sc) l d mR_use 0 (se_ent 3 [.ref 41, .int v, .int k]) [] h 0 0 (rPi h (sp_use S v k)) := by
  obtain ⟨d, rfl⟩ : ∃ e, d = e + 1 := ⟨d - 1, by omega⟩
  show se_W (vG sc) l (d + 1) mR_use 0 [some (.ref 41), some (.int v), some (.int k)] [] h 0 0 _
  have hn20 := hI.2.1
  have hd100 := hI.2.2.2.1
  have hO := hR.1
  rw [hI.1, hI.2.2.1] at hO
  refine se_aload_n (pc := 0) rfl dR_use_0 ?_
  refine se_aload_n (pc := 1) rfl dR_use_1 ?_
  refine se_iload_n (pc := 2) rfl dR_use_2 ?_
  refine se_invV (pc := 3) (as := [.int v]) (st := [.ref 41]) (vok sc) kR_isVehicle dR_use_3 ⟨wd_674, wd_676, sl_11, wd_3⟩ rfl hO rfl (Nat.le_of_ble_eq_true rfl) (Nat.le_of_ble_eq_true rfl) (x_R_isVehicle (by omega) hR hI) (C2 := 0) (S2 := 0) (by omega) (by omega) (fun v3 h3 _ q3 => ?_) (fun x hx => absurd hx List.not_mem_nil) (fun v3 h3 _ q3 => ?_)
  rotate_left
  · rcases q3.2 with ⟨_, _, _, _, e⟩ | ⟨_, e⟩ <;> cases e
  obtain ⟨h3e, q3⟩ := q3
  have h3f := h3e.symm
  subst h3f
  rcases q3 with ⟨jv, hxv, hjv, rfl, q3⟩ | ⟨hxv, q3⟩
  · cases q3
    refine se_iload_n (pc := 6) rfl dR_use_6 ?_
    refine se_iconst (pc := 7) 0 (by decide) dR_use_7 ?_
    refine se_ldc (pc := 8) 1000000 dR_use_8 wd_723 ?_
    refine se_invS (pc := 10) (as := [.int k, .int 0, .int 1000000]) (st := [.int 1, .ref 41]) (vok sc) kR_in dR_use_10 ⟨wd_652, wd_653, wd_3⟩ rfl (Nat.le_of_ble_eq_true rfl) (Nat.le_of_ble_eq_true rfl) (x_R_in) (C2 := 0) (S2 := 0) (by omega) (by omega) (fun v10 h10 _ q10 => ?_) (fun x hx => absurd hx List.not_mem_nil) (fun v10 h10 _ q10 => ?_)
    rotate_left
    · rcases q10.2 with ⟨_, e⟩ | ⟨_, e⟩ <;> cases e
    obtain ⟨h10e, q10⟩ := q10
    have h10f := h10e.symm
    subst h10f
    rcases q10 with ⟨hi10, q10⟩ | ⟨hi10, q10⟩
    · cases q10
      refine se_aload_n (pc := 13) rfl dR_use_13 ?_
      refine se_iload_n (pc := 14) rfl dR_use_14 ?_
      refine se_invV (pc := 15) (as := [.int (nI jv)]) (st := [.int 1, .int 1, .ref 41]) (vok sc) kR_isVehicle dR_use_15 ⟨wd_674, wd_676, sl_11, wd_3⟩ rfl hO rfl (Nat.le_of_ble_eq_true rfl) (Nat.le_of_ble_eq_true rfl) (x_R_vy (by omega) hR hI hjv) (C2 := 0) (S2 := 0) (by omega) (by omega) (fun v15 h15 _ q15 => ?_) (fun x hx => absurd hx List.not_mem_nil) (fun v15 h15 _ q15 => ?_)
      rotate_left
      · cases q15.2
      obtain ⟨h15e, q15⟩ := q15
      have h15f := h15e.symm
      subst h15f
      cases q15
      refine se_if_eq (pc := 18) (tgt := 33) dR_use_18 (by decide) (fun q1 => absurd q1 (by decide)) (fun q1 => ?_)
      refine se_aload_n (pc := 21) rfl dR_use_21 ?_
      refine se_iload_n (pc := 22) rfl dR_use_22 ?_
      refine se_invV (pc := 23) (as := [.int (nI jv)]) (st := [.int 1, .int 1, .ref 41]) (vok sc) kR_isRunning dR_use_23 ⟨wd_715, wd_717, sl_17, wd_3⟩ rfl hO rfl (Nat.le_of_ble_eq_true rfl) (Nat.le_of_ble_eq_true rfl) (c_R_isRunning (by omega) hR (q_kd hQ hjv) (by omega) (hI.2.2.2.2 _ hjv) hQ hN hI) (C2 := 0) (S2 := 0) (by omega) (by omega) (fun v23 h23 _ q23 => ?_) (fun x hx => absurd hx List.not_mem_nil) (fun v23 h23 _ q23 => ?_)
      rotate_left
      · cases q23.2
      obtain ⟨h23e, q23⟩ := q23
      have h23f := h23e.symm
      subst h23f
      cases q23
      cases hru : st_ru S (st_kd S jv) jv
      · show se_W _ _ _ _ _ _ (.int 0 :: _) _ _ _ _
        refine se_if_eq (pc := 26) (tgt := 33) dR_use_26 (by decide) (fun q2 => ?_) (fun q2 => absurd q2 (by decide))
        refine se_iconst (pc := 33) 0 (by decide) dR_use_33 ?_
        refine se_invV (pc := 34) (as := [.int 1, .int 1, .int 0]) (st := []) (vok sc) kR_goes dR_use_34 ⟨wd_655, wd_657, sl_10, wd_3⟩ rfl hO rfl (Nat.le_of_ble_eq_true rfl) (Nat.le_of_ble_eq_true rfl) (g_goes (r := 0) 3 hR (by decide) (by decide)) (C2 := 0) (S2 := 0) (by omega) (by omega) (fun v34 h34 _ q34 => ?_) (fun x hx => absurd hx List.not_mem_nil) (fun v34 h34 _ q34 => ?_)
        rotate_left
        · cases q34.2.2
        obtain ⟨hR9, hf9, q34⟩ := q34
        cases q34
        have hO9 := hR9.1
        rw [hI.1, hI.2.2.1] at hO9
        refine se_if_ne (pc := 37) (tgt := 42) dR_use_37 (by decide) (fun q3 => absurd q3 (by decide)) (fun q3 => ?_)
        refine se_iconst (pc := 40) 0 (by decide) dR_use_40 ?_
        exact se_zret (pc := 41) dR_use_41 rfl (by first | decide | exact st_b01 _) (rPi_no 2 (by clear hR hO hR9 hO9 hf9; simp_all [sp_use, upd, Int32.not_lt, Int32.not_le]) hR9 hf9)
      · show se_W _ _ _ _ _ _ (.int 1 :: _) _ _ _ _
        refine se_if_eq (pc := 26) (tgt := 33) dR_use_26 (by decide) (fun q4 => absurd q4 (by decide)) (fun q4 => ?_)
        refine se_iconst (pc := 29) 1 (by decide) dR_use_29 ?_
        refine se_goto (pc := 30) (tgt := 34) dR_use_30 (by decide) ?_
        refine se_invV (pc := 34) (as := [.int 1, .int 1, .int 1]) (st := []) (vok sc) kR_goes dR_use_34 ⟨wd_655, wd_657, sl_10, wd_3⟩ rfl hO rfl (Nat.le_of_ble_eq_true rfl) (Nat.le_of_ble_eq_true rfl) (g_goes (r := 1) 0 hR (by decide) (by decide)) (C2 := 0) (S2 := 0) (by omega) (by omega) (fun v34 h34 _ q34 => ?_) (fun x hx => absurd hx List.not_mem_nil) (fun v34 h34 _ q34 => ?_)
        rotate_left
        · cases q34.2.2
        obtain ⟨hR9, hf9, q34⟩ := q34
        cases q34
        have hO9 := hR9.1
        rw [hI.1, hI.2.2.1] at hO9
        refine se_if_ne (pc := 37) (tgt := 42) dR_use_37 (by decide) (fun q5 => ?_) (fun q5 => absurd q5 (by decide))
        refine se_aload_n (pc := 42) rfl dR_use_42 ?_
        refine se_getf (pc := 43) clR 15 dR_use_43 wd_568 rfl (by decide) hO9 rfl ?_
        refine se_iload_n (pc := 46) rfl dR_use_46 ?_
        refine se_dup2 (pc := 47) rfl rfl dR_use_47 ?_
        refine se_ialdN (pc := 48) 0 dR_use_48 rfl hR9.2.2.2.2.2.2.2.2.2.2.2.2.2.1 (by omega) (by decide) ?_
        rw [rf_v_at]
        refine se_iconst (pc := 49) 1 (by decide) dR_use_49 ?_
        refine se_iadd (pc := 50) dR_use_50 ?_
        refine se_iastN (pc := 51) 0 dR_use_51 rfl hR9.2.2.2.2.2.2.2.2.2.2.2.2.2.1 (by omega) (by decide) ?_
        refine se_iload_n (pc := 52) rfl dR_use_52 ?_
        refine se_aload_n (pc := 53) rfl dR_use_53 ?_
        refine se_getf (pc := 54) clR 13 dR_use_54 wd_566 rfl (by decide) (st_ne hO9 (by omega)) rfl ?_
        refine se_iload_n (pc := 57) rfl dR_use_57 ?_
        refine se_ialdN (pc := 58) 0 dR_use_58 rfl (st_ne hR9.2.2.2.2.2.2.2.2.2.2.2.1 (by omega)) (by omega) (by decide) ?_
        rw [rf_v_at]
        refine se_icmp_ge (pc := 59) (tgt := 74) dR_use_59 (by decide) (fun q6 => ?_) (fun q6 => ?_)
        · refine se_aload_n (pc := 74) rfl dR_use_74 ?_
          refine se_getf (pc := 75) clR 13 dR_use_75 wd_566 rfl (by decide) (st_ne hO9 (by omega)) rfl ?_
          refine se_iload_n (pc := 78) rfl dR_use_78 ?_
          refine se_iload_n (pc := 79) rfl dR_use_79 ?_
          refine se_iastN (pc := 80) 0 dR_use_80 rfl (st_ne hR9.2.2.2.2.2.2.2.2.2.2.2.1 (by omega)) (by omega) (by decide) ?_
          refine se_iconst (pc := 81) 1 (by decide) dR_use_81 ?_
          exact se_zret (pc := 82) dR_use_82 rfl (by first | decide | exact st_b01 _) (rPi_ok (S' := st_up (st_up S 17 jv 0 (S 17 jv 0 + 1)) 15 jv 0 k) (by clear hR hO hR9 hO9 hf9; simp_all [sp_use, upd, Int32.not_lt, Int32.not_le]) ⟨rf_O (st_ne (st_ne hO9 (by omega)) (by omega)) (by simp (decide := true) only [up_ne, up_v, ← hI.1, ← hI.2.2.1]) (by simp (decide := true) only [up_ne, up_v, ← hI.1, ← hI.2.2.1]) (by simp (decide := true) only [up_ne, up_v, ← hI.1, ← hI.2.2.1]), rf_R (st_ne (st_ne hR9.2.1 (by omega)) (by omega)) (by simp (decide := true) only [rf_l_ne, rf_v_ne, rf_an_ne, rf_at_ne, rf_by_ne, rf_ky_ne, up_ne, up_eq, up_v, rf_v_up]), rf_R (st_ne (st_ne hR9.2.2.1 (by omega)) (by omega)) (by simp (decide := true) only [rf_l_ne, rf_v_ne, rf_an_ne, rf_at_ne, rf_by_ne, rf_ky_ne, up_ne, up_eq, up_v, rf_v_up]), rf_R (st_ne (st_ne hR9.2.2.2.1 (by omega)) (by omega)) (by simp (decide := true) only [rf_l_ne, rf_v_ne, rf_an_ne, rf_at_ne, rf_by_ne, rf_ky_ne, up_ne, up_eq, up_v, rf_v_up]), rf_R (st_ne (st_ne hR9.2.2.2.2.1 (by omega)) (by omega)) (by simp (decide := true) only [rf_l_ne, rf_v_ne, rf_an_ne, rf_at_ne, rf_by_ne, rf_ky_ne, up_ne, up_eq, up_v, rf_v_up]), rf_R (st_ne (st_ne hR9.2.2.2.2.2.1 (by omega)) (by omega)) (by simp (decide := true) only [rf_l_ne, rf_v_ne, rf_an_ne, rf_at_ne, rf_by_ne, rf_ky_ne, up_ne, up_eq, up_v, rf_v_up]), rf_R (st_ne (st_ne hR9.2.2.2.2.2.2.1 (by omega)) (by omega)) (by simp (decide := true) only [rf_l_ne, rf_v_ne, rf_an_ne, rf_at_ne, rf_by_ne, rf_ky_ne, up_ne, up_eq, up_v, rf_v_up]), rf_R (st_ne (st_ne hR9.2.2.2.2.2.2.2.1 (by omega)) (by omega)) (by simp (decide := true) only [rf_l_ne, rf_v_ne, rf_an_ne, rf_at_ne, rf_by_ne, rf_ky_ne, up_ne, up_eq, up_v, rf_v_up]), rf_R (st_ne (st_ne hR9.2.2.2.2.2.2.2.2.1 (by omega)) (by omega)) (by simp (decide := true) only [rf_l_ne, rf_v_ne, rf_an_ne, rf_at_ne, rf_by_ne, rf_ky_ne, up_ne, up_eq, up_v, rf_v_up]), rf_R (st_ne (st_ne hR9.2.2.2.2.2.2.2.2.2.1 (by omega)) (by omega)) (by simp (decide := true) only [rf_l_ne, rf_v_ne, rf_an_ne, rf_at_ne, rf_by_ne, rf_ky_ne, up_ne, up_eq, up_v, rf_v_up]), rf_R (st_ne (st_ne hR9.2.2.2.2.2.2.2.2.2.2.1 (by omega)) (by omega)) (by simp (decide := true) only [rf_l_ne, rf_v_ne, rf_an_ne, rf_at_ne, rf_by_ne, rf_ky_ne, up_ne, up_eq, up_v, rf_v_up]), rf_R (st_eq (st_ne hR9.2.2.2.2.2.2.2.2.2.2.2.1 (by omega))) (by simp (decide := true) only [rf_l_ne, rf_v_ne, rf_an_ne, rf_at_ne, rf_by_ne, rf_ky_ne, up_ne, up_eq, up_v, rf_v_up]), rf_R (st_ne (st_ne hR9.2.2.2.2.2.2.2.2.2.2.2.2.1 (by omega)) (by omega)) (by simp (decide := true) only [rf_l_ne, rf_v_ne, rf_an_ne, rf_at_ne, rf_by_ne, rf_ky_ne, up_ne, up_eq, up_v, rf_v_up]), rf_R (st_ne (st_eq hR9.2.2.2.2.2.2.2.2.2.2.2.2.2.1) (by omega)) (by simp (decide := true) only [rf_l_ne, rf_v_ne, rf_an_ne, rf_at_ne, rf_by_ne, rf_ky_ne, up_ne, up_eq, up_v, rf_v_up]), rf_R (st_ne (st_ne hR9.2.2.2.2.2.2.2.2.2.2.2.2.2.2.1 (by omega)) (by omega)) (by simp (decide := true) only [rf_l_ne, rf_v_ne, rf_an_ne, rf_at_ne, rf_by_ne, rf_ky_ne, up_ne, up_eq, up_v, rf_v_up]), rf_R (st_ne (st_ne hR9.2.2.2.2.2.2.2.2.2.2.2.2.2.2.2.1 (by omega)) (by omega)) (by simp (decide := true) only [rf_l_ne, rf_v_ne, rf_an_ne, rf_at_ne, rf_by_ne, rf_ky_ne, up_ne, up_eq, up_v, rf_v_up]), rf_R (st_ne (st_ne hR9.2.2.2.2.2.2.2.2.2.2.2.2.2.2.2.2.1 (by omega)) (by omega)) (by simp (decide := true) only [rf_l_ne, rf_v_ne, rf_an_ne, rf_at_ne, rf_by_ne, rf_ky_ne, up_ne, up_eq, up_v, rf_v_up]), rf_R (st_ne (st_ne hR9.2.2.2.2.2.2.2.2.2.2.2.2.2.2.2.2.2.1 (by omega)) (by omega)) (by simp (decide := true) only [rf_l_ne, rf_v_ne, rf_an_ne, rf_at_ne, rf_by_ne, rf_ky_ne, up_ne, up_eq, up_v, rf_v_up]), rf_R (st_ne (st_ne hR9.2.2.2.2.2.2.2.2.2.2.2.2.2.2.2.2.2.2.1 (by omega)) (by omega)) (by simp (decide := true) only [rf_l_ne, rf_v_ne, rf_an_ne, rf_at_ne, rf_by_ne, rf_ky_ne, up_ne, up_eq, up_v, rf_v_up]), rf_R (st_ne (st_ne hR9.2.2.2.2.2.2.2.2.2.2.2.2.2.2.2.2.2.2.2.1 (by omega)) (by omega)) (by simp (decide := true) only [rf_l_ne, rf_v_ne, rf_an_ne, rf_at_ne, rf_by_ne, rf_ky_ne, up_ne, up_eq, up_v, rf_v_up]), rf_R (st_ne (st_ne hR9.2.2.2.2.2.2.2.2.2.2.2.2.2.2.2.2.2.2.2.2.1 (by omega)) (by omega)) (by simp (decide := true) only [rf_l_ne, rf_v_ne, rf_an_ne, rf_at_ne, rf_by_ne, rf_ky_ne, up_ne, up_eq, up_v, rf_v_up]), rf_R (st_ne (st_ne hR9.2.2.2.2.2.2.2.2.2.2.2.2.2.2.2.2.2.2.2.2.2.1 (by omega)) (by omega)) (by simp (decide := true) only [rf_l_ne, rf_v_ne, rf_an_ne, rf_at_ne, rf_by_ne, rf_ky_ne, up_ne, up_eq, up_v, rf_v_up]), rf_R (st_ne (st_ne hR9.2.2.2.2.2.2.2.2.2.2.2.2.2.2.2.2.2.2.2.2.2.2.1 (by omega)) (by omega)) (by simp (decide := true) only [rf_l_ne, rf_v_ne, rf_an_ne, rf_at_ne, rf_by_ne, rf_ky_ne, up_ne, up_eq, up_v, rf_v_up]), rf_R (st_ne (st_ne hR9.2.2.2.2.2.2.2.2.2.2.2.2.2.2.2.2.2.2.2.2.2.2.2.1 (by omega)) (by omega)) (by simp (decide := true) only [rf_l_ne, rf_v_ne, rf_an_ne, rf_at_ne, rf_by_ne, rf_ky_ne, up_ne, up_eq, up_v, rf_v_up]), rf_R (st_ne (st_ne hR9.2.2.2.2.2.2.2.2.2.2.2.2.2.2.2.2.2.2.2.2.2.2.2.2.1 (by omega)) (by omega)) (by simp (decide := true) only [rf_l_ne, rf_v_ne, rf_an_ne, rf_at_ne, rf_by_ne, rf_ky_ne, up_ne, up_eq, up_v, rf_v_up]), rf_R (st_ne (st_ne hR9.2.2.2.2.2.2.2.2.2.2.2.2.2.2.2.2.2.2.2.2.2.2.2.2.2 (by omega)) (by omega)) (by simp (decide := true) only [rf_l_ne, rf_v_ne, rf_an_ne, rf_at_ne, rf_by_ne, rf_ky_ne, up_ne, up_eq, up_v, rf_v_up])⟩ (fR_tr (fR_tr hf9 (fR_set (by decide) (by decide))) (fR_set (by decide) (by decide))))
        · refine se_aload_n (pc := 62) rfl dR_use_62 ?_
          refine se_getf (pc := 63) clR 14 dR_use_63 wd_567 rfl (by decide) (st_ne hO9 (by omega)) rfl ?_
          refine se_iload_n (pc := 66) rfl dR_use_66 ?_
          refine se_dup2 (pc := 67) rfl rfl dR_use_67 ?_
          refine se_ialdN (pc := 68) 0 dR_use_68 rfl (st_ne hR9.2.2.2.2.2.2.2.2.2.2.2.2.1 (by omega)) (by omega) (by decide) ?_
          rw [rf_v_at]
          refine se_iconst (pc := 69) 1 (by decide) dR_use_69 ?_
          refine se_iadd (pc := 70) dR_use_70 ?_
          refine se_iastN (pc := 71) 0 dR_use_71 rfl (st_ne hR9.2.2.2.2.2.2.2.2.2.2.2.2.1 (by omega)) (by omega) (by decide) ?_
          refine se_iconst (pc := 72) 0 (by decide) dR_use_72 ?_
          exact se_zret (pc := 73) dR_use_73 rfl (by first | decide | exact st_b01 _) (rPi_ok (S' := st_up (st_up S 17 jv 0 (S 17 jv 0 + 1)) 16 jv 0 (S 16 jv 0 + 1)) (by clear hR hO hR9 hO9 hf9; simp_all [sp_use, upd, Int32.not_lt, Int32.not_le]) ⟨rf_O (st_ne (st_ne hO9 (by omega)) (by omega)) (by simp (decide := true) only [up_ne, up_v, ← hI.1, ← hI.2.2.1]) (by simp (decide := true) only [up_ne, up_v, ← hI.1, ← hI.2.2.1]) (by simp (decide := true) only [up_ne, up_v, ← hI.1, ← hI.2.2.1]), rf_R (st_ne (st_ne hR9.2.1 (by omega)) (by omega)) (by simp (decide := true) only [rf_l_ne, rf_v_ne, rf_an_ne, rf_at_ne, rf_by_ne, rf_ky_ne, up_ne, up_eq, up_v, rf_v_up]), rf_R (st_ne (st_ne hR9.2.2.1 (by omega)) (by omega)) (by simp (decide := true) only [rf_l_ne, rf_v_ne, rf_an_ne, rf_at_ne, rf_by_ne, rf_ky_ne, up_ne, up_eq, up_v, rf_v_up]), rf_R (st_ne (st_ne hR9.2.2.2.1 (by omega)) (by omega)) (by simp (decide := true) only [rf_l_ne, rf_v_ne, rf_an_ne, rf_at_ne, rf_by_ne, rf_ky_ne, up_ne, up_eq, up_v, rf_v_up]), rf_R (st_ne (st_ne hR9.2.2.2.2.1 (by omega)) (by omega)) (by simp (decide := true) only [rf_l_ne, rf_v_ne, rf_an_ne, rf_at_ne, rf_by_ne, rf_ky_ne, up_ne, up_eq, up_v, rf_v_up]), rf_R (st_ne (st_ne hR9.2.2.2.2.2.1 (by omega)) (by omega)) (by simp (decide := true) only [rf_l_ne, rf_v_ne, rf_an_ne, rf_at_ne, rf_by_ne, rf_ky_ne, up_ne, up_eq, up_v, rf_v_up]), rf_R (st_ne (st_ne hR9.2.2.2.2.2.2.1 (by omega)) (by omega)) (by simp (decide := true) only [rf_l_ne, rf_v_ne, rf_an_ne, rf_at_ne, rf_by_ne, rf_ky_ne, up_ne, up_eq, up_v, rf_v_up]), rf_R (st_ne (st_ne hR9.2.2.2.2.2.2.2.1 (by omega)) (by omega)) (by simp (decide := true) only [rf_l_ne, rf_v_ne, rf_an_ne, rf_at_ne, rf_by_ne, rf_ky_ne, up_ne, up_eq, up_v, rf_v_up]), rf_R (st_ne (st_ne hR9.2.2.2.2.2.2.2.2.1 (by omega)) (by omega)) (by simp (decide := true) only [rf_l_ne, rf_v_ne, rf_an_ne, rf_at_ne, rf_by_ne, rf_ky_ne, up_ne, up_eq, up_v, rf_v_up]), rf_R (st_ne (st_ne hR9.2.2.2.2.2.2.2.2.2.1 (by omega)) (by omega)) (by simp (decide := true) only [rf_l_ne, rf_v_ne, rf_an_ne, rf_at_ne, rf_by_ne, rf_ky_ne, up_ne, up_eq, up_v, rf_v_up]), rf_R (st_ne (st_ne hR9.2.2.2.2.2.2.2.2.2.2.1 (by omega)) (by omega)) (by simp (decide := true) only [rf_l_ne, rf_v_ne, rf_an_ne, rf_at_ne, rf_by_ne, rf_ky_ne, up_ne, up_eq, up_v, rf_v_up]), rf_R (st_ne (st_ne hR9.2.2.2.2.2.2.2.2.2.2.2.1 (by omega)) (by omega)) (by simp (decide := true) only [rf_l_ne, rf_v_ne, rf_an_ne, rf_at_ne, rf_by_ne, rf_ky_ne, up_ne, up_eq, up_v, rf_v_up]), rf_R (st_eq (st_ne hR9.2.2.2.2.2.2.2.2.2.2.2.2.1 (by omega))) (by simp (decide := true) only [rf_l_ne, rf_v_ne, rf_an_ne, rf_at_ne, rf_by_ne, rf_ky_ne, up_ne, up_eq, up_v, rf_v_up]), rf_R (st_ne (st_eq hR9.2.2.2.2.2.2.2.2.2.2.2.2.2.1) (by omega)) (by simp (decide := true) only [rf_l_ne, rf_v_ne, rf_an_ne, rf_at_ne, rf_by_ne, rf_ky_ne, up_ne, up_eq, up_v, rf_v_up]), rf_R (st_ne (st_ne hR9.2.2.2.2.2.2.2.2.2.2.2.2.2.2.1 (by omega)) (by omega)) (by simp (decide := true) only [rf_l_ne, rf_v_ne, rf_an_ne, rf_at_ne, rf_by_ne, rf_ky_ne, up_ne, up_eq, up_v, rf_v_up]), rf_R (st_ne (st_ne hR9.2.2.2.2.2.2.2.2.2.2.2.2.2.2.2.1 (by omega)) (by omega)) (by simp (decide := true) only [rf_l_ne, rf_v_ne, rf_an_ne, rf_at_ne, rf_by_ne, rf_ky_ne, up_ne, up_eq, up_v, rf_v_up]), rf_R (st_ne (st_ne hR9.2.2.2.2.2.2.2.2.2.2.2.2.2.2.2.2.1 (by omega)) (by omega)) (by simp (decide := true) only [rf_l_ne, rf_v_ne, rf_an_ne, rf_at_ne, rf_by_ne, rf_ky_ne, up_ne, up_eq, up_v, rf_v_up]), rf_R (st_ne (st_ne hR9.2.2.2.2.2.2.2.2.2.2.2.2.2.2.2.2.2.1 (by omega)) (by omega)) (by simp (decide := true) only [rf_l_ne, rf_v_ne, rf_an_ne, rf_at_ne, rf_by_ne, rf_ky_ne, up_ne, up_eq, up_v, rf_v_up]), rf_R (st_ne (st_ne hR9.2.2.2.2.2.2.2.2.2.2.2.2.2.2.2.2.2.2.1 (by omega)) (by omega)) (by simp (decide := true) only [rf_l_ne, rf_v_ne, rf_an_ne, rf_at_ne, rf_by_ne, rf_ky_ne, up_ne, up_eq, up_v, rf_v_up]), rf_R (st_ne (st_ne hR9.2.2.2.2.2.2.2.2.2.2.2.2.2.2.2.2.2.2.2.1 (by omega)) (by omega)) (by simp (decide := true) only [rf_l_ne, rf_v_ne, rf_an_ne, rf_at_ne, rf_by_ne, rf_ky_ne, up_ne, up_eq, up_v, rf_v_up]), rf_R (st_ne (st_ne hR9.2.2.2.2.2.2.2.2.2.2.2.2.2.2.2.2.2.2.2.2.1 (by omega)) (by omega)) (by simp (decide := true) only [rf_l_ne, rf_v_ne, rf_an_ne, rf_at_ne, rf_by_ne, rf_ky_ne, up_ne, up_eq, up_v, rf_v_up]), rf_R (st_ne (st_ne hR9.2.2.2.2.2.2.2.2.2.2.2.2.2.2.2.2.2.2.2.2.2.1 (by omega)) (by omega)) (by simp (decide := true) only [rf_l_ne, rf_v_ne, rf_an_ne, rf_at_ne, rf_by_ne, rf_ky_ne, up_ne, up_eq, up_v, rf_v_up]), rf_R (st_ne (st_ne hR9.2.2.2.2.2.2.2.2.2.2.2.2.2.2.2.2.2.2.2.2.2.2.1 (by omega)) (by omega)) (by simp (decide := true) only [rf_l_ne, rf_v_ne, rf_an_ne, rf_at_ne, rf_by_ne, rf_ky_ne, up_ne, up_eq, up_v, rf_v_up]), rf_R (st_ne (st_ne hR9.2.2.2.2.2.2.2.2.2.2.2.2.2.2.2.2.2.2.2.2.2.2.2.1 (by omega)) (by omega)) (by simp (decide := true) only [rf_l_ne, rf_v_ne, rf_an_ne, rf_at_ne, rf_by_ne, rf_ky_ne, up_ne, up_eq, up_v, rf_v_up]), rf_R (st_ne (st_ne hR9.2.2.2.2.2.2.2.2.2.2.2.2.2.2.2.2.2.2.2.2.2.2.2.2.1 (by omega)) (by omega)) (by simp (decide := true) only [rf_l_ne, rf_v_ne, rf_an_ne, rf_at_ne, rf_by_ne, rf_ky_ne, up_ne, up_eq, up_v, rf_v_up]), rf_R (st_ne (st_ne hR9.2.2.2.2.2.2.2.2.2.2.2.2.2.2.2.2.2.2.2.2.2.2.2.2.2 (by omega)) (by omega)) (by simp (decide := true) only [rf_l_ne, rf_v_ne, rf_an_ne, rf_at_ne, rf_by_ne, rf_ky_ne, up_ne, up_eq, up_v, rf_v_up])⟩ (fR_tr (fR_tr hf9 (fR_set (by decide) (by decide))) (fR_set (by decide) (by decide))))
    · cases q10
      refine se_aload_n (pc := 13) rfl dR_use_13 ?_
      refine se_iload_n (pc := 14) rfl dR_use_14 ?_
      refine se_invV (pc := 15) (as := [.int (nI jv)]) (st := [.int 0, .int 1, .ref 41]) (vok sc) kR_isVehicle dR_use_15 ⟨wd_674, wd_676, sl_11, wd_3⟩ rfl hO rfl (Nat.le_of_ble_eq_true rfl) (Nat.le_of_ble_eq_true rfl) (x_R_vy (by omega) hR hI hjv) (C2 := 0) (S2 := 0) (by omega) (by omega) (fun v15 h15 _ q15 => ?_) (fun x hx => absurd hx List.not_mem_nil) (fun v15 h15 _ q15 => ?_)
      rotate_left
      · cases q15.2
      obtain ⟨h15e, q15⟩ := q15
      have h15f := h15e.symm
      subst h15f
      cases q15
      refine se_if_eq (pc := 18) (tgt := 33) dR_use_18 (by decide) (fun q7 => absurd q7 (by decide)) (fun q7 => ?_)
      refine se_aload_n (pc := 21) rfl dR_use_21 ?_
      refine se_iload_n (pc := 22) rfl dR_use_22 ?_
      refine se_invV (pc := 23) (as := [.int (nI jv)]) (st := [.int 0, .int 1, .ref 41]) (vok sc) kR_isRunning dR_use_23 ⟨wd_715, wd_717, sl_17, wd_3⟩ rfl hO rfl (Nat.le_of_ble_eq_true rfl) (Nat.le_of_ble_eq_true rfl) (c_R_isRunning (by omega) hR (q_kd hQ hjv) (by omega) (hI.2.2.2.2 _ hjv) hQ hN hI) (C2 := 0) (S2 := 0) (by omega) (by omega) (fun v23 h23 _ q23 => ?_) (fun x hx => absurd hx List.not_mem_nil) (fun v23 h23 _ q23 => ?_)
      rotate_left
      · cases q23.2
      obtain ⟨h23e, q23⟩ := q23
      have h23f := h23e.symm
      subst h23f
      cases q23
      cases hru : st_ru S (st_kd S jv) jv
      · show se_W _ _ _ _ _ _ (.int 0 :: _) _ _ _ _
        refine se_if_eq (pc := 26) (tgt := 33) dR_use_26 (by decide) (fun q8 => ?_) (fun q8 => absurd q8 (by decide))
        refine se_iconst (pc := 33) 0 (by decide) dR_use_33 ?_
        refine se_invV (pc := 34) (as := [.int 1, .int 0, .int 0]) (st := []) (vok sc) kR_goes dR_use_34 ⟨wd_655, wd_657, sl_10, wd_3⟩ rfl hO rfl (Nat.le_of_ble_eq_true rfl) (Nat.le_of_ble_eq_true rfl) (g_goes (r := 0) 2 hR (by decide) (by decide)) (C2 := 0) (S2 := 0) (by omega) (by omega) (fun v34 h34 _ q34 => ?_) (fun x hx => absurd hx List.not_mem_nil) (fun v34 h34 _ q34 => ?_)
        rotate_left
        · cases q34.2.2
        obtain ⟨hR9, hf9, q34⟩ := q34
        cases q34
        have hO9 := hR9.1
        rw [hI.1, hI.2.2.1] at hO9
        refine se_if_ne (pc := 37) (tgt := 42) dR_use_37 (by decide) (fun q9 => absurd q9 (by decide)) (fun q9 => ?_)
        refine se_iconst (pc := 40) 0 (by decide) dR_use_40 ?_
        exact se_zret (pc := 41) dR_use_41 rfl (by first | decide | exact st_b01 _) (rPi_no 1 (by clear hR hO hR9 hO9 hf9; simp_all [sp_use, upd, Int32.not_lt, Int32.not_le]) hR9 hf9)
      · show se_W _ _ _ _ _ _ (.int 1 :: _) _ _ _ _
        refine se_if_eq (pc := 26) (tgt := 33) dR_use_26 (by decide) (fun q10 => absurd q10 (by decide)) (fun q10 => ?_)
        refine se_iconst (pc := 29) 1 (by decide) dR_use_29 ?_
        refine se_goto (pc := 30) (tgt := 34) dR_use_30 (by decide) ?_
        refine se_invV (pc := 34) (as := [.int 1, .int 0, .int 1]) (st := []) (vok sc) kR_goes dR_use_34 ⟨wd_655, wd_657, sl_10, wd_3⟩ rfl hO rfl (Nat.le_of_ble_eq_true rfl) (Nat.le_of_ble_eq_true rfl) (g_goes (r := 0) 2 hR (by decide) (by decide)) (C2 := 0) (S2 := 0) (by omega) (by omega) (fun v34 h34 _ q34 => ?_) (fun x hx => absurd hx List.not_mem_nil) (fun v34 h34 _ q34 => ?_)
        rotate_left
        · cases q34.2.2
        obtain ⟨hR9, hf9, q34⟩ := q34
        cases q34
        have hO9 := hR9.1
        rw [hI.1, hI.2.2.1] at hO9
        refine se_if_ne (pc := 37) (tgt := 42) dR_use_37 (by decide) (fun q11 => absurd q11 (by decide)) (fun q11 => ?_)
        refine se_iconst (pc := 40) 0 (by decide) dR_use_40 ?_
        exact se_zret (pc := 41) dR_use_41 rfl (by first | decide | exact st_b01 _) (rPi_no 1 (by clear hR hO hR9 hO9 hf9; simp_all [sp_use, upd, Int32.not_lt, Int32.not_le]) hR9 hf9)
  · cases q3
    refine se_iload_n (pc := 6) rfl dR_use_6 ?_
    refine se_iconst (pc := 7) 0 (by decide) dR_use_7 ?_
    refine se_ldc (pc := 8) 1000000 dR_use_8 wd_723 ?_
    refine se_invS (pc := 10) (as := [.int k, .int 0, .int 1000000]) (st := [.int 0, .ref 41]) (vok sc) kR_in dR_use_10 ⟨wd_652, wd_653, wd_3⟩ rfl (Nat.le_of_ble_eq_true rfl) (Nat.le_of_ble_eq_true rfl) (x_R_in) (C2 := 0) (S2 := 0) (by omega) (by omega) (fun v10 h10 _ q10 => ?_) (fun x hx => absurd hx List.not_mem_nil) (fun v10 h10 _ q10 => ?_)
    rotate_left
    · rcases q10.2 with ⟨_, e⟩ | ⟨_, e⟩ <;> cases e
    obtain ⟨h10e, q10⟩ := q10
    have h10f := h10e.symm
    subst h10f
    rcases q10 with ⟨hi10, q10⟩ | ⟨hi10, q10⟩
    · cases q10
      refine se_aload_n (pc := 13) rfl dR_use_13 ?_
      refine se_iload_n (pc := 14) rfl dR_use_14 ?_
      refine se_invV (pc := 15) (as := [.int v]) (st := [.int 1, .int 0, .ref 41]) (vok sc) kR_isVehicle dR_use_15 ⟨wd_674, wd_676, sl_11, wd_3⟩ rfl hO rfl (Nat.le_of_ble_eq_true rfl) (Nat.le_of_ble_eq_true rfl) (x_R_vn (by omega) hR hI hxv) (C2 := 0) (S2 := 0) (by omega) (by omega) (fun v15 h15 _ q15 => ?_) (fun x hx => absurd hx List.not_mem_nil) (fun v15 h15 _ q15 => ?_)
      rotate_left
      · cases q15.2
      obtain ⟨h15e, q15⟩ := q15
      have h15f := h15e.symm
      subst h15f
      cases q15
      refine se_if_eq (pc := 18) (tgt := 33) dR_use_18 (by decide) (fun q12 => ?_) (fun q12 => absurd q12 (by decide))
      refine se_iconst (pc := 33) 0 (by decide) dR_use_33 ?_
      refine se_invV (pc := 34) (as := [.int 0, .int 1, .int 0]) (st := []) (vok sc) kR_goes dR_use_34 ⟨wd_655, wd_657, sl_10, wd_3⟩ rfl hO rfl (Nat.le_of_ble_eq_true rfl) (Nat.le_of_ble_eq_true rfl) (g_goes (r := 0) 1 hR (by decide) (by decide)) (C2 := 0) (S2 := 0) (by omega) (by omega) (fun v34 h34 _ q34 => ?_) (fun x hx => absurd hx List.not_mem_nil) (fun v34 h34 _ q34 => ?_)
      rotate_left
      · cases q34.2.2
      obtain ⟨hR9, hf9, q34⟩ := q34
      cases q34
      have hO9 := hR9.1
      rw [hI.1, hI.2.2.1] at hO9
      refine se_if_ne (pc := 37) (tgt := 42) dR_use_37 (by decide) (fun q13 => absurd q13 (by decide)) (fun q13 => ?_)
      refine se_iconst (pc := 40) 0 (by decide) dR_use_40 ?_
      exact se_zret (pc := 41) dR_use_41 rfl (by first | decide | exact st_b01 _) (rPi_no 0 (by clear hR hO hR9 hO9 hf9; simp_all [sp_use, upd, Int32.not_lt, Int32.not_le]) hR9 hf9)
    · cases q10
      refine se_aload_n (pc := 13) rfl dR_use_13 ?_
      refine se_iload_n (pc := 14) rfl dR_use_14 ?_
      refine se_invV (pc := 15) (as := [.int v]) (st := [.int 0, .int 0, .ref 41]) (vok sc) kR_isVehicle dR_use_15 ⟨wd_674, wd_676, sl_11, wd_3⟩ rfl hO rfl (Nat.le_of_ble_eq_true rfl) (Nat.le_of_ble_eq_true rfl) (x_R_vn (by omega) hR hI hxv) (C2 := 0) (S2 := 0) (by omega) (by omega) (fun v15 h15 _ q15 => ?_) (fun x hx => absurd hx List.not_mem_nil) (fun v15 h15 _ q15 => ?_)
      rotate_left
      · cases q15.2
      obtain ⟨h15e, q15⟩ := q15
      have h15f := h15e.symm
      subst h15f
      cases q15
      refine se_if_eq (pc := 18) (tgt := 33) dR_use_18 (by decide) (fun q14 => ?_) (fun q14 => absurd q14 (by decide))
      refine se_iconst (pc := 33) 0 (by decide) dR_use_33 ?_
      refine se_invV (pc := 34) (as := [.int 0, .int 0, .int 0]) (st := []) (vok sc) kR_goes dR_use_34 ⟨wd_655, wd_657, sl_10, wd_3⟩ rfl hO rfl (Nat.le_of_ble_eq_true rfl) (Nat.le_of_ble_eq_true rfl) (g_goes (r := 0) 1 hR (by decide) (by decide)) (C2 := 0) (S2 := 0) (by omega) (by omega) (fun v34 h34 _ q34 => ?_) (fun x hx => absurd hx List.not_mem_nil) (fun v34 h34 _ q34 => ?_)
      rotate_left
      · cases q34.2.2
      obtain ⟨hR9, hf9, q34⟩ := q34
      cases q34
      have hO9 := hR9.1
      rw [hI.1, hI.2.2.1] at hO9
      refine se_if_ne (pc := 37) (tgt := 42) dR_use_37 (by decide) (fun q15 => absurd q15 (by decide)) (fun q15 => ?_)
      refine se_iconst (pc := 40) 0 (by decide) dR_use_40 ?_
      exact se_zret (pc := 41) dR_use_41 rfl (by first | decide | exact st_b01 _) (rPi_no 0 (by clear hR hO hR9 hO9 hf9; simp_all [sp_use, upd, Int32.not_lt, Int32.not_le]) hR9 hf9)
set_option maxHeartbeats 1000000 in
set_option maxRecDepth 100000 in
theorem r_damage {v g : Int32} (hd : 3 ≤ d) (hR : is_R S t h) (hI : st_I S) (hQ : st_Q N S) (hN : N < 2 ^ 31) : se_W (vG sc) l d mR_damage 0 (se_ent 3 [.ref 41, .int v, .int g]) [] h 0 0 (rPi h (sp_damage S v g)) := by
  obtain ⟨d, rfl⟩ : ∃ e, d = e + 1 := ⟨d - 1, by omega⟩
  show se_W (vG sc) l (d + 1) mR_damage 0 [some (.ref 41), some (.int v), some (.int g)] [] h 0 0 _
  have hn20 := hI.2.1
  have hd100 := hI.2.2.2.1
  have hO := hR.1
  rw [hI.1, hI.2.2.1] at hO
  refine se_aload_n (pc := 0) rfl dR_damage_0 ?_
  refine se_aload_n (pc := 1) rfl dR_damage_1 ?_
  refine se_iload_n (pc := 2) rfl dR_damage_2 ?_
  refine se_invV (pc := 3) (as := [.int v]) (st := [.ref 41]) (vok sc) kR_isVehicle dR_damage_3 ⟨wd_674, wd_676, sl_11, wd_3⟩ rfl hO rfl (Nat.le_of_ble_eq_true rfl) (Nat.le_of_ble_eq_true rfl) (x_R_isVehicle (by omega) hR hI) (C2 := 0) (S2 := 0) (by omega) (by omega) (fun v3 h3 _ q3 => ?_) (fun x hx => absurd hx List.not_mem_nil) (fun v3 h3 _ q3 => ?_)
  rotate_left
  · rcases q3.2 with ⟨_, _, _, _, e⟩ | ⟨_, e⟩ <;> cases e
  obtain ⟨h3e, q3⟩ := q3
  have h3f := h3e.symm
  subst h3f
  rcases q3 with ⟨jv, hxv, hjv, rfl, q3⟩ | ⟨hxv, q3⟩
  · cases q3
    refine se_iload_n (pc := 6) rfl dR_damage_6 ?_
    refine se_iconst (pc := 7) 1 (by decide) dR_damage_7 ?_
    refine se_iconst (pc := 8) 3 (by decide) dR_damage_8 ?_
    refine se_invS (pc := 9) (as := [.int g, .int 1, .int 3]) (st := [.int 1, .ref 41]) (vok sc) kR_in dR_damage_9 ⟨wd_652, wd_653, wd_3⟩ rfl (Nat.le_of_ble_eq_true rfl) (Nat.le_of_ble_eq_true rfl) (x_R_in) (C2 := 0) (S2 := 0) (by omega) (by omega) (fun v9 h9 _ q9 => ?_) (fun x hx => absurd hx List.not_mem_nil) (fun v9 h9 _ q9 => ?_)
    rotate_left
    · rcases q9.2 with ⟨_, e⟩ | ⟨_, e⟩ <;> cases e
    obtain ⟨h9e, q9⟩ := q9
    have h9f := h9e.symm
    subst h9f
    rcases q9 with ⟨hi9, q9⟩ | ⟨hi9, q9⟩
    · cases q9
      refine se_aload_n (pc := 12) rfl dR_damage_12 ?_
      refine se_getf (pc := 13) clR 25 dR_damage_13 wd_578 rfl (by decide) hO rfl ?_
      refine se_bipush (pc := 16) 100 (by decide) dR_damage_16 ?_
      refine se_icmp_ge (pc := 18) (tgt := 25) dR_damage_18 (by decide) (fun q1 => ?_) (fun q1 => ?_)
      · refine se_iconst (pc := 25) 0 (by decide) dR_damage_25 ?_
        refine se_invV (pc := 26) (as := [.int 1, .int 1, .int 0]) (st := []) (vok sc) kR_goes dR_damage_26 ⟨wd_655, wd_657, sl_10, wd_3⟩ rfl hO rfl (Nat.le_of_ble_eq_true rfl) (Nat.le_of_ble_eq_true rfl) (g_goes (r := 0) 3 hR (by decide) (by decide)) (C2 := 0) (S2 := 0) (by omega) (by omega) (fun v26 h26 _ q26 => ?_) (fun x hx => absurd hx List.not_mem_nil) (fun v26 h26 _ q26 => ?_)
        rotate_left
        · cases q26.2.2
        obtain ⟨hR9, hf9, q26⟩ := q26
        cases q26
        have hO9 := hR9.1
        rw [hI.1, hI.2.2.1] at hO9
        refine se_if_ne (pc := 29) (tgt := 34) dR_damage_29 (by decide) (fun q2 => absurd q2 (by decide)) (fun q2 => ?_)
        refine se_iconst (pc := 32) 0 (by decide) dR_damage_32 ?_
        exact se_iret (pc := 33) dR_damage_33 rfl (rPi_no 2 (by clear hR hO hR9 hO9 hf9; simp_all [sp_damage, Int32.add_sub_cancel, Int32.not_lt, Int32.not_le]) hR9 hf9)
      · refine se_iconst (pc := 21) 1 (by decide) dR_damage_21 ?_
        refine se_goto (pc := 22) (tgt := 26) dR_damage_22 (by decide) ?_
        refine se_invV (pc := 26) (as := [.int 1, .int 1, .int 1]) (st := []) (vok sc) kR_goes dR_damage_26 ⟨wd_655, wd_657, sl_10, wd_3⟩ rfl hO rfl (Nat.le_of_ble_eq_true rfl) (Nat.le_of_ble_eq_true rfl) (g_goes (r := 1) 0 hR (by decide) (by decide)) (C2 := 0) (S2 := 0) (by omega) (by omega) (fun v26 h26 _ q26 => ?_) (fun x hx => absurd hx List.not_mem_nil) (fun v26 h26 _ q26 => ?_)
        rotate_left
        · cases q26.2.2
        obtain ⟨hR9, hf9, q26⟩ := q26
        cases q26
        have hO9 := hR9.1
        rw [hI.1, hI.2.2.1] at hO9
        refine se_if_ne (pc := 29) (tgt := 34) dR_damage_29 (by decide) (fun q3 => ?_) (fun q3 => absurd q3 (by decide))
        have hnd9 : st_nd S < 100 := n_lt (M := 100) (by assumption) hd100 (by decide)
        refine se_aload_n (pc := 34) rfl dR_damage_34 ?_
        refine se_getf (pc := 35) clR 26 dR_damage_35 wd_579 rfl (by decide) hO9 rfl ?_
        refine se_aload_n (pc := 38) rfl dR_damage_38 ?_
        refine se_getf (pc := 39) clR 25 dR_damage_39 wd_578 rfl (by decide) hO9 rfl ?_
        refine se_iload_n (pc := 42) rfl dR_damage_42 ?_
        refine se_iastN (pc := 43) 0 dR_damage_43 rfl hR9.2.2.2.2.2.2.2.2.2.2.2.2.2.2.2.2.2.2.2.2.2.2.2.1 (by omega) (by decide) ?_
        refine se_aload_n (pc := 44) rfl dR_damage_44 ?_
        refine se_getf (pc := 45) clR 27 dR_damage_45 wd_580 rfl (by decide) (st_ne hO9 (by omega)) rfl ?_
        refine se_aload_n (pc := 48) rfl dR_damage_48 ?_
        refine se_getf (pc := 49) clR 25 dR_damage_49 wd_578 rfl (by decide) (st_ne hO9 (by omega)) rfl ?_
        refine se_iload_n (pc := 52) rfl dR_damage_52 ?_
        refine se_iastN (pc := 53) 0 dR_damage_53 rfl (st_ne hR9.2.2.2.2.2.2.2.2.2.2.2.2.2.2.2.2.2.2.2.2.2.2.2.2.1 (by omega)) (by omega) (by decide) ?_
        refine se_aload_n (pc := 54) rfl dR_damage_54 ?_
        refine se_dup (pc := 55) rfl dR_damage_55 ?_
        refine se_getf (pc := 56) clR 25 dR_damage_56 wd_578 rfl (by decide) (st_ne (st_ne hO9 (by omega)) (by omega)) rfl ?_
        refine se_iconst (pc := 59) 1 (by decide) dR_damage_59 ?_
        refine se_iadd (pc := 60) dR_damage_60 ?_
        refine se_putf (pc := 61) clR 25 dR_damage_61 wd_578 rfl (by decide) rfl (fun _ => ⟨rfl, rfl⟩) (st_ne (st_ne hO9 (by omega)) (by omega)) (Nat.le_of_ble_eq_true rfl) ?_
        refine se_aload_n (pc := 64) rfl dR_damage_64 ?_
        refine se_getf (pc := 65) clR 25 dR_damage_65 wd_578 rfl (by decide) (st_eq (st_ne (st_ne hO9 (by omega)) (by omega))) rfl ?_
        refine se_iconst (pc := 68) 1 (by decide) dR_damage_68 ?_
        refine se_isub (pc := 69) dR_damage_69 ?_
        exact se_iret (pc := 70) dR_damage_70 rfl (rPi_ok (S' := st_up (st_up (st_up S 21 0 (st_nd S) (nI jv)) 22 0 (st_nd S) g) 25 0 0 (nI (st_nd S) + 1)) (by clear hR hO hR9 hO9 hf9; (have hnd9 := nI_lt (b := 100) (show st_nd S < 100 by assumption) (by decide)); rw [show nI 100 = (100 : Int32) from rfl] at hnd9; simp_all [sp_damage, Int32.add_sub_cancel]) ⟨rf_O (st_eq (st_ne (st_ne hO9 (by omega)) (by omega))) (by simp (decide := true) only [up_ne, up_v, ← hI.1, ← hI.2.2.1]) (by simp (decide := true) only [up_ne, up_v, ← hI.1, ← hI.2.2.1]) (by simp (decide := true) only [up_ne, up_v, ← hI.1, ← hI.2.2.1]), rf_R (st_ne (st_ne (st_ne hR9.2.1 (by omega)) (by omega)) (by omega)) (by simp (decide := true) only [rf_l_ne, rf_v_ne, rf_an_ne, rf_at_ne, rf_by_ne, rf_ky_ne, up_ne, up_eq, up_v]), rf_R (st_ne (st_ne (st_ne hR9.2.2.1 (by omega)) (by omega)) (by omega)) (by simp (decide := true) only [rf_l_ne, rf_v_ne, rf_an_ne, rf_at_ne, rf_by_ne, rf_ky_ne, up_ne, up_eq, up_v]), rf_R (st_ne (st_ne (st_ne hR9.2.2.2.1 (by omega)) (by omega)) (by omega)) (by simp (decide := true) only [rf_l_ne, rf_v_ne, rf_an_ne, rf_at_ne, rf_by_ne, rf_ky_ne, up_ne, up_eq, up_v]), rf_R (st_ne (st_ne (st_ne hR9.2.2.2.2.1 (by omega)) (by omega)) (by omega)) (by simp (decide := true) only [rf_l_ne, rf_v_ne, rf_an_ne, rf_at_ne, rf_by_ne, rf_ky_ne, up_ne, up_eq, up_v]), rf_R (st_ne (st_ne (st_ne hR9.2.2.2.2.2.1 (by omega)) (by omega)) (by omega)) (by simp (decide := true) only [rf_l_ne, rf_v_ne, rf_an_ne, rf_at_ne, rf_by_ne, rf_ky_ne, up_ne, up_eq, up_v]), rf_R (st_ne (st_ne (st_ne hR9.2.2.2.2.2.2.1 (by omega)) (by omega)) (by omega)) (by simp (decide := true) only [rf_l_ne, rf_v_ne, rf_an_ne, rf_at_ne, rf_by_ne, rf_ky_ne, up_ne, up_eq, up_v]), rf_R (st_ne (st_ne (st_ne hR9.2.2.2.2.2.2.2.1 (by omega)) (by omega)) (by omega)) (by simp (decide := true) only [rf_l_ne, rf_v_ne, rf_an_ne, rf_at_ne, rf_by_ne, rf_ky_ne, up_ne, up_eq, up_v]), rf_R (st_ne (st_ne (st_ne hR9.2.2.2.2.2.2.2.2.1 (by omega)) (by omega)) (by omega)) (by simp (decide := true) only [rf_l_ne, rf_v_ne, rf_an_ne, rf_at_ne, rf_by_ne, rf_ky_ne, up_ne, up_eq, up_v]), rf_R (st_ne (st_ne (st_ne hR9.2.2.2.2.2.2.2.2.2.1 (by omega)) (by omega)) (by omega)) (by simp (decide := true) only [rf_l_ne, rf_v_ne, rf_an_ne, rf_at_ne, rf_by_ne, rf_ky_ne, up_ne, up_eq, up_v]), rf_R (st_ne (st_ne (st_ne hR9.2.2.2.2.2.2.2.2.2.2.1 (by omega)) (by omega)) (by omega)) (by simp (decide := true) only [rf_l_ne, rf_v_ne, rf_an_ne, rf_at_ne, rf_by_ne, rf_ky_ne, up_ne, up_eq, up_v]), rf_R (st_ne (st_ne (st_ne hR9.2.2.2.2.2.2.2.2.2.2.2.1 (by omega)) (by omega)) (by omega)) (by simp (decide := true) only [rf_l_ne, rf_v_ne, rf_an_ne, rf_at_ne, rf_by_ne, rf_ky_ne, up_ne, up_eq, up_v]), rf_R (st_ne (st_ne (st_ne hR9.2.2.2.2.2.2.2.2.2.2.2.2.1 (by omega)) (by omega)) (by omega)) (by simp (decide := true) only [rf_l_ne, rf_v_ne, rf_an_ne, rf_at_ne, rf_by_ne, rf_ky_ne, up_ne, up_eq, up_v]), rf_R (st_ne (st_ne (st_ne hR9.2.2.2.2.2.2.2.2.2.2.2.2.2.1 (by omega)) (by omega)) (by omega)) (by simp (decide := true) only [rf_l_ne, rf_v_ne, rf_an_ne, rf_at_ne, rf_by_ne, rf_ky_ne, up_ne, up_eq, up_v]), rf_R (st_ne (st_ne (st_ne hR9.2.2.2.2.2.2.2.2.2.2.2.2.2.2.1 (by omega)) (by omega)) (by omega)) (by simp (decide := true) only [rf_l_ne, rf_v_ne, rf_an_ne, rf_at_ne, rf_by_ne, rf_ky_ne, up_ne, up_eq, up_v]), rf_R (st_ne (st_ne (st_ne hR9.2.2.2.2.2.2.2.2.2.2.2.2.2.2.2.1 (by omega)) (by omega)) (by omega)) (by simp (decide := true) only [rf_l_ne, rf_v_ne, rf_an_ne, rf_at_ne, rf_by_ne, rf_ky_ne, up_ne, up_eq, up_v]), rf_R (st_ne (st_ne (st_ne hR9.2.2.2.2.2.2.2.2.2.2.2.2.2.2.2.2.1 (by omega)) (by omega)) (by omega)) (by simp (decide := true) only [rf_l_ne, rf_v_ne, rf_an_ne, rf_at_ne, rf_by_ne, rf_ky_ne, up_ne, up_eq, up_v]), rf_R (st_ne (st_ne (st_ne hR9.2.2.2.2.2.2.2.2.2.2.2.2.2.2.2.2.2.1 (by omega)) (by omega)) (by omega)) (by simp (decide := true) only [rf_l_ne, rf_v_ne, rf_an_ne, rf_at_ne, rf_by_ne, rf_ky_ne, up_ne, up_eq, up_v]), rf_R (st_ne (st_ne (st_ne hR9.2.2.2.2.2.2.2.2.2.2.2.2.2.2.2.2.2.2.1 (by omega)) (by omega)) (by omega)) (by simp (decide := true) only [rf_l_ne, rf_v_ne, rf_an_ne, rf_at_ne, rf_by_ne, rf_ky_ne, up_ne, up_eq, up_v]), rf_R (st_ne (st_ne (st_ne hR9.2.2.2.2.2.2.2.2.2.2.2.2.2.2.2.2.2.2.2.1 (by omega)) (by omega)) (by omega)) (by simp (decide := true) only [rf_l_ne, rf_v_ne, rf_an_ne, rf_at_ne, rf_by_ne, rf_ky_ne, up_ne, up_eq, up_v]), rf_R (st_ne (st_ne (st_ne hR9.2.2.2.2.2.2.2.2.2.2.2.2.2.2.2.2.2.2.2.2.1 (by omega)) (by omega)) (by omega)) (by simp (decide := true) only [rf_l_ne, rf_v_ne, rf_an_ne, rf_at_ne, rf_by_ne, rf_ky_ne, up_ne, up_eq, up_v]), rf_R (st_ne (st_ne (st_ne hR9.2.2.2.2.2.2.2.2.2.2.2.2.2.2.2.2.2.2.2.2.2.1 (by omega)) (by omega)) (by omega)) (by simp (decide := true) only [rf_l_ne, rf_v_ne, rf_an_ne, rf_at_ne, rf_by_ne, rf_ky_ne, up_ne, up_eq, up_v]), rf_R (st_ne (st_ne (st_ne hR9.2.2.2.2.2.2.2.2.2.2.2.2.2.2.2.2.2.2.2.2.2.2.1 (by omega)) (by omega)) (by omega)) (by simp (decide := true) only [rf_l_ne, rf_v_ne, rf_an_ne, rf_at_ne, rf_by_ne, rf_ky_ne, up_ne, up_eq, up_v]), rf_R (st_ne (st_ne (st_eq hR9.2.2.2.2.2.2.2.2.2.2.2.2.2.2.2.2.2.2.2.2.2.2.2.1) (by omega)) (by omega)) (by simp (decide := true) only [rf_l_ne, rf_v_ne, rf_an_ne, rf_at_ne, rf_by_ne, rf_ky_ne, up_ne, up_eq, up_v]), rf_R (st_ne (st_eq (st_ne hR9.2.2.2.2.2.2.2.2.2.2.2.2.2.2.2.2.2.2.2.2.2.2.2.2.1 (by omega))) (by omega)) (by simp (decide := true) only [rf_l_ne, rf_v_ne, rf_an_ne, rf_at_ne, rf_by_ne, rf_ky_ne, up_ne, up_eq, up_v]), rf_R (st_ne (st_ne (st_ne hR9.2.2.2.2.2.2.2.2.2.2.2.2.2.2.2.2.2.2.2.2.2.2.2.2.2 (by omega)) (by omega)) (by omega)) (by simp (decide := true) only [rf_l_ne, rf_v_ne, rf_an_ne, rf_at_ne, rf_by_ne, rf_ky_ne, up_ne, up_eq, up_v])⟩ (fR_tr (fR_tr (fR_tr hf9 (fR_set (by decide) (by decide))) (fR_set (by decide) (by decide))) (fR_set (by decide) (by decide))))
    · cases q9
      refine se_aload_n (pc := 12) rfl dR_damage_12 ?_
      refine se_getf (pc := 13) clR 25 dR_damage_13 wd_578 rfl (by decide) hO rfl ?_
      refine se_bipush (pc := 16) 100 (by decide) dR_damage_16 ?_
      refine se_icmp_ge (pc := 18) (tgt := 25) dR_damage_18 (by decide) (fun q4 => ?_) (fun q4 => ?_)
      · refine se_iconst (pc := 25) 0 (by decide) dR_damage_25 ?_
        refine se_invV (pc := 26) (as := [.int 1, .int 0, .int 0]) (st := []) (vok sc) kR_goes dR_damage_26 ⟨wd_655, wd_657, sl_10, wd_3⟩ rfl hO rfl (Nat.le_of_ble_eq_true rfl) (Nat.le_of_ble_eq_true rfl) (g_goes (r := 0) 2 hR (by decide) (by decide)) (C2 := 0) (S2 := 0) (by omega) (by omega) (fun v26 h26 _ q26 => ?_) (fun x hx => absurd hx List.not_mem_nil) (fun v26 h26 _ q26 => ?_)
        rotate_left
        · cases q26.2.2
        obtain ⟨hR9, hf9, q26⟩ := q26
        cases q26
        have hO9 := hR9.1
        rw [hI.1, hI.2.2.1] at hO9
        refine se_if_ne (pc := 29) (tgt := 34) dR_damage_29 (by decide) (fun q5 => absurd q5 (by decide)) (fun q5 => ?_)
        refine se_iconst (pc := 32) 0 (by decide) dR_damage_32 ?_
        exact se_iret (pc := 33) dR_damage_33 rfl (rPi_no 1 (by clear hR hO hR9 hO9 hf9; simp_all [sp_damage, Int32.add_sub_cancel, Int32.not_lt, Int32.not_le]) hR9 hf9)
      · refine se_iconst (pc := 21) 1 (by decide) dR_damage_21 ?_
        refine se_goto (pc := 22) (tgt := 26) dR_damage_22 (by decide) ?_
        refine se_invV (pc := 26) (as := [.int 1, .int 0, .int 1]) (st := []) (vok sc) kR_goes dR_damage_26 ⟨wd_655, wd_657, sl_10, wd_3⟩ rfl hO rfl (Nat.le_of_ble_eq_true rfl) (Nat.le_of_ble_eq_true rfl) (g_goes (r := 0) 2 hR (by decide) (by decide)) (C2 := 0) (S2 := 0) (by omega) (by omega) (fun v26 h26 _ q26 => ?_) (fun x hx => absurd hx List.not_mem_nil) (fun v26 h26 _ q26 => ?_)
        rotate_left
        · cases q26.2.2
        obtain ⟨hR9, hf9, q26⟩ := q26
        cases q26
        have hO9 := hR9.1
        rw [hI.1, hI.2.2.1] at hO9
        refine se_if_ne (pc := 29) (tgt := 34) dR_damage_29 (by decide) (fun q6 => absurd q6 (by decide)) (fun q6 => ?_)
        refine se_iconst (pc := 32) 0 (by decide) dR_damage_32 ?_
        exact se_iret (pc := 33) dR_damage_33 rfl (rPi_no 1 (by clear hR hO hR9 hO9 hf9; simp_all [sp_damage, Int32.add_sub_cancel, Int32.not_lt, Int32.not_le]) hR9 hf9)
  · cases q3
    refine se_iload_n (pc := 6) rfl dR_damage_6 ?_
    refine se_iconst (pc := 7) 1 (by decide) dR_damage_7 ?_
    refine se_iconst (pc := 8) 3 (by decide) dR_damage_8 ?_
    refine se_invS (pc := 9) (as := [.int g, .int 1, .int 3]) (st := [.int 0, .ref 41]) (vok sc) kR_in dR_damage_9 ⟨wd_652, wd_653, wd_3⟩ rfl (Nat.le_of_ble_eq_true rfl) (Nat.le_of_ble_eq_true rfl) (x_R_in) (C2 := 0) (S2 := 0) (by omega) (by omega) (fun v9 h9 _ q9 => ?_) (fun x hx => absurd hx List.not_mem_nil) (fun v9 h9 _ q9 => ?_)
    rotate_left
    · rcases q9.2 with ⟨_, e⟩ | ⟨_, e⟩ <;> cases e
    obtain ⟨h9e, q9⟩ := q9
    have h9f := h9e.symm
    subst h9f
    rcases q9 with ⟨hi9, q9⟩ | ⟨hi9, q9⟩
    · cases q9
      refine se_aload_n (pc := 12) rfl dR_damage_12 ?_
      refine se_getf (pc := 13) clR 25 dR_damage_13 wd_578 rfl (by decide) hO rfl ?_
      refine se_bipush (pc := 16) 100 (by decide) dR_damage_16 ?_
      refine se_icmp_ge (pc := 18) (tgt := 25) dR_damage_18 (by decide) (fun q7 => ?_) (fun q7 => ?_)
      · refine se_iconst (pc := 25) 0 (by decide) dR_damage_25 ?_
        refine se_invV (pc := 26) (as := [.int 0, .int 1, .int 0]) (st := []) (vok sc) kR_goes dR_damage_26 ⟨wd_655, wd_657, sl_10, wd_3⟩ rfl hO rfl (Nat.le_of_ble_eq_true rfl) (Nat.le_of_ble_eq_true rfl) (g_goes (r := 0) 1 hR (by decide) (by decide)) (C2 := 0) (S2 := 0) (by omega) (by omega) (fun v26 h26 _ q26 => ?_) (fun x hx => absurd hx List.not_mem_nil) (fun v26 h26 _ q26 => ?_)
        rotate_left
        · cases q26.2.2
        obtain ⟨hR9, hf9, q26⟩ := q26
        cases q26
        have hO9 := hR9.1
        rw [hI.1, hI.2.2.1] at hO9
        refine se_if_ne (pc := 29) (tgt := 34) dR_damage_29 (by decide) (fun q8 => absurd q8 (by decide)) (fun q8 => ?_)
        refine se_iconst (pc := 32) 0 (by decide) dR_damage_32 ?_
        exact se_iret (pc := 33) dR_damage_33 rfl (rPi_no 0 (by clear hR hO hR9 hO9 hf9; simp_all [sp_damage, Int32.add_sub_cancel, Int32.not_lt, Int32.not_le]) hR9 hf9)
      · refine se_iconst (pc := 21) 1 (by decide) dR_damage_21 ?_
        refine se_goto (pc := 22) (tgt := 26) dR_damage_22 (by decide) ?_
        refine se_invV (pc := 26) (as := [.int 0, .int 1, .int 1]) (st := []) (vok sc) kR_goes dR_damage_26 ⟨wd_655, wd_657, sl_10, wd_3⟩ rfl hO rfl (Nat.le_of_ble_eq_true rfl) (Nat.le_of_ble_eq_true rfl) (g_goes (r := 0) 1 hR (by decide) (by decide)) (C2 := 0) (S2 := 0) (by omega) (by omega) (fun v26 h26 _ q26 => ?_) (fun x hx => absurd hx List.not_mem_nil) (fun v26 h26 _ q26 => ?_)
        rotate_left
        · cases q26.2.2
        obtain ⟨hR9, hf9, q26⟩ := q26
        cases q26
        have hO9 := hR9.1
        rw [hI.1, hI.2.2.1] at hO9
        refine se_if_ne (pc := 29) (tgt := 34) dR_damage_29 (by decide) (fun q9 => absurd q9 (by decide)) (fun q9 => ?_)
        refine se_iconst (pc := 32) 0 (by decide) dR_damage_32 ?_
        exact se_iret (pc := 33) dR_damage_33 rfl (rPi_no 0 (by clear hR hO hR9 hO9 hf9; simp_all [sp_damage, Int32.add_sub_cancel, Int32.not_lt, Int32.not_le]) hR9 hf9)
    · cases q9
      refine se_aload_n (pc := 12) rfl dR_damage_12 ?_
      refine se_getf (pc := 13) clR 25 dR_damage_13 wd_578 rfl (by decide) hO rfl ?_
      refine se_bipush (pc := 16) 100 (by decide) dR_damage_16 ?_
      refine se_icmp_ge (pc := 18) (tgt := 25) dR_damage_18 (by decide) (fun q10 => ?_) (fun q10 => ?_)
      · refine se_iconst (pc := 25) 0 (by decide) dR_damage_25 ?_
        refine se_invV (pc := 26) (as := [.int 0, .int 0, .int 0]) (st := []) (vok sc) kR_goes dR_damage_26 ⟨wd_655, wd_657, sl_10, wd_3⟩ rfl hO rfl (Nat.le_of_ble_eq_true rfl) (Nat.le_of_ble_eq_true rfl) (g_goes (r := 0) 1 hR (by decide) (by decide)) (C2 := 0) (S2 := 0) (by omega) (by omega) (fun v26 h26 _ q26 => ?_) (fun x hx => absurd hx List.not_mem_nil) (fun v26 h26 _ q26 => ?_)
        rotate_left
        · cases q26.2.2
        obtain ⟨hR9, hf9, q26⟩ := q26
        cases q26
        have hO9 := hR9.1
        rw [hI.1, hI.2.2.1] at hO9
        refine se_if_ne (pc := 29) (tgt := 34) dR_damage_29 (by decide) (fun q11 => absurd q11 (by decide)) (fun q11 => ?_)
        refine se_iconst (pc := 32) 0 (by decide) dR_damage_32 ?_
        exact se_iret (pc := 33) dR_damage_33 rfl (rPi_no 0 (by clear hR hO hR9 hO9 hf9; simp_all [sp_damage, Int32.add_sub_cancel, Int32.not_lt, Int32.not_le]) hR9 hf9)
      · refine se_iconst (pc := 21) 1 (by decide) dR_damage_21 ?_
        refine se_goto (pc := 22) (tgt := 26) dR_damage_22 (by decide) ?_
        refine se_invV (pc := 26) (as := [.int 0, .int 0, .int 1]) (st := []) (vok sc) kR_goes dR_damage_26 ⟨wd_655, wd_657, sl_10, wd_3⟩ rfl hO rfl (Nat.le_of_ble_eq_true rfl) (Nat.le_of_ble_eq_true rfl) (g_goes (r := 0) 1 hR (by decide) (by decide)) (C2 := 0) (S2 := 0) (by omega) (by omega) (fun v26 h26 _ q26 => ?_) (fun x hx => absurd hx List.not_mem_nil) (fun v26 h26 _ q26 => ?_)
        rotate_left
        · cases q26.2.2
        obtain ⟨hR9, hf9, q26⟩ := q26
        cases q26
        have hO9 := hR9.1
        rw [hI.1, hI.2.2.1] at hO9
        refine se_if_ne (pc := 29) (tgt := 34) dR_damage_29 (by decide) (fun q12 => absurd q12 (by decide)) (fun q12 => ?_)
        refine se_iconst (pc := 32) 0 (by decide) dR_damage_32 ?_
        exact se_iret (pc := 33) dR_damage_33 rfl (rPi_no 0 (by clear hR hO hR9 hO9 hf9; simp_all [sp_damage, Int32.add_sub_cancel, Int32.not_lt, Int32.not_le]) hR9 hf9)
set_option maxHeartbeats 1000000 in
set_option maxRecDepth 100000 in
theorem r_proof {e p : Int32} (hd : 3 ≤ d) (hR : is_R S t h) (hI : st_I S) (hQ : st_Q N S) (hN : N < 2 ^ 31) : se_W (vG sc) l d mR_proof 0 (se_ent 4 [.ref 41, .int e, .int p]) [] h 0 0 (rPv h (sp_proof S e p)) := by
  obtain ⟨d, rfl⟩ : ∃ e, d = e + 1 := ⟨d - 1, by omega⟩
  show se_W (vG sc) l (d + 1) mR_proof 0 [some (.ref 41), some (.int e), some (.int p), none] [] h 0 0 _
  have hn20 := hI.2.1
  have hd100 := hI.2.2.2.1
  have hO := hR.1
  rw [hI.1, hI.2.2.1] at hO
  refine se_iload_n (pc := 0) rfl dR_proof_0 ?_
  refine se_iconst (pc := 1) 0 (by decide) dR_proof_1 ?_
  refine se_aload_n (pc := 2) rfl dR_proof_2 ?_
  refine se_getf (pc := 3) clR 25 dR_proof_3 wd_578 rfl (by decide) hO rfl ?_
  refine se_iconst (pc := 6) 1 (by decide) dR_proof_6 ?_
  refine se_isub (pc := 7) dR_proof_7 ?_
  refine se_invS (pc := 8) (as := [.int e, .int 0, .int ((nI (st_nd S)) - 1)]) (st := []) (vok sc) kR_in dR_proof_8 ⟨wd_652, wd_653, wd_3⟩ rfl (Nat.le_of_ble_eq_true rfl) (Nat.le_of_ble_eq_true rfl) (x_R_inD hI) (C2 := 0) (S2 := 0) (by omega) (by omega) (fun v8 h8 _ q8 => ?_) (fun x hx => absurd hx List.not_mem_nil) (fun v8 h8 _ q8 => ?_)
  rotate_left
  · rcases q8.2 with ⟨_, _, _, _, e⟩ | ⟨_, e⟩ <;> cases e
  obtain ⟨h8e, q8⟩ := q8
  have h8f := h8e.symm
  subst h8f
  rcases q8 with ⟨je, hxe, hje, rfl, q8⟩ | ⟨hxe, q8⟩
  · cases q8
    refine se_istore_n (pc := 11) dR_proof_11 (by decide) [some (.ref 41), some (.int (nI je)), some (.int p), some (.int 1)] rfl ?_
    refine se_aload_n (pc := 12) rfl dR_proof_12 ?_
    refine se_iload_n (pc := 13) rfl dR_proof_13 ?_
    refine se_iload_n (pc := 14) rfl dR_proof_14 ?_
    refine se_iconst (pc := 15) 1 (by decide) dR_proof_15 ?_
    refine se_sipush (pc := 16) 9999 (by decide) dR_proof_16 ?_
    refine se_invS (pc := 19) (as := [.int p, .int 1, .int 9999]) (st := [.int 1, .ref 41]) (vok sc) kR_in dR_proof_19 ⟨wd_652, wd_653, wd_3⟩ rfl (Nat.le_of_ble_eq_true rfl) (Nat.le_of_ble_eq_true rfl) (x_R_in) (C2 := 0) (S2 := 0) (by omega) (by omega) (fun v19 h19 _ q19 => ?_) (fun x hx => absurd hx List.not_mem_nil) (fun v19 h19 _ q19 => ?_)
    rotate_left
    · rcases q19.2 with ⟨_, e⟩ | ⟨_, e⟩ <;> cases e
    obtain ⟨h19e, q19⟩ := q19
    have h19f := h19e.symm
    subst h19f
    rcases q19 with ⟨hi19, q19⟩ | ⟨hi19, q19⟩
    · cases q19
      refine se_iload_n (pc := 22) rfl dR_proof_22 ?_
      refine se_if_eq (pc := 23) (tgt := 39) dR_proof_23 (by decide) (fun q1 => absurd q1 (by decide)) (fun q1 => ?_)
      refine se_aload_n (pc := 26) rfl dR_proof_26 ?_
      refine se_getf (pc := 27) clR 28 dR_proof_27 wd_581 rfl (by decide) hO rfl ?_
      refine se_iload_n (pc := 30) rfl dR_proof_30 ?_
      refine se_ialdN (pc := 31) 0 dR_proof_31 rfl hR.2.2.2.2.2.2.2.2.2.2.2.2.2.2.2.2.2.2.2.2.2.2.2.2.2 (by omega) (by decide) ?_
      refine se_if_ne (pc := 32) (tgt := 39) dR_proof_32 (by decide) (fun q2 => ?_) (fun q2 => ?_)
      · refine se_iconst (pc := 39) 0 (by decide) dR_proof_39 ?_
        refine se_invV (pc := 40) (as := [.int 1, .int 1, .int 0]) (st := []) (vok sc) kR_goes dR_proof_40 ⟨wd_655, wd_657, sl_10, wd_3⟩ rfl hO rfl (Nat.le_of_ble_eq_true rfl) (Nat.le_of_ble_eq_true rfl) (g_goes (r := 0) 3 hR (by decide) (by decide)) (C2 := 0) (S2 := 0) (by omega) (by omega) (fun v40 h40 _ q40 => ?_) (fun x hx => absurd hx List.not_mem_nil) (fun v40 h40 _ q40 => ?_)
        rotate_left
        · cases q40.2.2
        obtain ⟨hR9, hf9, q40⟩ := q40
        cases q40
        have hO9 := hR9.1
        rw [hI.1, hI.2.2.1] at hO9
        refine se_if_eq (pc := 43) (tgt := 53) dR_proof_43 (by decide) (fun q3 => ?_) (fun q3 => absurd q3 (by decide))
        exact se_vret (pc := 53) dR_proof_53 rfl (rPv_ok 3 (by clear hR hO hR9 hO9 hf9; simp_all [sp_proof]) hR9 hf9)
      · refine se_iconst (pc := 35) 1 (by decide) dR_proof_35 ?_
        refine se_goto (pc := 36) (tgt := 40) dR_proof_36 (by decide) ?_
        refine se_invV (pc := 40) (as := [.int 1, .int 1, .int 1]) (st := []) (vok sc) kR_goes dR_proof_40 ⟨wd_655, wd_657, sl_10, wd_3⟩ rfl hO rfl (Nat.le_of_ble_eq_true rfl) (Nat.le_of_ble_eq_true rfl) (g_goes (r := 1) 0 hR (by decide) (by decide)) (C2 := 0) (S2 := 0) (by omega) (by omega) (fun v40 h40 _ q40 => ?_) (fun x hx => absurd hx List.not_mem_nil) (fun v40 h40 _ q40 => ?_)
        rotate_left
        · cases q40.2.2
        obtain ⟨hR9, hf9, q40⟩ := q40
        cases q40
        have hO9 := hR9.1
        rw [hI.1, hI.2.2.1] at hO9
        refine se_if_eq (pc := 43) (tgt := 53) dR_proof_43 (by decide) (fun q4 => absurd q4 (by decide)) (fun q4 => ?_)
        refine se_aload_n (pc := 46) rfl dR_proof_46 ?_
        refine se_getf (pc := 47) clR 28 dR_proof_47 wd_581 rfl (by decide) hO9 rfl ?_
        refine se_iload_n (pc := 50) rfl dR_proof_50 ?_
        refine se_iload_n (pc := 51) rfl dR_proof_51 ?_
        refine se_iastN (pc := 52) 0 dR_proof_52 rfl hR9.2.2.2.2.2.2.2.2.2.2.2.2.2.2.2.2.2.2.2.2.2.2.2.2.2 (by omega) (by decide) ?_
        exact se_vret (pc := 53) dR_proof_53 rfl (rPv_ok 0 (S' := st_up S 23 0 je p) (by clear hR hO hR9 hO9 hf9; simp_all [sp_proof]) ⟨rf_O (st_ne hO9 (by omega)) (by simp (decide := true) only [up_ne, up_v, ← hI.1, ← hI.2.2.1]) (by simp (decide := true) only [up_ne, up_v, ← hI.1, ← hI.2.2.1]) (by simp (decide := true) only [up_ne, up_v, ← hI.1, ← hI.2.2.1]), rf_R (st_ne hR9.2.1 (by omega)) (by simp (decide := true) only [rf_l_ne, rf_v_ne, rf_an_ne, rf_at_ne, rf_by_ne, rf_ky_ne, up_ne, up_eq, up_v]), rf_R (st_ne hR9.2.2.1 (by omega)) (by simp (decide := true) only [rf_l_ne, rf_v_ne, rf_an_ne, rf_at_ne, rf_by_ne, rf_ky_ne, up_ne, up_eq, up_v]), rf_R (st_ne hR9.2.2.2.1 (by omega)) (by simp (decide := true) only [rf_l_ne, rf_v_ne, rf_an_ne, rf_at_ne, rf_by_ne, rf_ky_ne, up_ne, up_eq, up_v]), rf_R (st_ne hR9.2.2.2.2.1 (by omega)) (by simp (decide := true) only [rf_l_ne, rf_v_ne, rf_an_ne, rf_at_ne, rf_by_ne, rf_ky_ne, up_ne, up_eq, up_v]), rf_R (st_ne hR9.2.2.2.2.2.1 (by omega)) (by simp (decide := true) only [rf_l_ne, rf_v_ne, rf_an_ne, rf_at_ne, rf_by_ne, rf_ky_ne, up_ne, up_eq, up_v]), rf_R (st_ne hR9.2.2.2.2.2.2.1 (by omega)) (by simp (decide := true) only [rf_l_ne, rf_v_ne, rf_an_ne, rf_at_ne, rf_by_ne, rf_ky_ne, up_ne, up_eq, up_v]), rf_R (st_ne hR9.2.2.2.2.2.2.2.1 (by omega)) (by simp (decide := true) only [rf_l_ne, rf_v_ne, rf_an_ne, rf_at_ne, rf_by_ne, rf_ky_ne, up_ne, up_eq, up_v]), rf_R (st_ne hR9.2.2.2.2.2.2.2.2.1 (by omega)) (by simp (decide := true) only [rf_l_ne, rf_v_ne, rf_an_ne, rf_at_ne, rf_by_ne, rf_ky_ne, up_ne, up_eq, up_v]), rf_R (st_ne hR9.2.2.2.2.2.2.2.2.2.1 (by omega)) (by simp (decide := true) only [rf_l_ne, rf_v_ne, rf_an_ne, rf_at_ne, rf_by_ne, rf_ky_ne, up_ne, up_eq, up_v]), rf_R (st_ne hR9.2.2.2.2.2.2.2.2.2.2.1 (by omega)) (by simp (decide := true) only [rf_l_ne, rf_v_ne, rf_an_ne, rf_at_ne, rf_by_ne, rf_ky_ne, up_ne, up_eq, up_v]), rf_R (st_ne hR9.2.2.2.2.2.2.2.2.2.2.2.1 (by omega)) (by simp (decide := true) only [rf_l_ne, rf_v_ne, rf_an_ne, rf_at_ne, rf_by_ne, rf_ky_ne, up_ne, up_eq, up_v]), rf_R (st_ne hR9.2.2.2.2.2.2.2.2.2.2.2.2.1 (by omega)) (by simp (decide := true) only [rf_l_ne, rf_v_ne, rf_an_ne, rf_at_ne, rf_by_ne, rf_ky_ne, up_ne, up_eq, up_v]), rf_R (st_ne hR9.2.2.2.2.2.2.2.2.2.2.2.2.2.1 (by omega)) (by simp (decide := true) only [rf_l_ne, rf_v_ne, rf_an_ne, rf_at_ne, rf_by_ne, rf_ky_ne, up_ne, up_eq, up_v]), rf_R (st_ne hR9.2.2.2.2.2.2.2.2.2.2.2.2.2.2.1 (by omega)) (by simp (decide := true) only [rf_l_ne, rf_v_ne, rf_an_ne, rf_at_ne, rf_by_ne, rf_ky_ne, up_ne, up_eq, up_v]), rf_R (st_ne hR9.2.2.2.2.2.2.2.2.2.2.2.2.2.2.2.1 (by omega)) (by simp (decide := true) only [rf_l_ne, rf_v_ne, rf_an_ne, rf_at_ne, rf_by_ne, rf_ky_ne, up_ne, up_eq, up_v]), rf_R (st_ne hR9.2.2.2.2.2.2.2.2.2.2.2.2.2.2.2.2.1 (by omega)) (by simp (decide := true) only [rf_l_ne, rf_v_ne, rf_an_ne, rf_at_ne, rf_by_ne, rf_ky_ne, up_ne, up_eq, up_v]), rf_R (st_ne hR9.2.2.2.2.2.2.2.2.2.2.2.2.2.2.2.2.2.1 (by omega)) (by simp (decide := true) only [rf_l_ne, rf_v_ne, rf_an_ne, rf_at_ne, rf_by_ne, rf_ky_ne, up_ne, up_eq, up_v]), rf_R (st_ne hR9.2.2.2.2.2.2.2.2.2.2.2.2.2.2.2.2.2.2.1 (by omega)) (by simp (decide := true) only [rf_l_ne, rf_v_ne, rf_an_ne, rf_at_ne, rf_by_ne, rf_ky_ne, up_ne, up_eq, up_v]), rf_R (st_ne hR9.2.2.2.2.2.2.2.2.2.2.2.2.2.2.2.2.2.2.2.1 (by omega)) (by simp (decide := true) only [rf_l_ne, rf_v_ne, rf_an_ne, rf_at_ne, rf_by_ne, rf_ky_ne, up_ne, up_eq, up_v]), rf_R (st_ne hR9.2.2.2.2.2.2.2.2.2.2.2.2.2.2.2.2.2.2.2.2.1 (by omega)) (by simp (decide := true) only [rf_l_ne, rf_v_ne, rf_an_ne, rf_at_ne, rf_by_ne, rf_ky_ne, up_ne, up_eq, up_v]), rf_R (st_ne hR9.2.2.2.2.2.2.2.2.2.2.2.2.2.2.2.2.2.2.2.2.2.1 (by omega)) (by simp (decide := true) only [rf_l_ne, rf_v_ne, rf_an_ne, rf_at_ne, rf_by_ne, rf_ky_ne, up_ne, up_eq, up_v]), rf_R (st_ne hR9.2.2.2.2.2.2.2.2.2.2.2.2.2.2.2.2.2.2.2.2.2.2.1 (by omega)) (by simp (decide := true) only [rf_l_ne, rf_v_ne, rf_an_ne, rf_at_ne, rf_by_ne, rf_ky_ne, up_ne, up_eq, up_v]), rf_R (st_ne hR9.2.2.2.2.2.2.2.2.2.2.2.2.2.2.2.2.2.2.2.2.2.2.2.1 (by omega)) (by simp (decide := true) only [rf_l_ne, rf_v_ne, rf_an_ne, rf_at_ne, rf_by_ne, rf_ky_ne, up_ne, up_eq, up_v]), rf_R (st_ne hR9.2.2.2.2.2.2.2.2.2.2.2.2.2.2.2.2.2.2.2.2.2.2.2.2.1 (by omega)) (by simp (decide := true) only [rf_l_ne, rf_v_ne, rf_an_ne, rf_at_ne, rf_by_ne, rf_ky_ne, up_ne, up_eq, up_v]), rf_R (st_eq hR9.2.2.2.2.2.2.2.2.2.2.2.2.2.2.2.2.2.2.2.2.2.2.2.2.2) (by simp (decide := true) only [rf_l_ne, rf_v_ne, rf_an_ne, rf_at_ne, rf_by_ne, rf_ky_ne, up_ne, up_eq, up_v])⟩ (fR_tr hf9 (fR_set (by decide) (by decide))))
    · cases q19
      refine se_iload_n (pc := 22) rfl dR_proof_22 ?_
      refine se_if_eq (pc := 23) (tgt := 39) dR_proof_23 (by decide) (fun q5 => absurd q5 (by decide)) (fun q5 => ?_)
      refine se_aload_n (pc := 26) rfl dR_proof_26 ?_
      refine se_getf (pc := 27) clR 28 dR_proof_27 wd_581 rfl (by decide) hO rfl ?_
      refine se_iload_n (pc := 30) rfl dR_proof_30 ?_
      refine se_ialdN (pc := 31) 0 dR_proof_31 rfl hR.2.2.2.2.2.2.2.2.2.2.2.2.2.2.2.2.2.2.2.2.2.2.2.2.2 (by omega) (by decide) ?_
      refine se_if_ne (pc := 32) (tgt := 39) dR_proof_32 (by decide) (fun q6 => ?_) (fun q6 => ?_)
      · refine se_iconst (pc := 39) 0 (by decide) dR_proof_39 ?_
        refine se_invV (pc := 40) (as := [.int 1, .int 0, .int 0]) (st := []) (vok sc) kR_goes dR_proof_40 ⟨wd_655, wd_657, sl_10, wd_3⟩ rfl hO rfl (Nat.le_of_ble_eq_true rfl) (Nat.le_of_ble_eq_true rfl) (g_goes (r := 0) 2 hR (by decide) (by decide)) (C2 := 0) (S2 := 0) (by omega) (by omega) (fun v40 h40 _ q40 => ?_) (fun x hx => absurd hx List.not_mem_nil) (fun v40 h40 _ q40 => ?_)
        rotate_left
        · cases q40.2.2
        obtain ⟨hR9, hf9, q40⟩ := q40
        cases q40
        have hO9 := hR9.1
        rw [hI.1, hI.2.2.1] at hO9
        refine se_if_eq (pc := 43) (tgt := 53) dR_proof_43 (by decide) (fun q7 => ?_) (fun q7 => absurd q7 (by decide))
        exact se_vret (pc := 53) dR_proof_53 rfl (rPv_ok 2 (by clear hR hO hR9 hO9 hf9; simp_all [sp_proof]) hR9 hf9)
      · refine se_iconst (pc := 35) 1 (by decide) dR_proof_35 ?_
        refine se_goto (pc := 36) (tgt := 40) dR_proof_36 (by decide) ?_
        refine se_invV (pc := 40) (as := [.int 1, .int 0, .int 1]) (st := []) (vok sc) kR_goes dR_proof_40 ⟨wd_655, wd_657, sl_10, wd_3⟩ rfl hO rfl (Nat.le_of_ble_eq_true rfl) (Nat.le_of_ble_eq_true rfl) (g_goes (r := 0) 2 hR (by decide) (by decide)) (C2 := 0) (S2 := 0) (by omega) (by omega) (fun v40 h40 _ q40 => ?_) (fun x hx => absurd hx List.not_mem_nil) (fun v40 h40 _ q40 => ?_)
        rotate_left
        · cases q40.2.2
        obtain ⟨hR9, hf9, q40⟩ := q40
        cases q40
        have hO9 := hR9.1
        rw [hI.1, hI.2.2.1] at hO9
        refine se_if_eq (pc := 43) (tgt := 53) dR_proof_43 (by decide) (fun q8 => ?_) (fun q8 => absurd q8 (by decide))
        exact se_vret (pc := 53) dR_proof_53 rfl (rPv_ok 2 (by clear hR hO hR9 hO9 hf9; simp_all [sp_proof]) hR9 hf9)
  · cases q8
    refine se_istore_n (pc := 11) dR_proof_11 (by decide) [some (.ref 41), some (.int e), some (.int p), some (.int 0)] rfl ?_
    refine se_aload_n (pc := 12) rfl dR_proof_12 ?_
    refine se_iload_n (pc := 13) rfl dR_proof_13 ?_
    refine se_iload_n (pc := 14) rfl dR_proof_14 ?_
    refine se_iconst (pc := 15) 1 (by decide) dR_proof_15 ?_
    refine se_sipush (pc := 16) 9999 (by decide) dR_proof_16 ?_
    refine se_invS (pc := 19) (as := [.int p, .int 1, .int 9999]) (st := [.int 0, .ref 41]) (vok sc) kR_in dR_proof_19 ⟨wd_652, wd_653, wd_3⟩ rfl (Nat.le_of_ble_eq_true rfl) (Nat.le_of_ble_eq_true rfl) (x_R_in) (C2 := 0) (S2 := 0) (by omega) (by omega) (fun v19 h19 _ q19 => ?_) (fun x hx => absurd hx List.not_mem_nil) (fun v19 h19 _ q19 => ?_)
    rotate_left
    · rcases q19.2 with ⟨_, e⟩ | ⟨_, e⟩ <;> cases e
    obtain ⟨h19e, q19⟩ := q19
    have h19f := h19e.symm
    subst h19f
    rcases q19 with ⟨hi19, q19⟩ | ⟨hi19, q19⟩
    · cases q19
      refine se_iload_n (pc := 22) rfl dR_proof_22 ?_
      refine se_if_eq (pc := 23) (tgt := 39) dR_proof_23 (by decide) (fun q9 => ?_) (fun q9 => absurd q9 (by decide))
      refine se_iconst (pc := 39) 0 (by decide) dR_proof_39 ?_
      refine se_invV (pc := 40) (as := [.int 0, .int 1, .int 0]) (st := []) (vok sc) kR_goes dR_proof_40 ⟨wd_655, wd_657, sl_10, wd_3⟩ rfl hO rfl (Nat.le_of_ble_eq_true rfl) (Nat.le_of_ble_eq_true rfl) (g_goes (r := 0) 1 hR (by decide) (by decide)) (C2 := 0) (S2 := 0) (by omega) (by omega) (fun v40 h40 _ q40 => ?_) (fun x hx => absurd hx List.not_mem_nil) (fun v40 h40 _ q40 => ?_)
      rotate_left
      · cases q40.2.2
      obtain ⟨hR9, hf9, q40⟩ := q40
      cases q40
      have hO9 := hR9.1
      rw [hI.1, hI.2.2.1] at hO9
      refine se_if_eq (pc := 43) (tgt := 53) dR_proof_43 (by decide) (fun q10 => ?_) (fun q10 => absurd q10 (by decide))
      exact se_vret (pc := 53) dR_proof_53 rfl (rPv_ok 1 (by clear hR hO hR9 hO9 hf9; simp_all [sp_proof]) hR9 hf9)
    · cases q19
      refine se_iload_n (pc := 22) rfl dR_proof_22 ?_
      refine se_if_eq (pc := 23) (tgt := 39) dR_proof_23 (by decide) (fun q11 => ?_) (fun q11 => absurd q11 (by decide))
      refine se_iconst (pc := 39) 0 (by decide) dR_proof_39 ?_
      refine se_invV (pc := 40) (as := [.int 0, .int 0, .int 0]) (st := []) (vok sc) kR_goes dR_proof_40 ⟨wd_655, wd_657, sl_10, wd_3⟩ rfl hO rfl (Nat.le_of_ble_eq_true rfl) (Nat.le_of_ble_eq_true rfl) (g_goes (r := 0) 1 hR (by decide) (by decide)) (C2 := 0) (S2 := 0) (by omega) (by omega) (fun v40 h40 _ q40 => ?_) (fun x hx => absurd hx List.not_mem_nil) (fun v40 h40 _ q40 => ?_)
      rotate_left
      · cases q40.2.2
      obtain ⟨hR9, hf9, q40⟩ := q40
      cases q40
      have hO9 := hR9.1
      rw [hI.1, hI.2.2.1] at hO9
      refine se_if_eq (pc := 43) (tgt := 53) dR_proof_43 (by decide) (fun q12 => ?_) (fun q12 => absurd q12 (by decide))
      exact se_vret (pc := 53) dR_proof_53 rfl (rPv_ok 1 (by clear hR hO hR9 hO9 hf9; simp_all [sp_proof]) hR9 hf9)
set_option maxHeartbeats 1000000 in
set_option maxRecDepth 100000 in
theorem r_swap {v w t9 : Int32} (hd : 3 ≤ d) (hR : is_R S t h) (hI : st_I S) (hQ : st_Q N S) (hN : N < 2 ^ 31) : se_W (vG sc) l d mR_swap 0 (se_ent 6 [.ref 41, .int v, .int w, .int t9]) [] h 0 0 (rPi h (sp_swap S v w t9)) := by
  obtain ⟨d, rfl⟩ : ∃ e, d = e + 1 := ⟨d - 1, by omega⟩
  show se_W (vG sc) l (d + 1) mR_swap 0 [some (.ref 41), some (.int v), some (.int w), some (.int t9), none, none] [] h 0 0 _
  have hn20 := hI.2.1
  have hd100 := hI.2.2.2.1
  have hO := hR.1
  rw [hI.1, hI.2.2.1] at hO
  refine se_aload_n (pc := 0) rfl dR_swap_0 ?_
  refine se_iload_n (pc := 1) rfl dR_swap_1 ?_
  refine se_invV (pc := 2) (as := [.int v]) (st := []) (vok sc) kR_isVehicle dR_swap_2 ⟨wd_674, wd_676, sl_11, wd_3⟩ rfl hO rfl (Nat.le_of_ble_eq_true rfl) (Nat.le_of_ble_eq_true rfl) (x_R_isVehicle (by omega) hR hI) (C2 := 0) (S2 := 0) (by omega) (by omega) (fun v2 h2 _ q2 => ?_) (fun x hx => absurd hx List.not_mem_nil) (fun v2 h2 _ q2 => ?_)
  rotate_left
  · rcases q2.2 with ⟨_, _, _, _, e⟩ | ⟨_, e⟩ <;> cases e
  obtain ⟨h2e, q2⟩ := q2
  have h2f := h2e.symm
  subst h2f
  rcases q2 with ⟨jv, hxv, hjv, rfl, q2⟩ | ⟨hxv, q2⟩
  · cases q2
    refine se_if_eq (pc := 5) (tgt := 32) dR_swap_5 (by decide) (fun q1 => absurd q1 (by decide)) (fun q1 => ?_)
    refine se_aload_n (pc := 8) rfl dR_swap_8 ?_
    refine se_iload_n (pc := 9) rfl dR_swap_9 ?_
    refine se_invV (pc := 10) (as := [.int w]) (st := []) (vok sc) kR_isVehicle dR_swap_10 ⟨wd_674, wd_676, sl_11, wd_3⟩ rfl hO rfl (Nat.le_of_ble_eq_true rfl) (Nat.le_of_ble_eq_true rfl) (x_R_isVehicle (by omega) hR hI) (C2 := 0) (S2 := 0) (by omega) (by omega) (fun v10 h10 _ q10 => ?_) (fun x hx => absurd hx List.not_mem_nil) (fun v10 h10 _ q10 => ?_)
    rotate_left
    · rcases q10.2 with ⟨_, _, _, _, e⟩ | ⟨_, e⟩ <;> cases e
    obtain ⟨h10e, q10⟩ := q10
    have h10f := h10e.symm
    subst h10f
    rcases q10 with ⟨jw, hxw, hjw, rfl, q10⟩ | ⟨hxw, q10⟩
    · cases q10
      refine se_if_eq (pc := 13) (tgt := 32) dR_swap_13 (by decide) (fun q2 => absurd q2 (by decide)) (fun q2 => ?_)
      refine se_iload_n (pc := 16) rfl dR_swap_16 ?_
      refine se_iload_n (pc := 17) rfl dR_swap_17 ?_
      refine se_icmp_eq (pc := 18) (tgt := 32) dR_swap_18 (by decide) (fun q3 => ?_) (fun q3 => ?_)
      · refine se_iconst (pc := 32) 0 (by decide) dR_swap_32 ?_
        refine se_istore (pc := 33) dR_swap_33 (by decide) [some (.ref 41), some (.int (nI jv)), some (.int (nI jw)), some (.int t9), some (.int 0), none] rfl ?_
        refine se_aload_n (pc := 35) rfl dR_swap_35 ?_
        refine se_iload (pc := 36) rfl dR_swap_36 ?_
        refine se_iload (pc := 38) rfl dR_swap_38 ?_
        refine se_if_eq (pc := 40) (tgt := 72) dR_swap_40 (by decide) (fun q4 => ?_) (fun q4 => absurd q4 (by decide))
        refine se_iconst (pc := 72) 0 (by decide) dR_swap_72 ?_
        refine se_iconst (pc := 73) 1 (by decide) dR_swap_73 ?_
        refine se_invV (pc := 74) (as := [.int 0, .int 0, .int 1]) (st := []) (vok sc) kR_goes dR_swap_74 ⟨wd_655, wd_657, sl_10, wd_3⟩ rfl hO rfl (Nat.le_of_ble_eq_true rfl) (Nat.le_of_ble_eq_true rfl) (g_goes (r := 0) 1 hR (by decide) (by decide)) (C2 := 0) (S2 := 0) (by omega) (by omega) (fun v74 h74 _ q74 => ?_) (fun x hx => absurd hx List.not_mem_nil) (fun v74 h74 _ q74 => ?_)
        rotate_left
        · cases q74.2.2
        obtain ⟨hR9, hf9, q74⟩ := q74
        cases q74
        have hO9 := hR9.1
        rw [hI.1, hI.2.2.1] at hO9
        refine se_if_ne (pc := 77) (tgt := 82) dR_swap_77 (by decide) (fun q5 => absurd q5 (by decide)) (fun q5 => ?_)
        refine se_iconst (pc := 80) 0 (by decide) dR_swap_80 ?_
        exact se_iret (pc := 81) dR_swap_81 rfl (rPi_no 0 (by clear hR hO hR9 hO9 hf9; (first | (simp_all [sp_swap]; done) | (cases hq9 : st_x 10 t9 <;> simp_all [sp_swap]))) hR9 hf9)
      · refine se_iload_n (pc := 21) rfl dR_swap_21 ?_
        refine se_invS (pc := 22) (as := [.int t9]) (st := []) (vok sc) kR_isThing dR_swap_22 ⟨wd_740, wd_741, wd_3⟩ rfl (Nat.le_of_ble_eq_true rfl) (Nat.le_of_ble_eq_true rfl) (x_R_isThing (by omega)) (C2 := 0) (S2 := 0) (by omega) (by omega) (fun v22 h22 _ q22 => ?_) (fun x hx => absurd hx List.not_mem_nil) (fun v22 h22 _ q22 => ?_)
        rotate_left
        · rcases q22.2 with ⟨_, _, _, _, e⟩ | ⟨_, e⟩ <;> cases e
        obtain ⟨h22e, q22⟩ := q22
        have h22f := h22e.symm
        subst h22f
        rcases q22 with ⟨jt9, hxt9, hjt9, rfl, q22⟩ | ⟨hxt9, q22⟩
        · cases q22
          refine se_if_eq (pc := 25) (tgt := 32) dR_swap_25 (by decide) (fun q6 => absurd q6 (by decide)) (fun q6 => ?_)
          refine se_iconst (pc := 28) 1 (by decide) dR_swap_28 ?_
          refine se_goto (pc := 29) (tgt := 33) dR_swap_29 (by decide) ?_
          refine se_istore (pc := 33) dR_swap_33 (by decide) [some (.ref 41), some (.int (nI jv)), some (.int (nI jw)), some (.int (nI jt9)), some (.int 1), none] rfl ?_
          refine se_aload_n (pc := 35) rfl dR_swap_35 ?_
          refine se_iload (pc := 36) rfl dR_swap_36 ?_
          refine se_iload (pc := 38) rfl dR_swap_38 ?_
          refine se_if_eq (pc := 40) (tgt := 72) dR_swap_40 (by decide) (fun q7 => absurd q7 (by decide)) (fun q7 => ?_)
          refine se_aload_n (pc := 43) rfl dR_swap_43 ?_
          refine se_getf (pc := 44) clR 19 dR_swap_44 wd_572 rfl (by decide) hO rfl ?_
          refine se_bipush (pc := 47) 10 (by decide) dR_swap_47 ?_
          refine se_iload_n (pc := 49) rfl dR_swap_49 ?_
          refine se_imul (pc := 50) dR_swap_50 ?_
          refine se_iload_n (pc := 51) rfl dR_swap_51 ?_
          refine se_iadd (pc := 52) dR_swap_52 ?_
          rw [nx10]
          refine se_ialdN (pc := 53) 0 dR_swap_53 rfl hR.2.2.2.2.2.2.2.2.2.2.2.2.2.2.2.2.2.1 (by omega) (by decide) ?_
          rw [rf_l_at (by omega)]
          refine se_aload_n (pc := 54) rfl dR_swap_54 ?_
          refine se_getf (pc := 55) clR 19 dR_swap_55 wd_572 rfl (by decide) hO rfl ?_
          refine se_bipush (pc := 58) 10 (by decide) dR_swap_58 ?_
          refine se_iload_n (pc := 60) rfl dR_swap_60 ?_
          refine se_imul (pc := 61) dR_swap_61 ?_
          refine se_iload_n (pc := 62) rfl dR_swap_62 ?_
          refine se_iadd (pc := 63) dR_swap_63 ?_
          rw [nx10]
          refine se_ialdN (pc := 64) 0 dR_swap_64 rfl hR.2.2.2.2.2.2.2.2.2.2.2.2.2.2.2.2.2.1 (by omega) (by decide) ?_
          rw [rf_l_at (by omega)]
          refine se_icmp_eq (pc := 65) (tgt := 72) dR_swap_65 (by decide) (fun q8 => ?_) (fun q8 => ?_)
          · refine se_iconst (pc := 72) 0 (by decide) dR_swap_72 ?_
            refine se_iconst (pc := 73) 1 (by decide) dR_swap_73 ?_
            refine se_invV (pc := 74) (as := [.int 1, .int 0, .int 1]) (st := []) (vok sc) kR_goes dR_swap_74 ⟨wd_655, wd_657, sl_10, wd_3⟩ rfl hO rfl (Nat.le_of_ble_eq_true rfl) (Nat.le_of_ble_eq_true rfl) (g_goes (r := 0) 2 hR (by decide) (by decide)) (C2 := 0) (S2 := 0) (by omega) (by omega) (fun v74 h74 _ q74 => ?_) (fun x hx => absurd hx List.not_mem_nil) (fun v74 h74 _ q74 => ?_)
            rotate_left
            · cases q74.2.2
            obtain ⟨hR9, hf9, q74⟩ := q74
            cases q74
            have hO9 := hR9.1
            rw [hI.1, hI.2.2.1] at hO9
            refine se_if_ne (pc := 77) (tgt := 82) dR_swap_77 (by decide) (fun q9 => absurd q9 (by decide)) (fun q9 => ?_)
            refine se_iconst (pc := 80) 0 (by decide) dR_swap_80 ?_
            exact se_iret (pc := 81) dR_swap_81 rfl (rPi_no 1 (by clear hR hO hR9 hO9 hf9; (first | (simp_all [sp_swap]; done) | (cases hq9 : st_x 10 t9 <;> simp_all [sp_swap]))) hR9 hf9)
          · refine se_iconst (pc := 68) 1 (by decide) dR_swap_68 ?_
            refine se_goto (pc := 69) (tgt := 73) dR_swap_69 (by decide) ?_
            refine se_iconst (pc := 73) 1 (by decide) dR_swap_73 ?_
            refine se_invV (pc := 74) (as := [.int 1, .int 1, .int 1]) (st := []) (vok sc) kR_goes dR_swap_74 ⟨wd_655, wd_657, sl_10, wd_3⟩ rfl hO rfl (Nat.le_of_ble_eq_true rfl) (Nat.le_of_ble_eq_true rfl) (g_goes (r := 1) 0 hR (by decide) (by decide)) (C2 := 0) (S2 := 0) (by omega) (by omega) (fun v74 h74 _ q74 => ?_) (fun x hx => absurd hx List.not_mem_nil) (fun v74 h74 _ q74 => ?_)
            rotate_left
            · cases q74.2.2
            obtain ⟨hR9, hf9, q74⟩ := q74
            cases q74
            have hO9 := hR9.1
            rw [hI.1, hI.2.2.1] at hO9
            refine se_if_ne (pc := 77) (tgt := 82) dR_swap_77 (by decide) (fun q10 => ?_) (fun q10 => absurd q10 (by decide))
            refine se_aload_n (pc := 82) rfl dR_swap_82 ?_
            refine se_getf (pc := 83) clR 19 dR_swap_83 wd_572 rfl (by decide) hO9 rfl ?_
            refine se_bipush (pc := 86) 10 (by decide) dR_swap_86 ?_
            refine se_iload_n (pc := 88) rfl dR_swap_88 ?_
            refine se_imul (pc := 89) dR_swap_89 ?_
            refine se_iload_n (pc := 90) rfl dR_swap_90 ?_
            refine se_iadd (pc := 91) dR_swap_91 ?_
            rw [nx10]
            refine se_ialdN (pc := 92) 0 dR_swap_92 rfl hR9.2.2.2.2.2.2.2.2.2.2.2.2.2.2.2.2.2.1 (by omega) (by decide) ?_
            rw [rf_l_at (by omega)]
            refine se_istore (pc := 93) dR_swap_93 (by decide) [some (.ref 41), some (.int (nI jv)), some (.int (nI jw)), some (.int (nI jt9)), some (.int 1), some (.int (S 6 jv jt9))] rfl ?_
            refine se_aload_n (pc := 95) rfl dR_swap_95 ?_
            refine se_getf (pc := 96) clR 19 dR_swap_96 wd_572 rfl (by decide) hO9 rfl ?_
            refine se_bipush (pc := 99) 10 (by decide) dR_swap_99 ?_
            refine se_iload_n (pc := 101) rfl dR_swap_101 ?_
            refine se_imul (pc := 102) dR_swap_102 ?_
            refine se_iload_n (pc := 103) rfl dR_swap_103 ?_
            refine se_iadd (pc := 104) dR_swap_104 ?_
            rw [nx10]
            refine se_aload_n (pc := 105) rfl dR_swap_105 ?_
            refine se_getf (pc := 106) clR 19 dR_swap_106 wd_572 rfl (by decide) hO9 rfl ?_
            refine se_bipush (pc := 109) 10 (by decide) dR_swap_109 ?_
            refine se_iload_n (pc := 111) rfl dR_swap_111 ?_
            refine se_imul (pc := 112) dR_swap_112 ?_
            refine se_iload_n (pc := 113) rfl dR_swap_113 ?_
            refine se_iadd (pc := 114) dR_swap_114 ?_
            rw [nx10]
            refine se_ialdN (pc := 115) 0 dR_swap_115 rfl hR9.2.2.2.2.2.2.2.2.2.2.2.2.2.2.2.2.2.1 (by omega) (by decide) ?_
            rw [rf_l_at (by omega)]
            refine se_iastN (pc := 116) 0 dR_swap_116 rfl hR9.2.2.2.2.2.2.2.2.2.2.2.2.2.2.2.2.2.1 (by omega) (by decide) ?_
            refine se_aload_n (pc := 117) rfl dR_swap_117 ?_
            refine se_getf (pc := 118) clR 19 dR_swap_118 wd_572 rfl (by decide) (st_ne hO9 (by omega)) rfl ?_
            refine se_bipush (pc := 121) 10 (by decide) dR_swap_121 ?_
            refine se_iload_n (pc := 123) rfl dR_swap_123 ?_
            refine se_imul (pc := 124) dR_swap_124 ?_
            refine se_iload_n (pc := 125) rfl dR_swap_125 ?_
            refine se_iadd (pc := 126) dR_swap_126 ?_
            rw [nx10]
            refine se_iload (pc := 127) rfl dR_swap_127 ?_
            refine se_iastN (pc := 129) 0 dR_swap_129 rfl (st_eq hR9.2.2.2.2.2.2.2.2.2.2.2.2.2.2.2.2.2.1) (by omega) (by decide) ?_
            refine se_aload_n (pc := 130) rfl dR_swap_130 ?_
            refine se_getf (pc := 131) clR 19 dR_swap_131 wd_572 rfl (by decide) (st_ne (st_ne hO9 (by omega)) (by omega)) rfl ?_
            refine se_bipush (pc := 134) 10 (by decide) dR_swap_134 ?_
            refine se_iload_n (pc := 136) rfl dR_swap_136 ?_
            refine se_imul (pc := 137) dR_swap_137 ?_
            refine se_iload_n (pc := 138) rfl dR_swap_138 ?_
            refine se_iadd (pc := 139) dR_swap_139 ?_
            rw [nx10]
            refine se_ialdN (pc := 140) 0 dR_swap_140 rfl (st_eq (st_eq hR9.2.2.2.2.2.2.2.2.2.2.2.2.2.2.2.2.2.1)) (by omega) (by decide) ?_
            exact se_iret (pc := 141) dR_swap_141 rfl (rPi_ok (S' := st_up (st_up S 6 jv jt9 (S 6 jw jt9)) 6 jw jt9 (S 6 jv jt9)) (by clear hR hO hR9 hO9 hf9; have hvw9 : jv ≠ jw := fun e => absurd (congrArg nI e) (by assumption); have hne9 : ¬ 10 * jv + jt9 = 10 * jw + jt9 := (by omega); simp_all [sp_swap, upd]) ⟨rf_O (st_ne (st_ne hO9 (by omega)) (by omega)) (by simp (decide := true) only [up_ne, up_v, ← hI.1, ← hI.2.2.1]) (by simp (decide := true) only [up_ne, up_v, ← hI.1, ← hI.2.2.1]) (by simp (decide := true) only [up_ne, up_v, ← hI.1, ← hI.2.2.1]), rf_R (st_ne (st_ne hR9.2.1 (by omega)) (by omega)) (by simp (decide := true) only [rf_l_ne, rf_v_ne, rf_an_ne, rf_at_ne, rf_by_ne, rf_ky_ne, up_ne, up_eq, up_v, rf_l_up hjt9]), rf_R (st_ne (st_ne hR9.2.2.1 (by omega)) (by omega)) (by simp (decide := true) only [rf_l_ne, rf_v_ne, rf_an_ne, rf_at_ne, rf_by_ne, rf_ky_ne, up_ne, up_eq, up_v, rf_l_up hjt9]), rf_R (st_ne (st_ne hR9.2.2.2.1 (by omega)) (by omega)) (by simp (decide := true) only [rf_l_ne, rf_v_ne, rf_an_ne, rf_at_ne, rf_by_ne, rf_ky_ne, up_ne, up_eq, up_v, rf_l_up hjt9]), rf_R (st_ne (st_ne hR9.2.2.2.2.1 (by omega)) (by omega)) (by simp (decide := true) only [rf_l_ne, rf_v_ne, rf_an_ne, rf_at_ne, rf_by_ne, rf_ky_ne, up_ne, up_eq, up_v, rf_l_up hjt9]), rf_R (st_ne (st_ne hR9.2.2.2.2.2.1 (by omega)) (by omega)) (by simp (decide := true) only [rf_l_ne, rf_v_ne, rf_an_ne, rf_at_ne, rf_by_ne, rf_ky_ne, up_ne, up_eq, up_v, rf_l_up hjt9]), rf_R (st_ne (st_ne hR9.2.2.2.2.2.2.1 (by omega)) (by omega)) (by simp (decide := true) only [rf_l_ne, rf_v_ne, rf_an_ne, rf_at_ne, rf_by_ne, rf_ky_ne, up_ne, up_eq, up_v, rf_l_up hjt9]), rf_R (st_ne (st_ne hR9.2.2.2.2.2.2.2.1 (by omega)) (by omega)) (by simp (decide := true) only [rf_l_ne, rf_v_ne, rf_an_ne, rf_at_ne, rf_by_ne, rf_ky_ne, up_ne, up_eq, up_v, rf_l_up hjt9]), rf_R (st_ne (st_ne hR9.2.2.2.2.2.2.2.2.1 (by omega)) (by omega)) (by simp (decide := true) only [rf_l_ne, rf_v_ne, rf_an_ne, rf_at_ne, rf_by_ne, rf_ky_ne, up_ne, up_eq, up_v, rf_l_up hjt9]), rf_R (st_ne (st_ne hR9.2.2.2.2.2.2.2.2.2.1 (by omega)) (by omega)) (by simp (decide := true) only [rf_l_ne, rf_v_ne, rf_an_ne, rf_at_ne, rf_by_ne, rf_ky_ne, up_ne, up_eq, up_v, rf_l_up hjt9]), rf_R (st_ne (st_ne hR9.2.2.2.2.2.2.2.2.2.2.1 (by omega)) (by omega)) (by simp (decide := true) only [rf_l_ne, rf_v_ne, rf_an_ne, rf_at_ne, rf_by_ne, rf_ky_ne, up_ne, up_eq, up_v, rf_l_up hjt9]), rf_R (st_ne (st_ne hR9.2.2.2.2.2.2.2.2.2.2.2.1 (by omega)) (by omega)) (by simp (decide := true) only [rf_l_ne, rf_v_ne, rf_an_ne, rf_at_ne, rf_by_ne, rf_ky_ne, up_ne, up_eq, up_v, rf_l_up hjt9]), rf_R (st_ne (st_ne hR9.2.2.2.2.2.2.2.2.2.2.2.2.1 (by omega)) (by omega)) (by simp (decide := true) only [rf_l_ne, rf_v_ne, rf_an_ne, rf_at_ne, rf_by_ne, rf_ky_ne, up_ne, up_eq, up_v, rf_l_up hjt9]), rf_R (st_ne (st_ne hR9.2.2.2.2.2.2.2.2.2.2.2.2.2.1 (by omega)) (by omega)) (by simp (decide := true) only [rf_l_ne, rf_v_ne, rf_an_ne, rf_at_ne, rf_by_ne, rf_ky_ne, up_ne, up_eq, up_v, rf_l_up hjt9]), rf_R (st_ne (st_ne hR9.2.2.2.2.2.2.2.2.2.2.2.2.2.2.1 (by omega)) (by omega)) (by simp (decide := true) only [rf_l_ne, rf_v_ne, rf_an_ne, rf_at_ne, rf_by_ne, rf_ky_ne, up_ne, up_eq, up_v, rf_l_up hjt9]), rf_R (st_ne (st_ne hR9.2.2.2.2.2.2.2.2.2.2.2.2.2.2.2.1 (by omega)) (by omega)) (by simp (decide := true) only [rf_l_ne, rf_v_ne, rf_an_ne, rf_at_ne, rf_by_ne, rf_ky_ne, up_ne, up_eq, up_v, rf_l_up hjt9]), rf_R (st_ne (st_ne hR9.2.2.2.2.2.2.2.2.2.2.2.2.2.2.2.2.1 (by omega)) (by omega)) (by simp (decide := true) only [rf_l_ne, rf_v_ne, rf_an_ne, rf_at_ne, rf_by_ne, rf_ky_ne, up_ne, up_eq, up_v, rf_l_up hjt9]), rf_R (st_eq (st_eq hR9.2.2.2.2.2.2.2.2.2.2.2.2.2.2.2.2.2.1)) (by simp (decide := true) only [rf_l_ne, rf_v_ne, rf_an_ne, rf_at_ne, rf_by_ne, rf_ky_ne, up_ne, up_eq, up_v, rf_l_up hjt9]), rf_R (st_ne (st_ne hR9.2.2.2.2.2.2.2.2.2.2.2.2.2.2.2.2.2.2.1 (by omega)) (by omega)) (by simp (decide := true) only [rf_l_ne, rf_v_ne, rf_an_ne, rf_at_ne, rf_by_ne, rf_ky_ne, up_ne, up_eq, up_v, rf_l_up hjt9]), rf_R (st_ne (st_ne hR9.2.2.2.2.2.2.2.2.2.2.2.2.2.2.2.2.2.2.2.1 (by omega)) (by omega)) (by simp (decide := true) only [rf_l_ne, rf_v_ne, rf_an_ne, rf_at_ne, rf_by_ne, rf_ky_ne, up_ne, up_eq, up_v, rf_l_up hjt9]), rf_R (st_ne (st_ne hR9.2.2.2.2.2.2.2.2.2.2.2.2.2.2.2.2.2.2.2.2.1 (by omega)) (by omega)) (by simp (decide := true) only [rf_l_ne, rf_v_ne, rf_an_ne, rf_at_ne, rf_by_ne, rf_ky_ne, up_ne, up_eq, up_v, rf_l_up hjt9]), rf_R (st_ne (st_ne hR9.2.2.2.2.2.2.2.2.2.2.2.2.2.2.2.2.2.2.2.2.2.1 (by omega)) (by omega)) (by simp (decide := true) only [rf_l_ne, rf_v_ne, rf_an_ne, rf_at_ne, rf_by_ne, rf_ky_ne, up_ne, up_eq, up_v, rf_l_up hjt9]), rf_R (st_ne (st_ne hR9.2.2.2.2.2.2.2.2.2.2.2.2.2.2.2.2.2.2.2.2.2.2.1 (by omega)) (by omega)) (by simp (decide := true) only [rf_l_ne, rf_v_ne, rf_an_ne, rf_at_ne, rf_by_ne, rf_ky_ne, up_ne, up_eq, up_v, rf_l_up hjt9]), rf_R (st_ne (st_ne hR9.2.2.2.2.2.2.2.2.2.2.2.2.2.2.2.2.2.2.2.2.2.2.2.1 (by omega)) (by omega)) (by simp (decide := true) only [rf_l_ne, rf_v_ne, rf_an_ne, rf_at_ne, rf_by_ne, rf_ky_ne, up_ne, up_eq, up_v, rf_l_up hjt9]), rf_R (st_ne (st_ne hR9.2.2.2.2.2.2.2.2.2.2.2.2.2.2.2.2.2.2.2.2.2.2.2.2.1 (by omega)) (by omega)) (by simp (decide := true) only [rf_l_ne, rf_v_ne, rf_an_ne, rf_at_ne, rf_by_ne, rf_ky_ne, up_ne, up_eq, up_v, rf_l_up hjt9]), rf_R (st_ne (st_ne hR9.2.2.2.2.2.2.2.2.2.2.2.2.2.2.2.2.2.2.2.2.2.2.2.2.2 (by omega)) (by omega)) (by simp (decide := true) only [rf_l_ne, rf_v_ne, rf_an_ne, rf_at_ne, rf_by_ne, rf_ky_ne, up_ne, up_eq, up_v, rf_l_up hjt9])⟩ (fR_tr (fR_tr hf9 (fR_set (by decide) (by decide))) (fR_set (by decide) (by decide))))
        · cases q22
          refine se_if_eq (pc := 25) (tgt := 32) dR_swap_25 (by decide) (fun q11 => ?_) (fun q11 => absurd q11 (by decide))
          refine se_iconst (pc := 32) 0 (by decide) dR_swap_32 ?_
          refine se_istore (pc := 33) dR_swap_33 (by decide) [some (.ref 41), some (.int (nI jv)), some (.int (nI jw)), some (.int t9), some (.int 0), none] rfl ?_
          refine se_aload_n (pc := 35) rfl dR_swap_35 ?_
          refine se_iload (pc := 36) rfl dR_swap_36 ?_
          refine se_iload (pc := 38) rfl dR_swap_38 ?_
          refine se_if_eq (pc := 40) (tgt := 72) dR_swap_40 (by decide) (fun q12 => ?_) (fun q12 => absurd q12 (by decide))
          refine se_iconst (pc := 72) 0 (by decide) dR_swap_72 ?_
          refine se_iconst (pc := 73) 1 (by decide) dR_swap_73 ?_
          refine se_invV (pc := 74) (as := [.int 0, .int 0, .int 1]) (st := []) (vok sc) kR_goes dR_swap_74 ⟨wd_655, wd_657, sl_10, wd_3⟩ rfl hO rfl (Nat.le_of_ble_eq_true rfl) (Nat.le_of_ble_eq_true rfl) (g_goes (r := 0) 1 hR (by decide) (by decide)) (C2 := 0) (S2 := 0) (by omega) (by omega) (fun v74 h74 _ q74 => ?_) (fun x hx => absurd hx List.not_mem_nil) (fun v74 h74 _ q74 => ?_)
          rotate_left
          · cases q74.2.2
          obtain ⟨hR9, hf9, q74⟩ := q74
          cases q74
          have hO9 := hR9.1
          rw [hI.1, hI.2.2.1] at hO9
          refine se_if_ne (pc := 77) (tgt := 82) dR_swap_77 (by decide) (fun q13 => absurd q13 (by decide)) (fun q13 => ?_)
          refine se_iconst (pc := 80) 0 (by decide) dR_swap_80 ?_
          exact se_iret (pc := 81) dR_swap_81 rfl (rPi_no 0 (by clear hR hO hR9 hO9 hf9; (first | (simp_all [sp_swap]; done) | (cases hq9 : st_x 10 t9 <;> simp_all [sp_swap]))) hR9 hf9)
    · cases q10
      refine se_if_eq (pc := 13) (tgt := 32) dR_swap_13 (by decide) (fun q14 => ?_) (fun q14 => absurd q14 (by decide))
      refine se_iconst (pc := 32) 0 (by decide) dR_swap_32 ?_
      refine se_istore (pc := 33) dR_swap_33 (by decide) [some (.ref 41), some (.int (nI jv)), some (.int w), some (.int t9), some (.int 0), none] rfl ?_
      refine se_aload_n (pc := 35) rfl dR_swap_35 ?_
      refine se_iload (pc := 36) rfl dR_swap_36 ?_
      refine se_iload (pc := 38) rfl dR_swap_38 ?_
      refine se_if_eq (pc := 40) (tgt := 72) dR_swap_40 (by decide) (fun q15 => ?_) (fun q15 => absurd q15 (by decide))
      refine se_iconst (pc := 72) 0 (by decide) dR_swap_72 ?_
      refine se_iconst (pc := 73) 1 (by decide) dR_swap_73 ?_
      refine se_invV (pc := 74) (as := [.int 0, .int 0, .int 1]) (st := []) (vok sc) kR_goes dR_swap_74 ⟨wd_655, wd_657, sl_10, wd_3⟩ rfl hO rfl (Nat.le_of_ble_eq_true rfl) (Nat.le_of_ble_eq_true rfl) (g_goes (r := 0) 1 hR (by decide) (by decide)) (C2 := 0) (S2 := 0) (by omega) (by omega) (fun v74 h74 _ q74 => ?_) (fun x hx => absurd hx List.not_mem_nil) (fun v74 h74 _ q74 => ?_)
      rotate_left
      · cases q74.2.2
      obtain ⟨hR9, hf9, q74⟩ := q74
      cases q74
      have hO9 := hR9.1
      rw [hI.1, hI.2.2.1] at hO9
      refine se_if_ne (pc := 77) (tgt := 82) dR_swap_77 (by decide) (fun q16 => absurd q16 (by decide)) (fun q16 => ?_)
      refine se_iconst (pc := 80) 0 (by decide) dR_swap_80 ?_
      exact se_iret (pc := 81) dR_swap_81 rfl (rPi_no 0 (by clear hR hO hR9 hO9 hf9; (first | (simp_all [sp_swap]; done) | (cases hq9 : st_x 10 t9 <;> simp_all [sp_swap]))) hR9 hf9)
  · cases q2
    refine se_if_eq (pc := 5) (tgt := 32) dR_swap_5 (by decide) (fun q17 => ?_) (fun q17 => absurd q17 (by decide))
    refine se_iconst (pc := 32) 0 (by decide) dR_swap_32 ?_
    refine se_istore (pc := 33) dR_swap_33 (by decide) [some (.ref 41), some (.int v), some (.int w), some (.int t9), some (.int 0), none] rfl ?_
    refine se_aload_n (pc := 35) rfl dR_swap_35 ?_
    refine se_iload (pc := 36) rfl dR_swap_36 ?_
    refine se_iload (pc := 38) rfl dR_swap_38 ?_
    refine se_if_eq (pc := 40) (tgt := 72) dR_swap_40 (by decide) (fun q18 => ?_) (fun q18 => absurd q18 (by decide))
    refine se_iconst (pc := 72) 0 (by decide) dR_swap_72 ?_
    refine se_iconst (pc := 73) 1 (by decide) dR_swap_73 ?_
    refine se_invV (pc := 74) (as := [.int 0, .int 0, .int 1]) (st := []) (vok sc) kR_goes dR_swap_74 ⟨wd_655, wd_657, sl_10, wd_3⟩ rfl hO rfl (Nat.le_of_ble_eq_true rfl) (Nat.le_of_ble_eq_true rfl) (g_goes (r := 0) 1 hR (by decide) (by decide)) (C2 := 0) (S2 := 0) (by omega) (by omega) (fun v74 h74 _ q74 => ?_) (fun x hx => absurd hx List.not_mem_nil) (fun v74 h74 _ q74 => ?_)
    rotate_left
    · cases q74.2.2
    obtain ⟨hR9, hf9, q74⟩ := q74
    cases q74
    have hO9 := hR9.1
    rw [hI.1, hI.2.2.1] at hO9
    refine se_if_ne (pc := 77) (tgt := 82) dR_swap_77 (by decide) (fun q19 => absurd q19 (by decide)) (fun q19 => ?_)
    refine se_iconst (pc := 80) 0 (by decide) dR_swap_80 ?_
    exact se_iret (pc := 81) dR_swap_81 rfl (rPi_no 0 (by clear hR hO hR9 hO9 hf9; (first | (simp_all [sp_swap]; done) | (cases hq9 : st_x 10 t9 <;> simp_all [sp_swap]))) hR9 hf9)
set_option maxHeartbeats 1000000 in
set_option maxRecDepth 100000 in
theorem r_vehicle {k s : Int32} (hd : 3 ≤ d) (hR : is_R S t h) (hI : st_I S) (hQ : st_Q N S) (hN : N < 2 ^ 31) (hF : st_F S) (hs : s = 0 ∨ s = 1) : se_W (vG sc) l d mR_vehicle 0 (se_ent 3 [.ref 41, .int k, .int s]) [] h 0 0 (rPi h (sp_vehicle S k s)) := by
  obtain ⟨d, rfl⟩ : ∃ e, d = e + 1 := ⟨d - 1, by omega⟩
  show se_W (vG sc) l (d + 1) mR_vehicle 0 [some (.ref 41), some (.int k), some (.int s)] [] h 0 0 _
  have hn20 := hI.2.1
  have hd100 := hI.2.2.2.1
  have hO := hR.1
  rw [hI.1, hI.2.2.1] at hO
  refine se_aload_n (pc := 0) rfl dR_vehicle_0 ?_
  refine se_iload_n (pc := 1) rfl dR_vehicle_1 ?_
  refine se_invS (pc := 2) (as := [.int k]) (st := [.ref 41]) (vok sc) kR_isKind dR_vehicle_2 ⟨wd_649, wd_650, wd_3⟩ rfl (Nat.le_of_ble_eq_true rfl) (Nat.le_of_ble_eq_true rfl) (x_R_isKind (by omega)) (C2 := 0) (S2 := 0) (by omega) (by omega) (fun v2 h2 _ q2 => ?_) (fun x hx => absurd hx List.not_mem_nil) (fun v2 h2 _ q2 => ?_)
  rotate_left
  · rcases q2.2 with ⟨_, _, _, _, e⟩ | ⟨_, e⟩ <;> cases e
  obtain ⟨h2e, q2⟩ := q2
  have h2f := h2e.symm
  subst h2f
  rcases q2 with ⟨jk, hxk, hjk, rfl, q2⟩ | ⟨hxk, q2⟩
  · cases q2
    refine se_aload_n (pc := 5) rfl dR_vehicle_5 ?_
    refine se_getf (pc := 6) clR 8 dR_vehicle_6 wd_561 rfl (by decide) hO rfl ?_
    refine se_bipush (pc := 9) 20 (by decide) dR_vehicle_9 ?_
    refine se_icmp_ge (pc := 11) (tgt := 18) dR_vehicle_11 (by decide) (fun q1 => ?_) (fun q1 => ?_)
    · refine se_iconst (pc := 18) 0 (by decide) dR_vehicle_18 ?_
      refine se_iconst (pc := 19) 1 (by decide) dR_vehicle_19 ?_
      refine se_invV (pc := 20) (as := [.int 1, .int 0, .int 1]) (st := []) (vok sc) kR_goes dR_vehicle_20 ⟨wd_655, wd_657, sl_10, wd_3⟩ rfl hO rfl (Nat.le_of_ble_eq_true rfl) (Nat.le_of_ble_eq_true rfl) (g_goes (r := 0) 2 hR (by decide) (by decide)) (C2 := 0) (S2 := 0) (by omega) (by omega) (fun v20 h20 _ q20 => ?_) (fun x hx => absurd hx List.not_mem_nil) (fun v20 h20 _ q20 => ?_)
      rotate_left
      · cases q20.2.2
      obtain ⟨hR9, hf9, q20⟩ := q20
      cases q20
      have hO9 := hR9.1
      rw [hI.1, hI.2.2.1] at hO9
      refine se_if_ne (pc := 23) (tgt := 28) dR_vehicle_23 (by decide) (fun q2 => absurd q2 (by decide)) (fun q2 => ?_)
      refine se_iconst (pc := 26) 0 (by decide) dR_vehicle_26 ?_
      exact se_iret (pc := 27) dR_vehicle_27 rfl (rPi_no 1 (by clear hR hO hR9 hO9 hf9; simp_all [sp_vehicle, Int32.add_sub_cancel, Int32.not_lt, Int32.not_le, st_nV]) hR9 hf9)
    · refine se_iconst (pc := 14) 1 (by decide) dR_vehicle_14 ?_
      refine se_goto (pc := 15) (tgt := 19) dR_vehicle_15 (by decide) ?_
      refine se_iconst (pc := 19) 1 (by decide) dR_vehicle_19 ?_
      refine se_invV (pc := 20) (as := [.int 1, .int 1, .int 1]) (st := []) (vok sc) kR_goes dR_vehicle_20 ⟨wd_655, wd_657, sl_10, wd_3⟩ rfl hO rfl (Nat.le_of_ble_eq_true rfl) (Nat.le_of_ble_eq_true rfl) (g_goes (r := 1) 0 hR (by decide) (by decide)) (C2 := 0) (S2 := 0) (by omega) (by omega) (fun v20 h20 _ q20 => ?_) (fun x hx => absurd hx List.not_mem_nil) (fun v20 h20 _ q20 => ?_)
      rotate_left
      · cases q20.2.2
      obtain ⟨hR9, hf9, q20⟩ := q20
      cases q20
      have hO9 := hR9.1
      rw [hI.1, hI.2.2.1] at hO9
      refine se_if_ne (pc := 23) (tgt := 28) dR_vehicle_23 (by decide) (fun q3 => ?_) (fun q3 => absurd q3 (by decide))
      have hnv9 : st_nv S < 20 := n_lt (M := 20) (by assumption) hn20 (by decide)
      have h209 : S 20 (st_nv S) 0 = -1 := congrFun (hF _ (Nat.le_refl _) 20 (by decide) (by decide)) 0
      refine se_aload_n (pc := 28) rfl dR_vehicle_28 ?_
      refine se_getf (pc := 29) clR 9 dR_vehicle_29 wd_562 rfl (by decide) hO9 rfl ?_
      refine se_aload_n (pc := 32) rfl dR_vehicle_32 ?_
      refine se_getf (pc := 33) clR 8 dR_vehicle_33 wd_561 rfl (by decide) hO9 rfl ?_
      refine se_iload_n (pc := 36) rfl dR_vehicle_36 ?_
      refine se_iastN (pc := 37) 0 dR_vehicle_37 rfl hR9.2.2.2.2.2.2.2.1 (by omega) (by decide) ?_
      refine se_aload_n (pc := 38) rfl dR_vehicle_38 ?_
      refine se_getf (pc := 39) clR 10 dR_vehicle_39 wd_563 rfl (by decide) (st_ne hO9 (by omega)) rfl ?_
      refine se_aload_n (pc := 42) rfl dR_vehicle_42 ?_
      refine se_getf (pc := 43) clR 8 dR_vehicle_43 wd_561 rfl (by decide) (st_ne hO9 (by omega)) rfl ?_
      refine se_iload_n (pc := 46) rfl dR_vehicle_46 ?_
      refine se_zastN (pc := 47) 1 dR_vehicle_47 rfl (st_ne hR9.2.2.2.2.2.2.2.2.1 (by omega)) (by omega) (by decide) (by first | decide | assumption) ?_
      refine se_aload_n (pc := 48) rfl dR_vehicle_48 ?_
      refine se_getf (pc := 49) clR 12 dR_vehicle_49 wd_565 rfl (by decide) (st_ne (st_ne hO9 (by omega)) (by omega)) rfl ?_
      refine se_aload_n (pc := 52) rfl dR_vehicle_52 ?_
      refine se_getf (pc := 53) clR 8 dR_vehicle_53 wd_561 rfl (by decide) (st_ne (st_ne hO9 (by omega)) (by omega)) rfl ?_
      refine se_aload_n (pc := 56) rfl dR_vehicle_56 ?_
      refine se_getf (pc := 57) clR 1 dR_vehicle_57 wd_554 rfl (by decide) (st_ne (st_ne hO9 (by omega)) (by omega)) rfl ?_
      refine se_iastN (pc := 60) 0 dR_vehicle_60 rfl (st_ne (st_ne hR9.2.2.2.2.2.2.2.2.2.2.1 (by omega)) (by omega)) (by omega) (by decide) ?_
      refine se_aload_n (pc := 61) rfl dR_vehicle_61 ?_
      refine se_getf (pc := 62) clR 18 dR_vehicle_62 wd_571 rfl (by decide) (st_ne (st_ne (st_ne hO9 (by omega)) (by omega)) (by omega)) rfl ?_
      refine se_aload_n (pc := 65) rfl dR_vehicle_65 ?_
      refine se_getf (pc := 66) clR 8 dR_vehicle_66 wd_561 rfl (by decide) (st_ne (st_ne (st_ne hO9 (by omega)) (by omega)) (by omega)) rfl ?_
      refine se_iconst (pc := 69) (-1) (by decide) dR_vehicle_69 ?_
      refine se_iastN (pc := 70) 0 dR_vehicle_70 rfl (st_ne (st_ne (st_ne hR9.2.2.2.2.2.2.2.2.2.2.2.2.2.2.2.2.1 (by omega)) (by omega)) (by omega)) (by omega) (by decide) ?_
      refine se_aload_n (pc := 71) rfl dR_vehicle_71 ?_
      refine se_dup (pc := 72) rfl dR_vehicle_72 ?_
      refine se_getf (pc := 73) clR 8 dR_vehicle_73 wd_561 rfl (by decide) (st_ne (st_ne (st_ne (st_ne hO9 (by omega)) (by omega)) (by omega)) (by omega)) rfl ?_
      refine se_iconst (pc := 76) 1 (by decide) dR_vehicle_76 ?_
      refine se_iadd (pc := 77) dR_vehicle_77 ?_
      refine se_putf (pc := 78) clR 8 dR_vehicle_78 wd_561 rfl (by decide) rfl (fun _ => ⟨rfl, rfl⟩) (st_ne (st_ne (st_ne (st_ne hO9 (by omega)) (by omega)) (by omega)) (by omega)) (Nat.le_of_ble_eq_true rfl) ?_
      refine se_aload_n (pc := 81) rfl dR_vehicle_81 ?_
      refine se_getf (pc := 82) clR 8 dR_vehicle_82 wd_561 rfl (by decide) (st_eq (st_ne (st_ne (st_ne (st_ne hO9 (by omega)) (by omega)) (by omega)) (by omega))) rfl ?_
      refine se_iconst (pc := 85) 1 (by decide) dR_vehicle_85 ?_
      refine se_isub (pc := 86) dR_vehicle_86 ?_
      exact se_iret (pc := 87) dR_vehicle_87 rfl (rPi_ok (S' := st_up (st_up (st_up (st_up S 11 (st_nv S) 0 (nI jk)) 12 (st_nv S) 0 s) 13 (st_nv S) 0 (S 26 0 0)) 24 0 0 (nI (st_nv S) + 1)) (by clear hR hO hR9 hO9 hf9; (have hnd9 := nI_lt (b := 20) (show st_nv S < 20 by assumption) (by decide)); rw [show nI 20 = (20 : Int32) from rfl] at hnd9; clear h209; simp_all [sp_vehicle, st_nV, Int32.add_sub_cancel]) ⟨rf_O (st_eq (st_ne (st_ne (st_ne (st_ne hO9 (by omega)) (by omega)) (by omega)) (by omega))) (by simp (decide := true) only [up_ne, up_v, ← hI.1, ← hI.2.2.1]) (by simp (decide := true) only [up_ne, up_v, ← hI.1, ← hI.2.2.1]) (by simp (decide := true) only [up_ne, up_v, ← hI.1, ← hI.2.2.1]), rf_R (st_ne (st_ne (st_ne (st_ne (st_ne hR9.2.1 (by omega)) (by omega)) (by omega)) (by omega)) (by omega)) (by simp (decide := true) only [rf_l_ne, rf_v_ne, rf_an_ne, rf_at_ne, rf_by_ne, rf_ky_ne, up_ne, up_eq, up_v, rf_v_up, rf_ky_nV h209 hn20]), rf_R (st_ne (st_ne (st_ne (st_ne (st_ne hR9.2.2.1 (by omega)) (by omega)) (by omega)) (by omega)) (by omega)) (by simp (decide := true) only [rf_l_ne, rf_v_ne, rf_an_ne, rf_at_ne, rf_by_ne, rf_ky_ne, up_ne, up_eq, up_v, rf_v_up, rf_ky_nV h209 hn20]), rf_R (st_ne (st_ne (st_ne (st_ne (st_ne hR9.2.2.2.1 (by omega)) (by omega)) (by omega)) (by omega)) (by omega)) (by simp (decide := true) only [rf_l_ne, rf_v_ne, rf_an_ne, rf_at_ne, rf_by_ne, rf_ky_ne, up_ne, up_eq, up_v, rf_v_up, rf_ky_nV h209 hn20]), rf_R (st_ne (st_ne (st_ne (st_ne (st_ne hR9.2.2.2.2.1 (by omega)) (by omega)) (by omega)) (by omega)) (by omega)) (by simp (decide := true) only [rf_l_ne, rf_v_ne, rf_an_ne, rf_at_ne, rf_by_ne, rf_ky_ne, up_ne, up_eq, up_v, rf_v_up, rf_ky_nV h209 hn20]), rf_R (st_ne (st_ne (st_ne (st_ne (st_ne hR9.2.2.2.2.2.1 (by omega)) (by omega)) (by omega)) (by omega)) (by omega)) (by simp (decide := true) only [rf_l_ne, rf_v_ne, rf_an_ne, rf_at_ne, rf_by_ne, rf_ky_ne, up_ne, up_eq, up_v, rf_v_up, rf_ky_nV h209 hn20]), rf_R (st_ne (st_ne (st_ne (st_ne (st_ne hR9.2.2.2.2.2.2.1 (by omega)) (by omega)) (by omega)) (by omega)) (by omega)) (by simp (decide := true) only [rf_l_ne, rf_v_ne, rf_an_ne, rf_at_ne, rf_by_ne, rf_ky_ne, up_ne, up_eq, up_v, rf_v_up, rf_ky_nV h209 hn20]), rf_R (st_ne (st_ne (st_ne (st_ne (st_eq hR9.2.2.2.2.2.2.2.1) (by omega)) (by omega)) (by omega)) (by omega)) (by simp (decide := true) only [rf_l_ne, rf_v_ne, rf_an_ne, rf_at_ne, rf_by_ne, rf_ky_ne, up_ne, up_eq, up_v, rf_v_up, rf_ky_nV h209 hn20]), rf_R (st_ne (st_ne (st_ne (st_eq (st_ne hR9.2.2.2.2.2.2.2.2.1 (by omega))) (by omega)) (by omega)) (by omega)) (by simp (decide := true) only [rf_l_ne, rf_v_ne, rf_an_ne, rf_at_ne, rf_by_ne, rf_ky_ne, up_ne, up_eq, up_v, rf_v_up, rf_ky_nV h209 hn20]), rf_R (st_ne (st_ne (st_ne (st_ne (st_ne hR9.2.2.2.2.2.2.2.2.2.1 (by omega)) (by omega)) (by omega)) (by omega)) (by omega)) (by simp (decide := true) only [rf_l_ne, rf_v_ne, rf_an_ne, rf_at_ne, rf_by_ne, rf_ky_ne, up_ne, up_eq, up_v, rf_v_up, rf_ky_nV h209 hn20]), rf_R (st_ne (st_ne (st_eq (st_ne (st_ne hR9.2.2.2.2.2.2.2.2.2.2.1 (by omega)) (by omega))) (by omega)) (by omega)) (by simp (decide := true) only [rf_l_ne, rf_v_ne, rf_an_ne, rf_at_ne, rf_by_ne, rf_ky_ne, up_ne, up_eq, up_v, rf_v_up, rf_ky_nV h209 hn20]), rf_R (st_ne (st_ne (st_ne (st_ne (st_ne hR9.2.2.2.2.2.2.2.2.2.2.2.1 (by omega)) (by omega)) (by omega)) (by omega)) (by omega)) (by simp (decide := true) only [rf_l_ne, rf_v_ne, rf_an_ne, rf_at_ne, rf_by_ne, rf_ky_ne, up_ne, up_eq, up_v, rf_v_up, rf_ky_nV h209 hn20]), rf_R (st_ne (st_ne (st_ne (st_ne (st_ne hR9.2.2.2.2.2.2.2.2.2.2.2.2.1 (by omega)) (by omega)) (by omega)) (by omega)) (by omega)) (by simp (decide := true) only [rf_l_ne, rf_v_ne, rf_an_ne, rf_at_ne, rf_by_ne, rf_ky_ne, up_ne, up_eq, up_v, rf_v_up, rf_ky_nV h209 hn20]), rf_R (st_ne (st_ne (st_ne (st_ne (st_ne hR9.2.2.2.2.2.2.2.2.2.2.2.2.2.1 (by omega)) (by omega)) (by omega)) (by omega)) (by omega)) (by simp (decide := true) only [rf_l_ne, rf_v_ne, rf_an_ne, rf_at_ne, rf_by_ne, rf_ky_ne, up_ne, up_eq, up_v, rf_v_up, rf_ky_nV h209 hn20]), rf_R (st_ne (st_ne (st_ne (st_ne (st_ne hR9.2.2.2.2.2.2.2.2.2.2.2.2.2.2.1 (by omega)) (by omega)) (by omega)) (by omega)) (by omega)) (by simp (decide := true) only [rf_l_ne, rf_v_ne, rf_an_ne, rf_at_ne, rf_by_ne, rf_ky_ne, up_ne, up_eq, up_v, rf_v_up, rf_ky_nV h209 hn20]), rf_R (st_ne (st_ne (st_ne (st_ne (st_ne hR9.2.2.2.2.2.2.2.2.2.2.2.2.2.2.2.1 (by omega)) (by omega)) (by omega)) (by omega)) (by omega)) (by simp (decide := true) only [rf_l_ne, rf_v_ne, rf_an_ne, rf_at_ne, rf_by_ne, rf_ky_ne, up_ne, up_eq, up_v, rf_v_up, rf_ky_nV h209 hn20]), rf_R (st_ne (st_eq (st_ne (st_ne (st_ne hR9.2.2.2.2.2.2.2.2.2.2.2.2.2.2.2.2.1 (by omega)) (by omega)) (by omega))) (by omega)) (by simp (decide := true) only [rf_l_ne, rf_v_ne, rf_an_ne, rf_at_ne, rf_by_ne, rf_ky_ne, up_ne, up_eq, up_v, rf_v_up, rf_ky_nV h209 hn20]), rf_R (st_ne (st_ne (st_ne (st_ne (st_ne hR9.2.2.2.2.2.2.2.2.2.2.2.2.2.2.2.2.2.1 (by omega)) (by omega)) (by omega)) (by omega)) (by omega)) (by simp (decide := true) only [rf_l_ne, rf_v_ne, rf_an_ne, rf_at_ne, rf_by_ne, rf_ky_ne, up_ne, up_eq, up_v, rf_v_up, rf_ky_nV h209 hn20]), rf_R (st_ne (st_ne (st_ne (st_ne (st_ne hR9.2.2.2.2.2.2.2.2.2.2.2.2.2.2.2.2.2.2.1 (by omega)) (by omega)) (by omega)) (by omega)) (by omega)) (by simp (decide := true) only [rf_l_ne, rf_v_ne, rf_an_ne, rf_at_ne, rf_by_ne, rf_ky_ne, up_ne, up_eq, up_v, rf_v_up, rf_ky_nV h209 hn20]), rf_R (st_ne (st_ne (st_ne (st_ne (st_ne hR9.2.2.2.2.2.2.2.2.2.2.2.2.2.2.2.2.2.2.2.1 (by omega)) (by omega)) (by omega)) (by omega)) (by omega)) (by simp (decide := true) only [rf_l_ne, rf_v_ne, rf_an_ne, rf_at_ne, rf_by_ne, rf_ky_ne, up_ne, up_eq, up_v, rf_v_up, rf_ky_nV h209 hn20]), rf_R (st_ne (st_ne (st_ne (st_ne (st_ne hR9.2.2.2.2.2.2.2.2.2.2.2.2.2.2.2.2.2.2.2.2.1 (by omega)) (by omega)) (by omega)) (by omega)) (by omega)) (by simp (decide := true) only [rf_l_ne, rf_v_ne, rf_an_ne, rf_at_ne, rf_by_ne, rf_ky_ne, up_ne, up_eq, up_v, rf_v_up, rf_ky_nV h209 hn20]), rf_R (st_ne (st_ne (st_ne (st_ne (st_ne hR9.2.2.2.2.2.2.2.2.2.2.2.2.2.2.2.2.2.2.2.2.2.1 (by omega)) (by omega)) (by omega)) (by omega)) (by omega)) (by simp (decide := true) only [rf_l_ne, rf_v_ne, rf_an_ne, rf_at_ne, rf_by_ne, rf_ky_ne, up_ne, up_eq, up_v, rf_v_up, rf_ky_nV h209 hn20]), rf_R (st_ne (st_ne (st_ne (st_ne (st_ne hR9.2.2.2.2.2.2.2.2.2.2.2.2.2.2.2.2.2.2.2.2.2.2.1 (by omega)) (by omega)) (by omega)) (by omega)) (by omega)) (by simp (decide := true) only [rf_l_ne, rf_v_ne, rf_an_ne, rf_at_ne, rf_by_ne, rf_ky_ne, up_ne, up_eq, up_v, rf_v_up, rf_ky_nV h209 hn20]), rf_R (st_ne (st_ne (st_ne (st_ne (st_ne hR9.2.2.2.2.2.2.2.2.2.2.2.2.2.2.2.2.2.2.2.2.2.2.2.1 (by omega)) (by omega)) (by omega)) (by omega)) (by omega)) (by simp (decide := true) only [rf_l_ne, rf_v_ne, rf_an_ne, rf_at_ne, rf_by_ne, rf_ky_ne, up_ne, up_eq, up_v, rf_v_up, rf_ky_nV h209 hn20]), rf_R (st_ne (st_ne (st_ne (st_ne (st_ne hR9.2.2.2.2.2.2.2.2.2.2.2.2.2.2.2.2.2.2.2.2.2.2.2.2.1 (by omega)) (by omega)) (by omega)) (by omega)) (by omega)) (by simp (decide := true) only [rf_l_ne, rf_v_ne, rf_an_ne, rf_at_ne, rf_by_ne, rf_ky_ne, up_ne, up_eq, up_v, rf_v_up, rf_ky_nV h209 hn20]), rf_R (st_ne (st_ne (st_ne (st_ne (st_ne hR9.2.2.2.2.2.2.2.2.2.2.2.2.2.2.2.2.2.2.2.2.2.2.2.2.2 (by omega)) (by omega)) (by omega)) (by omega)) (by omega)) (by simp (decide := true) only [rf_l_ne, rf_v_ne, rf_an_ne, rf_at_ne, rf_by_ne, rf_ky_ne, up_ne, up_eq, up_v, rf_v_up, rf_ky_nV h209 hn20])⟩ (fR_tr (fR_tr (fR_tr (fR_tr (fR_tr hf9 (fR_set (by decide) (by decide))) (fR_set (by decide) (by decide))) (fR_set (by decide) (by decide))) (fR_set (by decide) (by decide))) (fR_set (by decide) (by decide))))
  · cases q2
    refine se_aload_n (pc := 5) rfl dR_vehicle_5 ?_
    refine se_getf (pc := 6) clR 8 dR_vehicle_6 wd_561 rfl (by decide) hO rfl ?_
    refine se_bipush (pc := 9) 20 (by decide) dR_vehicle_9 ?_
    refine se_icmp_ge (pc := 11) (tgt := 18) dR_vehicle_11 (by decide) (fun q4 => ?_) (fun q4 => ?_)
    · refine se_iconst (pc := 18) 0 (by decide) dR_vehicle_18 ?_
      refine se_iconst (pc := 19) 1 (by decide) dR_vehicle_19 ?_
      refine se_invV (pc := 20) (as := [.int 0, .int 0, .int 1]) (st := []) (vok sc) kR_goes dR_vehicle_20 ⟨wd_655, wd_657, sl_10, wd_3⟩ rfl hO rfl (Nat.le_of_ble_eq_true rfl) (Nat.le_of_ble_eq_true rfl) (g_goes (r := 0) 1 hR (by decide) (by decide)) (C2 := 0) (S2 := 0) (by omega) (by omega) (fun v20 h20 _ q20 => ?_) (fun x hx => absurd hx List.not_mem_nil) (fun v20 h20 _ q20 => ?_)
      rotate_left
      · cases q20.2.2
      obtain ⟨hR9, hf9, q20⟩ := q20
      cases q20
      have hO9 := hR9.1
      rw [hI.1, hI.2.2.1] at hO9
      refine se_if_ne (pc := 23) (tgt := 28) dR_vehicle_23 (by decide) (fun q5 => absurd q5 (by decide)) (fun q5 => ?_)
      refine se_iconst (pc := 26) 0 (by decide) dR_vehicle_26 ?_
      exact se_iret (pc := 27) dR_vehicle_27 rfl (rPi_no 0 (by clear hR hO hR9 hO9 hf9; simp_all [sp_vehicle, Int32.add_sub_cancel, Int32.not_lt, Int32.not_le, st_nV]) hR9 hf9)
    · refine se_iconst (pc := 14) 1 (by decide) dR_vehicle_14 ?_
      refine se_goto (pc := 15) (tgt := 19) dR_vehicle_15 (by decide) ?_
      refine se_iconst (pc := 19) 1 (by decide) dR_vehicle_19 ?_
      refine se_invV (pc := 20) (as := [.int 0, .int 1, .int 1]) (st := []) (vok sc) kR_goes dR_vehicle_20 ⟨wd_655, wd_657, sl_10, wd_3⟩ rfl hO rfl (Nat.le_of_ble_eq_true rfl) (Nat.le_of_ble_eq_true rfl) (g_goes (r := 0) 1 hR (by decide) (by decide)) (C2 := 0) (S2 := 0) (by omega) (by omega) (fun v20 h20 _ q20 => ?_) (fun x hx => absurd hx List.not_mem_nil) (fun v20 h20 _ q20 => ?_)
      rotate_left
      · cases q20.2.2
      obtain ⟨hR9, hf9, q20⟩ := q20
      cases q20
      have hO9 := hR9.1
      rw [hI.1, hI.2.2.1] at hO9
      refine se_if_ne (pc := 23) (tgt := 28) dR_vehicle_23 (by decide) (fun q6 => absurd q6 (by decide)) (fun q6 => ?_)
      refine se_iconst (pc := 26) 0 (by decide) dR_vehicle_26 ?_
      exact se_iret (pc := 27) dR_vehicle_27 rfl (rPi_no 0 (by clear hR hO hR9 hO9 hf9; simp_all [sp_vehicle, Int32.add_sub_cancel, Int32.not_lt, Int32.not_le, st_nV]) hR9 hf9)
set_option maxHeartbeats 1000000 in
set_option maxRecDepth 100000 in
theorem r_answer {v i x p : Int32} (hd : 4 ≤ d) (hR : is_R S t h) (hI : st_I S) (hQ : st_Q N S) (hN : N < 2 ^ 31) : se_W (vG sc) l d mR_answer 0 (se_ent 7 [.ref 41, .int v, .int i, .int x, .int p]) [] h 0 0 (rPi h (sp_answer S v i x p)) := by
  obtain ⟨d, rfl⟩ : ∃ e, d = e + 1 := ⟨d - 1, by omega⟩
  show se_W (vG sc) l (d + 1) mR_answer 0 [some (.ref 41), some (.int v), some (.int i), some (.int x), some (.int p), none, none] [] h 0 0 _
  have hn20 := hI.2.1
  have hd100 := hI.2.2.2.1
  have hO := hR.1
  rw [hI.1, hI.2.2.1] at hO
  refine se_aload_n (pc := 0) rfl dR_answer_0 ?_
  refine se_iload_n (pc := 1) rfl dR_answer_1 ?_
  refine se_invV (pc := 2) (as := [.int v]) (st := []) (vok sc) kR_isVehicle dR_answer_2 ⟨wd_674, wd_676, sl_11, wd_3⟩ rfl hO rfl (Nat.le_of_ble_eq_true rfl) (Nat.le_of_ble_eq_true rfl) (x_R_isVehicle (by omega) hR hI) (C2 := 0) (S2 := 0) (by omega) (by omega) (fun v2 h2 _ q2 => ?_) (fun x hx => absurd hx List.not_mem_nil) (fun v2 h2 _ q2 => ?_)
  rotate_left
  · rcases q2.2 with ⟨_, _, _, _, e⟩ | ⟨_, e⟩ <;> cases e
  obtain ⟨h2e, q2⟩ := q2
  have h2f := h2e.symm
  subst h2f
  rcases q2 with ⟨jv, hxv, hjv, rfl, q2⟩ | ⟨hxv, q2⟩
  · cases q2
    refine se_if_eq (pc := 5) (tgt := 27) dR_answer_5 (by decide) (fun q1 => absurd q1 (by decide)) (fun q1 => ?_)
    refine se_iload_n (pc := 8) rfl dR_answer_8 ?_
    refine se_invS (pc := 9) (as := [.int i]) (st := []) (vok sc) kR_isItem dR_answer_9 ⟨wd_663, wd_664, wd_3⟩ rfl (Nat.le_of_ble_eq_true rfl) (Nat.le_of_ble_eq_true rfl) (x_R_isItem (by omega)) (C2 := 0) (S2 := 0) (by omega) (by omega) (fun v9 h9 _ q9 => ?_) (fun x hx => absurd hx List.not_mem_nil) (fun v9 h9 _ q9 => ?_)
    rotate_left
    · rcases q9.2 with ⟨_, _, _, _, e⟩ | ⟨_, e⟩ <;> cases e
    obtain ⟨h9e, q9⟩ := q9
    have h9f := h9e.symm
    subst h9f
    rcases q9 with ⟨ji, hxi, hji, rfl, q9⟩ | ⟨hxi, q9⟩
    · cases q9
      refine se_if_eq (pc := 12) (tgt := 27) dR_answer_12 (by decide) (fun q2 => absurd q2 (by decide)) (fun q2 => ?_)
      refine se_iload (pc := 15) rfl dR_answer_15 ?_
      refine se_invS (pc := 17) (as := [.int p]) (st := []) (vok sc) kR_isPerson dR_answer_17 ⟨wd_678, wd_679, wd_3⟩ rfl (Nat.le_of_ble_eq_true rfl) (Nat.le_of_ble_eq_true rfl) (x_R_isPerson (by omega)) (C2 := 0) (S2 := 0) (by omega) (by omega) (fun v17 h17 _ q17 => ?_) (fun x hx => absurd hx List.not_mem_nil) (fun v17 h17 _ q17 => ?_)
      rotate_left
      · rcases q17.2 with ⟨_, _, _, _, e⟩ | ⟨_, e⟩ <;> cases e
      obtain ⟨h17e, q17⟩ := q17
      have h17f := h17e.symm
      subst h17f
      rcases q17 with ⟨jp, hxp, hjp, rfl, q17⟩ | ⟨hxp, q17⟩
      · cases q17
        refine se_if_eq (pc := 20) (tgt := 27) dR_answer_20 (by decide) (fun q3 => absurd q3 (by decide)) (fun q3 => ?_)
        refine se_iconst (pc := 23) 1 (by decide) dR_answer_23 ?_
        refine se_goto (pc := 24) (tgt := 28) dR_answer_24 (by decide) ?_
        refine se_istore (pc := 28) dR_answer_28 (by decide) [some (.ref 41), some (.int (nI jv)), some (.int (nI ji)), some (.int x), some (.int (nI jp)), some (.int 1), none] rfl ?_
        refine se_aload_n (pc := 30) rfl dR_answer_30 ?_
        refine se_iload (pc := 31) rfl dR_answer_31 ?_
        refine se_iload_n (pc := 33) rfl dR_answer_33 ?_
        refine se_ldc (pc := 34) (-99999) dR_answer_34 wd_681 ?_
        refine se_ldc (pc := 36) 99999 dR_answer_36 wd_682 ?_
        refine se_invS (pc := 38) (as := [.int x, .int (-99999), .int 99999]) (st := [.int 1, .ref 41]) (vok sc) kR_in dR_answer_38 ⟨wd_652, wd_653, wd_3⟩ rfl (Nat.le_of_ble_eq_true rfl) (Nat.le_of_ble_eq_true rfl) (x_R_in) (C2 := 0) (S2 := 0) (by omega) (by omega) (fun v38 h38 _ q38 => ?_) (fun x hx => absurd hx List.not_mem_nil) (fun v38 h38 _ q38 => ?_)
        rotate_left
        · rcases q38.2 with ⟨_, e⟩ | ⟨_, e⟩ <;> cases e
        obtain ⟨h38e, q38⟩ := q38
        have h38f := h38e.symm
        subst h38f
        rcases q38 with ⟨hi38, q38⟩ | ⟨hi38, q38⟩
        · cases q38
          refine se_iload (pc := 41) rfl dR_answer_41 ?_
          refine se_if_eq (pc := 43) (tgt := 64) dR_answer_43 (by decide) (fun q4 => absurd q4 (by decide)) (fun q4 => ?_)
          refine se_aload_n (pc := 46) rfl dR_answer_46 ?_
          refine se_getf (pc := 47) clR 2 dR_answer_47 wd_555 rfl (by decide) hO rfl ?_
          refine se_aload_n (pc := 50) rfl dR_answer_50 ?_
          refine se_iload_n (pc := 51) rfl dR_answer_51 ?_
          refine se_iload_n (pc := 52) rfl dR_answer_52 ?_
          refine se_invV (pc := 53) (as := [.int (nI jv), .int (nI ji)]) (st := [.ref 42, .int 1, .int 1, .ref 41]) (vok sc) kR_rule dR_answer_53 ⟨wd_683, wd_685, sl_12, wd_3⟩ rfl hO rfl (Nat.le_of_ble_eq_true rfl) (Nat.le_of_ble_eq_true rfl) (c_R_rule hR (q_kd hQ hjv) (by omega) (hI.2.2.2.2 _ hjv) hji) (C2 := 0) (S2 := 0) (by omega) (by omega) (fun v53 h53 _ q53 => ?_) (fun x hx => absurd hx List.not_mem_nil) (fun v53 h53 _ q53 => ?_)
          rotate_left
          · cases q53.2
          obtain ⟨h53e, q53⟩ := q53
          have h53f := h53e.symm
          subst h53f
          cases q53
          refine se_zaldN (pc := 56) 1 dR_answer_56 rfl hR.2.1 (by have := hI.2.2.2.2 jv hjv; omega) (by decide) ?_
          rw [rf_l_at (by omega)]
          refine se_if_eq (pc := 57) (tgt := 64) dR_answer_57 (by decide) (fun q5 => ?_) (fun q5 => ?_)
          · refine se_iconst (pc := 64) 0 (by decide) dR_answer_64 ?_
            refine se_invV (pc := 65) (as := [.int 1, .int 1, .int 0]) (st := []) (vok sc) kR_goes dR_answer_65 ⟨wd_655, wd_657, sl_10, wd_3⟩ rfl hO rfl (Nat.le_of_ble_eq_true rfl) (Nat.le_of_ble_eq_true rfl) (g_goes (r := 0) 3 hR (by decide) (by decide)) (C2 := 0) (S2 := 0) (by omega) (by omega) (fun v65 h65 _ q65 => ?_) (fun x hx => absurd hx List.not_mem_nil) (fun v65 h65 _ q65 => ?_)
            rotate_left
            · cases q65.2.2
            obtain ⟨hR9, hf9, q65⟩ := q65
            cases q65
            have hO9 := hR9.1
            rw [hI.1, hI.2.2.1] at hO9
            refine se_if_ne (pc := 68) (tgt := 73) dR_answer_68 (by decide) (fun q6 => absurd q6 (by decide)) (fun q6 => ?_)
            refine se_iconst (pc := 71) 0 (by decide) dR_answer_71 ?_
            exact se_zret (pc := 72) dR_answer_72 rfl (by first | decide | exact st_b01 _) (rPi_no 2 (by clear hR hO hR9 hO9 hf9; simp_all [sp_answer]) hR9 hf9)
          · refine se_iconst (pc := 60) 1 (by decide) dR_answer_60 ?_
            refine se_goto (pc := 61) (tgt := 65) dR_answer_61 (by decide) ?_
            refine se_invV (pc := 65) (as := [.int 1, .int 1, .int 1]) (st := []) (vok sc) kR_goes dR_answer_65 ⟨wd_655, wd_657, sl_10, wd_3⟩ rfl hO rfl (Nat.le_of_ble_eq_true rfl) (Nat.le_of_ble_eq_true rfl) (g_goes (r := 1) 0 hR (by decide) (by decide)) (C2 := 0) (S2 := 0) (by omega) (by omega) (fun v65 h65 _ q65 => ?_) (fun x hx => absurd hx List.not_mem_nil) (fun v65 h65 _ q65 => ?_)
            rotate_left
            · cases q65.2.2
            obtain ⟨hR9, hf9, q65⟩ := q65
            cases q65
            have hO9 := hR9.1
            rw [hI.1, hI.2.2.1] at hO9
            refine se_if_ne (pc := 68) (tgt := 73) dR_answer_68 (by decide) (fun q7 => ?_) (fun q7 => absurd q7 (by decide))
            refine se_bipush (pc := 73) 10 (by decide) dR_answer_73 ?_
            refine se_iload_n (pc := 75) rfl dR_answer_75 ?_
            refine se_imul (pc := 76) dR_answer_76 ?_
            refine se_iload_n (pc := 77) rfl dR_answer_77 ?_
            refine se_iadd (pc := 78) dR_answer_78 ?_
            rw [nx10]
            refine se_istore (pc := 79) dR_answer_79 (by decide) [some (.ref 41), some (.int (nI jv)), some (.int (nI ji)), some (.int x), some (.int (nI jp)), some (.int 1), some (.int (nI (10 * jv + ji)))] rfl ?_
            refine se_aload_n (pc := 81) rfl dR_answer_81 ?_
            refine se_getf (pc := 82) clR 20 dR_answer_82 wd_573 rfl (by decide) hO9 rfl ?_
            refine se_iload (pc := 85) rfl dR_answer_85 ?_
            refine se_iconst (pc := 87) 1 (by decide) dR_answer_87 ?_
            refine se_zastN (pc := 88) 1 dR_answer_88 rfl hR9.2.2.2.2.2.2.2.2.2.2.2.2.2.2.2.2.2.2.1 (by omega) (by decide) (by first | decide | assumption) ?_
            refine se_aload_n (pc := 89) rfl dR_answer_89 ?_
            refine se_getf (pc := 90) clR 21 dR_answer_90 wd_574 rfl (by decide) (st_ne hO9 (by omega)) rfl ?_
            refine se_iload (pc := 93) rfl dR_answer_93 ?_
            refine se_iload_n (pc := 95) rfl dR_answer_95 ?_
            refine se_iastN (pc := 96) 0 dR_answer_96 rfl (st_ne hR9.2.2.2.2.2.2.2.2.2.2.2.2.2.2.2.2.2.2.2.1 (by omega)) (by omega) (by decide) ?_
            refine se_aload_n (pc := 97) rfl dR_answer_97 ?_
            refine se_getf (pc := 98) clR 22 dR_answer_98 wd_575 rfl (by decide) (st_ne (st_ne hO9 (by omega)) (by omega)) rfl ?_
            refine se_iload (pc := 101) rfl dR_answer_101 ?_
            refine se_aload_n (pc := 103) rfl dR_answer_103 ?_
            refine se_getf (pc := 104) clR 1 dR_answer_104 wd_554 rfl (by decide) (st_ne (st_ne hO9 (by omega)) (by omega)) rfl ?_
            refine se_iastN (pc := 107) 0 dR_answer_107 rfl (st_ne (st_ne hR9.2.2.2.2.2.2.2.2.2.2.2.2.2.2.2.2.2.2.2.2.1 (by omega)) (by omega)) (by omega) (by decide) ?_
            refine se_aload_n (pc := 108) rfl dR_answer_108 ?_
            refine se_getf (pc := 109) clR 23 dR_answer_109 wd_576 rfl (by decide) (st_ne (st_ne (st_ne hO9 (by omega)) (by omega)) (by omega)) rfl ?_
            refine se_iload (pc := 112) rfl dR_answer_112 ?_
            refine se_iload (pc := 114) rfl dR_answer_114 ?_
            refine se_iastN (pc := 116) 0 dR_answer_116 rfl (st_ne (st_ne (st_ne hR9.2.2.2.2.2.2.2.2.2.2.2.2.2.2.2.2.2.2.2.2.2.1 (by omega)) (by omega)) (by omega)) (by omega) (by decide) ?_
            refine se_aload_n (pc := 117) rfl dR_answer_117 ?_
            refine se_getf (pc := 118) clR 24 dR_answer_118 wd_577 rfl (by decide) (st_ne (st_ne (st_ne (st_ne hO9 (by omega)) (by omega)) (by omega)) (by omega)) rfl ?_
            refine se_iload (pc := 121) rfl dR_answer_121 ?_
            refine se_aload_n (pc := 123) rfl dR_answer_123 ?_
            refine se_getf (pc := 124) clR 15 dR_answer_124 wd_568 rfl (by decide) (st_ne (st_ne (st_ne (st_ne hO9 (by omega)) (by omega)) (by omega)) (by omega)) rfl ?_
            refine se_iload_n (pc := 127) rfl dR_answer_127 ?_
            refine se_ialdN (pc := 128) 0 dR_answer_128 rfl (st_ne (st_ne (st_ne (st_ne hR9.2.2.2.2.2.2.2.2.2.2.2.2.2.1 (by omega)) (by omega)) (by omega)) (by omega)) (by omega) (by decide) ?_
            rw [rf_v_at]
            refine se_iastN (pc := 129) 0 dR_answer_129 rfl (st_ne (st_ne (st_ne (st_ne hR9.2.2.2.2.2.2.2.2.2.2.2.2.2.2.2.2.2.2.2.2.2.2.1 (by omega)) (by omega)) (by omega)) (by omega)) (by omega) (by decide) ?_
            have hR2 : is_R (st_up (st_up (st_up (st_up S 7 jv ji x) 8 jv ji (S 26 0 0)) 9 jv ji (nI jp)) 10 jv ji (S 17 jv 0)) (nI 0) (((((h65.set 59 (.inl (.boolean, (200, .inl (upd (rf_an S) (10 * jv + ji) 1))))).set 60 (.inl (.int, (200, .inl (upd (rf_l S 7) (10 * jv + ji) x))))).set 61 (.inl (.int, (200, .inl (upd (rf_at S) (10 * jv + ji) (S 26 0 0)))))).set 62 (.inl (.int, (200, .inl (upd (rf_by S) (10 * jv + ji) (nI jp)))))).set 63 (.inl (.int, (200, .inl (upd (rf_l S 10) (10 * jv + ji) (S 17 jv 0)))))) := ⟨rf_O (st_ne (st_ne (st_ne (st_ne (st_ne hO9 (by omega)) (by omega)) (by omega)) (by omega)) (by omega)) (by simp (decide := true) only [up_ne, up_v, ← hI.1, ← hI.2.2.1]) (by simp (decide := true) only [up_ne, up_v, ← hI.1, ← hI.2.2.1]) (by simp (decide := true) only [up_ne, up_v, ← hI.1, ← hI.2.2.1]), rf_R (st_ne (st_ne (st_ne (st_ne (st_ne hR9.2.1 (by omega)) (by omega)) (by omega)) (by omega)) (by omega)) (by simp (decide := true) only [rf_l_ne, rf_v_ne, rf_an_ne, rf_at_ne, rf_by_ne, rf_ky_ne, up_ne, up_eq, up_v, rf_l_up hji, rf_an_up hji (q_hr hQ), rf_at_up hji (q_hr hQ), rf_by_up hji (q_hr hQ)]), rf_R (st_ne (st_ne (st_ne (st_ne (st_ne hR9.2.2.1 (by omega)) (by omega)) (by omega)) (by omega)) (by omega)) (by simp (decide := true) only [rf_l_ne, rf_v_ne, rf_an_ne, rf_at_ne, rf_by_ne, rf_ky_ne, up_ne, up_eq, up_v, rf_l_up hji, rf_an_up hji (q_hr hQ), rf_at_up hji (q_hr hQ), rf_by_up hji (q_hr hQ)]), rf_R (st_ne (st_ne (st_ne (st_ne (st_ne hR9.2.2.2.1 (by omega)) (by omega)) (by omega)) (by omega)) (by omega)) (by simp (decide := true) only [rf_l_ne, rf_v_ne, rf_an_ne, rf_at_ne, rf_by_ne, rf_ky_ne, up_ne, up_eq, up_v, rf_l_up hji, rf_an_up hji (q_hr hQ), rf_at_up hji (q_hr hQ), rf_by_up hji (q_hr hQ)]), rf_R (st_ne (st_ne (st_ne (st_ne (st_ne hR9.2.2.2.2.1 (by omega)) (by omega)) (by omega)) (by omega)) (by omega)) (by simp (decide := true) only [rf_l_ne, rf_v_ne, rf_an_ne, rf_at_ne, rf_by_ne, rf_ky_ne, up_ne, up_eq, up_v, rf_l_up hji, rf_an_up hji (q_hr hQ), rf_at_up hji (q_hr hQ), rf_by_up hji (q_hr hQ)]), rf_R (st_ne (st_ne (st_ne (st_ne (st_ne hR9.2.2.2.2.2.1 (by omega)) (by omega)) (by omega)) (by omega)) (by omega)) (by simp (decide := true) only [rf_l_ne, rf_v_ne, rf_an_ne, rf_at_ne, rf_by_ne, rf_ky_ne, up_ne, up_eq, up_v, rf_l_up hji, rf_an_up hji (q_hr hQ), rf_at_up hji (q_hr hQ), rf_by_up hji (q_hr hQ)]), rf_R (st_ne (st_ne (st_ne (st_ne (st_ne hR9.2.2.2.2.2.2.1 (by omega)) (by omega)) (by omega)) (by omega)) (by omega)) (by simp (decide := true) only [rf_l_ne, rf_v_ne, rf_an_ne, rf_at_ne, rf_by_ne, rf_ky_ne, up_ne, up_eq, up_v, rf_l_up hji, rf_an_up hji (q_hr hQ), rf_at_up hji (q_hr hQ), rf_by_up hji (q_hr hQ)]), rf_R (st_ne (st_ne (st_ne (st_ne (st_ne hR9.2.2.2.2.2.2.2.1 (by omega)) (by omega)) (by omega)) (by omega)) (by omega)) (by simp (decide := true) only [rf_l_ne, rf_v_ne, rf_an_ne, rf_at_ne, rf_by_ne, rf_ky_ne, up_ne, up_eq, up_v, rf_l_up hji, rf_an_up hji (q_hr hQ), rf_at_up hji (q_hr hQ), rf_by_up hji (q_hr hQ)]), rf_R (st_ne (st_ne (st_ne (st_ne (st_ne hR9.2.2.2.2.2.2.2.2.1 (by omega)) (by omega)) (by omega)) (by omega)) (by omega)) (by simp (decide := true) only [rf_l_ne, rf_v_ne, rf_an_ne, rf_at_ne, rf_by_ne, rf_ky_ne, up_ne, up_eq, up_v, rf_l_up hji, rf_an_up hji (q_hr hQ), rf_at_up hji (q_hr hQ), rf_by_up hji (q_hr hQ)]), rf_R (st_ne (st_ne (st_ne (st_ne (st_ne hR9.2.2.2.2.2.2.2.2.2.1 (by omega)) (by omega)) (by omega)) (by omega)) (by omega)) (by simp (decide := true) only [rf_l_ne, rf_v_ne, rf_an_ne, rf_at_ne, rf_by_ne, rf_ky_ne, up_ne, up_eq, up_v, rf_l_up hji, rf_an_up hji (q_hr hQ), rf_at_up hji (q_hr hQ), rf_by_up hji (q_hr hQ)]), rf_R (st_ne (st_ne (st_ne (st_ne (st_ne hR9.2.2.2.2.2.2.2.2.2.2.1 (by omega)) (by omega)) (by omega)) (by omega)) (by omega)) (by simp (decide := true) only [rf_l_ne, rf_v_ne, rf_an_ne, rf_at_ne, rf_by_ne, rf_ky_ne, up_ne, up_eq, up_v, rf_l_up hji, rf_an_up hji (q_hr hQ), rf_at_up hji (q_hr hQ), rf_by_up hji (q_hr hQ)]), rf_R (st_ne (st_ne (st_ne (st_ne (st_ne hR9.2.2.2.2.2.2.2.2.2.2.2.1 (by omega)) (by omega)) (by omega)) (by omega)) (by omega)) (by simp (decide := true) only [rf_l_ne, rf_v_ne, rf_an_ne, rf_at_ne, rf_by_ne, rf_ky_ne, up_ne, up_eq, up_v, rf_l_up hji, rf_an_up hji (q_hr hQ), rf_at_up hji (q_hr hQ), rf_by_up hji (q_hr hQ)]), rf_R (st_ne (st_ne (st_ne (st_ne (st_ne hR9.2.2.2.2.2.2.2.2.2.2.2.2.1 (by omega)) (by omega)) (by omega)) (by omega)) (by omega)) (by simp (decide := true) only [rf_l_ne, rf_v_ne, rf_an_ne, rf_at_ne, rf_by_ne, rf_ky_ne, up_ne, up_eq, up_v, rf_l_up hji, rf_an_up hji (q_hr hQ), rf_at_up hji (q_hr hQ), rf_by_up hji (q_hr hQ)]), rf_R (st_ne (st_ne (st_ne (st_ne (st_ne hR9.2.2.2.2.2.2.2.2.2.2.2.2.2.1 (by omega)) (by omega)) (by omega)) (by omega)) (by omega)) (by simp (decide := true) only [rf_l_ne, rf_v_ne, rf_an_ne, rf_at_ne, rf_by_ne, rf_ky_ne, up_ne, up_eq, up_v, rf_l_up hji, rf_an_up hji (q_hr hQ), rf_at_up hji (q_hr hQ), rf_by_up hji (q_hr hQ)]), rf_R (st_ne (st_ne (st_ne (st_ne (st_ne hR9.2.2.2.2.2.2.2.2.2.2.2.2.2.2.1 (by omega)) (by omega)) (by omega)) (by omega)) (by omega)) (by simp (decide := true) only [rf_l_ne, rf_v_ne, rf_an_ne, rf_at_ne, rf_by_ne, rf_ky_ne, up_ne, up_eq, up_v, rf_l_up hji, rf_an_up hji (q_hr hQ), rf_at_up hji (q_hr hQ), rf_by_up hji (q_hr hQ)]), rf_R (st_ne (st_ne (st_ne (st_ne (st_ne hR9.2.2.2.2.2.2.2.2.2.2.2.2.2.2.2.1 (by omega)) (by omega)) (by omega)) (by omega)) (by omega)) (by simp (decide := true) only [rf_l_ne, rf_v_ne, rf_an_ne, rf_at_ne, rf_by_ne, rf_ky_ne, up_ne, up_eq, up_v, rf_l_up hji, rf_an_up hji (q_hr hQ), rf_at_up hji (q_hr hQ), rf_by_up hji (q_hr hQ)]), rf_R (st_ne (st_ne (st_ne (st_ne (st_ne hR9.2.2.2.2.2.2.2.2.2.2.2.2.2.2.2.2.1 (by omega)) (by omega)) (by omega)) (by omega)) (by omega)) (by simp (decide := true) only [rf_l_ne, rf_v_ne, rf_an_ne, rf_at_ne, rf_by_ne, rf_ky_ne, up_ne, up_eq, up_v, rf_l_up hji, rf_an_up hji (q_hr hQ), rf_at_up hji (q_hr hQ), rf_by_up hji (q_hr hQ)]), rf_R (st_ne (st_ne (st_ne (st_ne (st_ne hR9.2.2.2.2.2.2.2.2.2.2.2.2.2.2.2.2.2.1 (by omega)) (by omega)) (by omega)) (by omega)) (by omega)) (by simp (decide := true) only [rf_l_ne, rf_v_ne, rf_an_ne, rf_at_ne, rf_by_ne, rf_ky_ne, up_ne, up_eq, up_v, rf_l_up hji, rf_an_up hji (q_hr hQ), rf_at_up hji (q_hr hQ), rf_by_up hji (q_hr hQ)]), rf_R (st_ne (st_ne (st_ne (st_ne (st_eq hR9.2.2.2.2.2.2.2.2.2.2.2.2.2.2.2.2.2.2.1) (by omega)) (by omega)) (by omega)) (by omega)) (by simp (decide := true) only [rf_l_ne, rf_v_ne, rf_an_ne, rf_at_ne, rf_by_ne, rf_ky_ne, up_ne, up_eq, up_v, rf_l_up hji, rf_an_up hji (q_hr hQ), rf_at_up hji (q_hr hQ), rf_by_up hji (q_hr hQ)]), rf_R (st_ne (st_ne (st_ne (st_eq (st_ne hR9.2.2.2.2.2.2.2.2.2.2.2.2.2.2.2.2.2.2.2.1 (by omega))) (by omega)) (by omega)) (by omega)) (by simp (decide := true) only [rf_l_ne, rf_v_ne, rf_an_ne, rf_at_ne, rf_by_ne, rf_ky_ne, up_ne, up_eq, up_v, rf_l_up hji, rf_an_up hji (q_hr hQ), rf_at_up hji (q_hr hQ), rf_by_up hji (q_hr hQ)]), rf_R (st_ne (st_ne (st_eq (st_ne (st_ne hR9.2.2.2.2.2.2.2.2.2.2.2.2.2.2.2.2.2.2.2.2.1 (by omega)) (by omega))) (by omega)) (by omega)) (by simp (decide := true) only [rf_l_ne, rf_v_ne, rf_an_ne, rf_at_ne, rf_by_ne, rf_ky_ne, up_ne, up_eq, up_v, rf_l_up hji, rf_an_up hji (q_hr hQ), rf_at_up hji (q_hr hQ), rf_by_up hji (q_hr hQ)]), rf_R (st_ne (st_eq (st_ne (st_ne (st_ne hR9.2.2.2.2.2.2.2.2.2.2.2.2.2.2.2.2.2.2.2.2.2.1 (by omega)) (by omega)) (by omega))) (by omega)) (by simp (decide := true) only [rf_l_ne, rf_v_ne, rf_an_ne, rf_at_ne, rf_by_ne, rf_ky_ne, up_ne, up_eq, up_v, rf_l_up hji, rf_an_up hji (q_hr hQ), rf_at_up hji (q_hr hQ), rf_by_up hji (q_hr hQ)]), rf_R (st_eq (st_ne (st_ne (st_ne (st_ne hR9.2.2.2.2.2.2.2.2.2.2.2.2.2.2.2.2.2.2.2.2.2.2.1 (by omega)) (by omega)) (by omega)) (by omega))) (by simp (decide := true) only [rf_l_ne, rf_v_ne, rf_an_ne, rf_at_ne, rf_by_ne, rf_ky_ne, up_ne, up_eq, up_v, rf_l_up hji, rf_an_up hji (q_hr hQ), rf_at_up hji (q_hr hQ), rf_by_up hji (q_hr hQ)]), rf_R (st_ne (st_ne (st_ne (st_ne (st_ne hR9.2.2.2.2.2.2.2.2.2.2.2.2.2.2.2.2.2.2.2.2.2.2.2.1 (by omega)) (by omega)) (by omega)) (by omega)) (by omega)) (by simp (decide := true) only [rf_l_ne, rf_v_ne, rf_an_ne, rf_at_ne, rf_by_ne, rf_ky_ne, up_ne, up_eq, up_v, rf_l_up hji, rf_an_up hji (q_hr hQ), rf_at_up hji (q_hr hQ), rf_by_up hji (q_hr hQ)]), rf_R (st_ne (st_ne (st_ne (st_ne (st_ne hR9.2.2.2.2.2.2.2.2.2.2.2.2.2.2.2.2.2.2.2.2.2.2.2.2.1 (by omega)) (by omega)) (by omega)) (by omega)) (by omega)) (by simp (decide := true) only [rf_l_ne, rf_v_ne, rf_an_ne, rf_at_ne, rf_by_ne, rf_ky_ne, up_ne, up_eq, up_v, rf_l_up hji, rf_an_up hji (q_hr hQ), rf_at_up hji (q_hr hQ), rf_by_up hji (q_hr hQ)]), rf_R (st_ne (st_ne (st_ne (st_ne (st_ne hR9.2.2.2.2.2.2.2.2.2.2.2.2.2.2.2.2.2.2.2.2.2.2.2.2.2 (by omega)) (by omega)) (by omega)) (by omega)) (by omega)) (by simp (decide := true) only [rf_l_ne, rf_v_ne, rf_an_ne, rf_at_ne, rf_by_ne, rf_ky_ne, up_ne, up_eq, up_v, rf_l_up hji, rf_an_up hji (q_hr hQ), rf_at_up hji (q_hr hQ), rf_by_up hji (q_hr hQ)])⟩
            have ewi : st_wi (st_up (st_up (st_up (st_up S 7 jv ji x) 8 jv ji (S 26 0 0)) 9 jv ji (nI jp)) 10 jv ji (S 17 jv 0)) (st_kd (st_up (st_up (st_up (st_up S 7 jv ji x) 8 jv ji (S 26 0 0)) 9 jv ji (nI jp)) 10 jv ji (S 17 jv 0)) jv) ji x = st_wi S (st_kd S jv) ji x := by simp (decide := true) only [st_wi, kd_up, up_ne]
            have ekd : st_kd (st_up (st_up (st_up (st_up S 7 jv ji x) 8 jv ji (S 26 0 0)) 9 jv ji (nI jp)) 10 jv ji (S 17 jv 0)) jv = st_kd S jv := by simp (decide := true) only [kd_up]
            have eJ : (st_up (st_up (st_up (st_up S 7 jv ji x) 8 jv ji (S 26 0 0)) 9 jv ji (nI jp)) 10 jv ji (S 17 jv 0)) 11 jv 0 = nI (st_kd (st_up (st_up (st_up (st_up S 7 jv ji x) 8 jv ji (S 26 0 0)) 9 jv ji (nI jp)) 10 jv ji (S 17 jv 0)) jv) := by rw [ekd]; simp (decide := true) only [up_ne]; exact q_kd hQ hjv
            refine se_aload_n (pc := 130) rfl dR_answer_130 ?_
            refine se_iload_n (pc := 131) rfl dR_answer_131 ?_
            refine se_iload_n (pc := 132) rfl dR_answer_132 ?_
            refine se_iload_n (pc := 133) rfl dR_answer_133 ?_
            refine se_invV (pc := 134) (as := [.int (nI jv), .int (nI ji), .int x]) (st := []) (vok sc) kR_isWithin dR_answer_134 ⟨wd_687, wd_689, sl_13, wd_3⟩ rfl (st_ne (st_ne (st_ne (st_ne (st_ne hO9 (by omega)) (by omega)) (by omega)) (by omega)) (by omega)) rfl (Nat.le_of_ble_eq_true rfl) (Nat.le_of_ble_eq_true rfl) (c_R_isWithin (by omega) hR2 eJ (by omega) (by rw [ekd]; exact hI.2.2.2.2 _ hjv) hji) (C2 := 0) (S2 := 0) (by omega) (by omega) (fun v134 h134 _ q134 => ?_) (fun x hx => absurd hx List.not_mem_nil) (fun v134 h134 _ q134 => ?_)
            rotate_left
            · cases q134.2
            obtain ⟨h134e, q134⟩ := q134
            subst h134e
            cases q134
            rw [ewi]
            exact se_zret (pc := 137) dR_answer_137 rfl (by first | decide | exact st_b01 _) (rPi_ok (S' := st_up (st_up (st_up (st_up S 7 jv ji x) 8 jv ji (S 26 0 0)) 9 jv ji (nI jp)) 10 jv ji (S 17 jv 0)) (by clear hR hO hR9 hO9 hf9; simp_all [sp_answer]) hR2 (fR_tr (fR_tr (fR_tr (fR_tr (fR_tr hf9 (fR_set (by decide) (by decide))) (fR_set (by decide) (by decide))) (fR_set (by decide) (by decide))) (fR_set (by decide) (by decide))) (fR_set (by decide) (by decide))))
        · cases q38
          refine se_iload (pc := 41) rfl dR_answer_41 ?_
          refine se_if_eq (pc := 43) (tgt := 64) dR_answer_43 (by decide) (fun q8 => absurd q8 (by decide)) (fun q8 => ?_)
          refine se_aload_n (pc := 46) rfl dR_answer_46 ?_
          refine se_getf (pc := 47) clR 2 dR_answer_47 wd_555 rfl (by decide) hO rfl ?_
          refine se_aload_n (pc := 50) rfl dR_answer_50 ?_
          refine se_iload_n (pc := 51) rfl dR_answer_51 ?_
          refine se_iload_n (pc := 52) rfl dR_answer_52 ?_
          refine se_invV (pc := 53) (as := [.int (nI jv), .int (nI ji)]) (st := [.ref 42, .int 0, .int 1, .ref 41]) (vok sc) kR_rule dR_answer_53 ⟨wd_683, wd_685, sl_12, wd_3⟩ rfl hO rfl (Nat.le_of_ble_eq_true rfl) (Nat.le_of_ble_eq_true rfl) (c_R_rule hR (q_kd hQ hjv) (by omega) (hI.2.2.2.2 _ hjv) hji) (C2 := 0) (S2 := 0) (by omega) (by omega) (fun v53 h53 _ q53 => ?_) (fun x hx => absurd hx List.not_mem_nil) (fun v53 h53 _ q53 => ?_)
          rotate_left
          · cases q53.2
          obtain ⟨h53e, q53⟩ := q53
          have h53f := h53e.symm
          subst h53f
          cases q53
          refine se_zaldN (pc := 56) 1 dR_answer_56 rfl hR.2.1 (by have := hI.2.2.2.2 jv hjv; omega) (by decide) ?_
          rw [rf_l_at (by omega)]
          refine se_if_eq (pc := 57) (tgt := 64) dR_answer_57 (by decide) (fun q9 => ?_) (fun q9 => ?_)
          · refine se_iconst (pc := 64) 0 (by decide) dR_answer_64 ?_
            refine se_invV (pc := 65) (as := [.int 1, .int 0, .int 0]) (st := []) (vok sc) kR_goes dR_answer_65 ⟨wd_655, wd_657, sl_10, wd_3⟩ rfl hO rfl (Nat.le_of_ble_eq_true rfl) (Nat.le_of_ble_eq_true rfl) (g_goes (r := 0) 2 hR (by decide) (by decide)) (C2 := 0) (S2 := 0) (by omega) (by omega) (fun v65 h65 _ q65 => ?_) (fun x hx => absurd hx List.not_mem_nil) (fun v65 h65 _ q65 => ?_)
            rotate_left
            · cases q65.2.2
            obtain ⟨hR9, hf9, q65⟩ := q65
            cases q65
            have hO9 := hR9.1
            rw [hI.1, hI.2.2.1] at hO9
            refine se_if_ne (pc := 68) (tgt := 73) dR_answer_68 (by decide) (fun q10 => absurd q10 (by decide)) (fun q10 => ?_)
            refine se_iconst (pc := 71) 0 (by decide) dR_answer_71 ?_
            exact se_zret (pc := 72) dR_answer_72 rfl (by first | decide | exact st_b01 _) (rPi_no 1 (by clear hR hO hR9 hO9 hf9; simp_all [sp_answer]) hR9 hf9)
          · refine se_iconst (pc := 60) 1 (by decide) dR_answer_60 ?_
            refine se_goto (pc := 61) (tgt := 65) dR_answer_61 (by decide) ?_
            refine se_invV (pc := 65) (as := [.int 1, .int 0, .int 1]) (st := []) (vok sc) kR_goes dR_answer_65 ⟨wd_655, wd_657, sl_10, wd_3⟩ rfl hO rfl (Nat.le_of_ble_eq_true rfl) (Nat.le_of_ble_eq_true rfl) (g_goes (r := 0) 2 hR (by decide) (by decide)) (C2 := 0) (S2 := 0) (by omega) (by omega) (fun v65 h65 _ q65 => ?_) (fun x hx => absurd hx List.not_mem_nil) (fun v65 h65 _ q65 => ?_)
            rotate_left
            · cases q65.2.2
            obtain ⟨hR9, hf9, q65⟩ := q65
            cases q65
            have hO9 := hR9.1
            rw [hI.1, hI.2.2.1] at hO9
            refine se_if_ne (pc := 68) (tgt := 73) dR_answer_68 (by decide) (fun q11 => absurd q11 (by decide)) (fun q11 => ?_)
            refine se_iconst (pc := 71) 0 (by decide) dR_answer_71 ?_
            exact se_zret (pc := 72) dR_answer_72 rfl (by first | decide | exact st_b01 _) (rPi_no 1 (by clear hR hO hR9 hO9 hf9; simp_all [sp_answer]) hR9 hf9)
      · cases q17
        refine se_if_eq (pc := 20) (tgt := 27) dR_answer_20 (by decide) (fun q12 => ?_) (fun q12 => absurd q12 (by decide))
        refine se_iconst (pc := 27) 0 (by decide) dR_answer_27 ?_
        refine se_istore (pc := 28) dR_answer_28 (by decide) [some (.ref 41), some (.int (nI jv)), some (.int (nI ji)), some (.int x), some (.int p), some (.int 0), none] rfl ?_
        refine se_aload_n (pc := 30) rfl dR_answer_30 ?_
        refine se_iload (pc := 31) rfl dR_answer_31 ?_
        refine se_iload_n (pc := 33) rfl dR_answer_33 ?_
        refine se_ldc (pc := 34) (-99999) dR_answer_34 wd_681 ?_
        refine se_ldc (pc := 36) 99999 dR_answer_36 wd_682 ?_
        refine se_invS (pc := 38) (as := [.int x, .int (-99999), .int 99999]) (st := [.int 0, .ref 41]) (vok sc) kR_in dR_answer_38 ⟨wd_652, wd_653, wd_3⟩ rfl (Nat.le_of_ble_eq_true rfl) (Nat.le_of_ble_eq_true rfl) (x_R_in) (C2 := 0) (S2 := 0) (by omega) (by omega) (fun v38 h38 _ q38 => ?_) (fun x hx => absurd hx List.not_mem_nil) (fun v38 h38 _ q38 => ?_)
        rotate_left
        · rcases q38.2 with ⟨_, e⟩ | ⟨_, e⟩ <;> cases e
        obtain ⟨h38e, q38⟩ := q38
        have h38f := h38e.symm
        subst h38f
        rcases q38 with ⟨hi38, q38⟩ | ⟨hi38, q38⟩
        · cases q38
          refine se_iload (pc := 41) rfl dR_answer_41 ?_
          refine se_if_eq (pc := 43) (tgt := 64) dR_answer_43 (by decide) (fun q13 => ?_) (fun q13 => absurd q13 (by decide))
          refine se_iconst (pc := 64) 0 (by decide) dR_answer_64 ?_
          refine se_invV (pc := 65) (as := [.int 0, .int 1, .int 0]) (st := []) (vok sc) kR_goes dR_answer_65 ⟨wd_655, wd_657, sl_10, wd_3⟩ rfl hO rfl (Nat.le_of_ble_eq_true rfl) (Nat.le_of_ble_eq_true rfl) (g_goes (r := 0) 1 hR (by decide) (by decide)) (C2 := 0) (S2 := 0) (by omega) (by omega) (fun v65 h65 _ q65 => ?_) (fun x hx => absurd hx List.not_mem_nil) (fun v65 h65 _ q65 => ?_)
          rotate_left
          · cases q65.2.2
          obtain ⟨hR9, hf9, q65⟩ := q65
          cases q65
          have hO9 := hR9.1
          rw [hI.1, hI.2.2.1] at hO9
          refine se_if_ne (pc := 68) (tgt := 73) dR_answer_68 (by decide) (fun q14 => absurd q14 (by decide)) (fun q14 => ?_)
          refine se_iconst (pc := 71) 0 (by decide) dR_answer_71 ?_
          exact se_zret (pc := 72) dR_answer_72 rfl (by first | decide | exact st_b01 _) (rPi_no 0 (by clear hR hO hR9 hO9 hf9; simp_all [sp_answer]) hR9 hf9)
        · cases q38
          refine se_iload (pc := 41) rfl dR_answer_41 ?_
          refine se_if_eq (pc := 43) (tgt := 64) dR_answer_43 (by decide) (fun q15 => ?_) (fun q15 => absurd q15 (by decide))
          refine se_iconst (pc := 64) 0 (by decide) dR_answer_64 ?_
          refine se_invV (pc := 65) (as := [.int 0, .int 0, .int 0]) (st := []) (vok sc) kR_goes dR_answer_65 ⟨wd_655, wd_657, sl_10, wd_3⟩ rfl hO rfl (Nat.le_of_ble_eq_true rfl) (Nat.le_of_ble_eq_true rfl) (g_goes (r := 0) 1 hR (by decide) (by decide)) (C2 := 0) (S2 := 0) (by omega) (by omega) (fun v65 h65 _ q65 => ?_) (fun x hx => absurd hx List.not_mem_nil) (fun v65 h65 _ q65 => ?_)
          rotate_left
          · cases q65.2.2
          obtain ⟨hR9, hf9, q65⟩ := q65
          cases q65
          have hO9 := hR9.1
          rw [hI.1, hI.2.2.1] at hO9
          refine se_if_ne (pc := 68) (tgt := 73) dR_answer_68 (by decide) (fun q16 => absurd q16 (by decide)) (fun q16 => ?_)
          refine se_iconst (pc := 71) 0 (by decide) dR_answer_71 ?_
          exact se_zret (pc := 72) dR_answer_72 rfl (by first | decide | exact st_b01 _) (rPi_no 0 (by clear hR hO hR9 hO9 hf9; simp_all [sp_answer]) hR9 hf9)
    · cases q9
      refine se_if_eq (pc := 12) (tgt := 27) dR_answer_12 (by decide) (fun q17 => ?_) (fun q17 => absurd q17 (by decide))
      refine se_iconst (pc := 27) 0 (by decide) dR_answer_27 ?_
      refine se_istore (pc := 28) dR_answer_28 (by decide) [some (.ref 41), some (.int (nI jv)), some (.int i), some (.int x), some (.int p), some (.int 0), none] rfl ?_
      refine se_aload_n (pc := 30) rfl dR_answer_30 ?_
      refine se_iload (pc := 31) rfl dR_answer_31 ?_
      refine se_iload_n (pc := 33) rfl dR_answer_33 ?_
      refine se_ldc (pc := 34) (-99999) dR_answer_34 wd_681 ?_
      refine se_ldc (pc := 36) 99999 dR_answer_36 wd_682 ?_
      refine se_invS (pc := 38) (as := [.int x, .int (-99999), .int 99999]) (st := [.int 0, .ref 41]) (vok sc) kR_in dR_answer_38 ⟨wd_652, wd_653, wd_3⟩ rfl (Nat.le_of_ble_eq_true rfl) (Nat.le_of_ble_eq_true rfl) (x_R_in) (C2 := 0) (S2 := 0) (by omega) (by omega) (fun v38 h38 _ q38 => ?_) (fun x hx => absurd hx List.not_mem_nil) (fun v38 h38 _ q38 => ?_)
      rotate_left
      · rcases q38.2 with ⟨_, e⟩ | ⟨_, e⟩ <;> cases e
      obtain ⟨h38e, q38⟩ := q38
      have h38f := h38e.symm
      subst h38f
      rcases q38 with ⟨hi38, q38⟩ | ⟨hi38, q38⟩
      · cases q38
        refine se_iload (pc := 41) rfl dR_answer_41 ?_
        refine se_if_eq (pc := 43) (tgt := 64) dR_answer_43 (by decide) (fun q18 => ?_) (fun q18 => absurd q18 (by decide))
        refine se_iconst (pc := 64) 0 (by decide) dR_answer_64 ?_
        refine se_invV (pc := 65) (as := [.int 0, .int 1, .int 0]) (st := []) (vok sc) kR_goes dR_answer_65 ⟨wd_655, wd_657, sl_10, wd_3⟩ rfl hO rfl (Nat.le_of_ble_eq_true rfl) (Nat.le_of_ble_eq_true rfl) (g_goes (r := 0) 1 hR (by decide) (by decide)) (C2 := 0) (S2 := 0) (by omega) (by omega) (fun v65 h65 _ q65 => ?_) (fun x hx => absurd hx List.not_mem_nil) (fun v65 h65 _ q65 => ?_)
        rotate_left
        · cases q65.2.2
        obtain ⟨hR9, hf9, q65⟩ := q65
        cases q65
        have hO9 := hR9.1
        rw [hI.1, hI.2.2.1] at hO9
        refine se_if_ne (pc := 68) (tgt := 73) dR_answer_68 (by decide) (fun q19 => absurd q19 (by decide)) (fun q19 => ?_)
        refine se_iconst (pc := 71) 0 (by decide) dR_answer_71 ?_
        exact se_zret (pc := 72) dR_answer_72 rfl (by first | decide | exact st_b01 _) (rPi_no 0 (by clear hR hO hR9 hO9 hf9; simp_all [sp_answer]) hR9 hf9)
      · cases q38
        refine se_iload (pc := 41) rfl dR_answer_41 ?_
        refine se_if_eq (pc := 43) (tgt := 64) dR_answer_43 (by decide) (fun q20 => ?_) (fun q20 => absurd q20 (by decide))
        refine se_iconst (pc := 64) 0 (by decide) dR_answer_64 ?_
        refine se_invV (pc := 65) (as := [.int 0, .int 0, .int 0]) (st := []) (vok sc) kR_goes dR_answer_65 ⟨wd_655, wd_657, sl_10, wd_3⟩ rfl hO rfl (Nat.le_of_ble_eq_true rfl) (Nat.le_of_ble_eq_true rfl) (g_goes (r := 0) 1 hR (by decide) (by decide)) (C2 := 0) (S2 := 0) (by omega) (by omega) (fun v65 h65 _ q65 => ?_) (fun x hx => absurd hx List.not_mem_nil) (fun v65 h65 _ q65 => ?_)
        rotate_left
        · cases q65.2.2
        obtain ⟨hR9, hf9, q65⟩ := q65
        cases q65
        have hO9 := hR9.1
        rw [hI.1, hI.2.2.1] at hO9
        refine se_if_ne (pc := 68) (tgt := 73) dR_answer_68 (by decide) (fun q21 => absurd q21 (by decide)) (fun q21 => ?_)
        refine se_iconst (pc := 71) 0 (by decide) dR_answer_71 ?_
        exact se_zret (pc := 72) dR_answer_72 rfl (by first | decide | exact st_b01 _) (rPi_no 0 (by clear hR hO hR9 hO9 hf9; simp_all [sp_answer]) hR9 hf9)
  · cases q2
    refine se_if_eq (pc := 5) (tgt := 27) dR_answer_5 (by decide) (fun q22 => ?_) (fun q22 => absurd q22 (by decide))
    refine se_iconst (pc := 27) 0 (by decide) dR_answer_27 ?_
    refine se_istore (pc := 28) dR_answer_28 (by decide) [some (.ref 41), some (.int v), some (.int i), some (.int x), some (.int p), some (.int 0), none] rfl ?_
    refine se_aload_n (pc := 30) rfl dR_answer_30 ?_
    refine se_iload (pc := 31) rfl dR_answer_31 ?_
    refine se_iload_n (pc := 33) rfl dR_answer_33 ?_
    refine se_ldc (pc := 34) (-99999) dR_answer_34 wd_681 ?_
    refine se_ldc (pc := 36) 99999 dR_answer_36 wd_682 ?_
    refine se_invS (pc := 38) (as := [.int x, .int (-99999), .int 99999]) (st := [.int 0, .ref 41]) (vok sc) kR_in dR_answer_38 ⟨wd_652, wd_653, wd_3⟩ rfl (Nat.le_of_ble_eq_true rfl) (Nat.le_of_ble_eq_true rfl) (x_R_in) (C2 := 0) (S2 := 0) (by omega) (by omega) (fun v38 h38 _ q38 => ?_) (fun x hx => absurd hx List.not_mem_nil) (fun v38 h38 _ q38 => ?_)
    rotate_left
    · rcases q38.2 with ⟨_, e⟩ | ⟨_, e⟩ <;> cases e
    obtain ⟨h38e, q38⟩ := q38
    have h38f := h38e.symm
    subst h38f
    rcases q38 with ⟨hi38, q38⟩ | ⟨hi38, q38⟩
    · cases q38
      refine se_iload (pc := 41) rfl dR_answer_41 ?_
      refine se_if_eq (pc := 43) (tgt := 64) dR_answer_43 (by decide) (fun q23 => ?_) (fun q23 => absurd q23 (by decide))
      refine se_iconst (pc := 64) 0 (by decide) dR_answer_64 ?_
      refine se_invV (pc := 65) (as := [.int 0, .int 1, .int 0]) (st := []) (vok sc) kR_goes dR_answer_65 ⟨wd_655, wd_657, sl_10, wd_3⟩ rfl hO rfl (Nat.le_of_ble_eq_true rfl) (Nat.le_of_ble_eq_true rfl) (g_goes (r := 0) 1 hR (by decide) (by decide)) (C2 := 0) (S2 := 0) (by omega) (by omega) (fun v65 h65 _ q65 => ?_) (fun x hx => absurd hx List.not_mem_nil) (fun v65 h65 _ q65 => ?_)
      rotate_left
      · cases q65.2.2
      obtain ⟨hR9, hf9, q65⟩ := q65
      cases q65
      have hO9 := hR9.1
      rw [hI.1, hI.2.2.1] at hO9
      refine se_if_ne (pc := 68) (tgt := 73) dR_answer_68 (by decide) (fun q24 => absurd q24 (by decide)) (fun q24 => ?_)
      refine se_iconst (pc := 71) 0 (by decide) dR_answer_71 ?_
      exact se_zret (pc := 72) dR_answer_72 rfl (by first | decide | exact st_b01 _) (rPi_no 0 (by clear hR hO hR9 hO9 hf9; simp_all [sp_answer]) hR9 hf9)
    · cases q38
      refine se_iload (pc := 41) rfl dR_answer_41 ?_
      refine se_if_eq (pc := 43) (tgt := 64) dR_answer_43 (by decide) (fun q25 => ?_) (fun q25 => absurd q25 (by decide))
      refine se_iconst (pc := 64) 0 (by decide) dR_answer_64 ?_
      refine se_invV (pc := 65) (as := [.int 0, .int 0, .int 0]) (st := []) (vok sc) kR_goes dR_answer_65 ⟨wd_655, wd_657, sl_10, wd_3⟩ rfl hO rfl (Nat.le_of_ble_eq_true rfl) (Nat.le_of_ble_eq_true rfl) (g_goes (r := 0) 1 hR (by decide) (by decide)) (C2 := 0) (S2 := 0) (by omega) (by omega) (fun v65 h65 _ q65 => ?_) (fun x hx => absurd hx List.not_mem_nil) (fun v65 h65 _ q65 => ?_)
      rotate_left
      · cases q65.2.2
      obtain ⟨hR9, hf9, q65⟩ := q65
      cases q65
      have hO9 := hR9.1
      rw [hI.1, hI.2.2.1] at hO9
      refine se_if_ne (pc := 68) (tgt := 73) dR_answer_68 (by decide) (fun q26 => absurd q26 (by decide)) (fun q26 => ?_)
      refine se_iconst (pc := 71) 0 (by decide) dR_answer_71 ?_
      exact se_zret (pc := 72) dR_answer_72 rfl (by first | decide | exact st_b01 _) (rPi_no 0 (by clear hR hO hR9 hO9 hf9; simp_all [sp_answer]) hR9 hf9)
set_option maxHeartbeats 1000000 in
set_option maxRecDepth 100000 in
theorem r_item {v i w : Int32} (hd : 6 ≤ d) (hR : is_R S t h) (hI : st_I S) (hQ : st_Q N S) (hN : N < 2 ^ 31) : se_W (vG sc) l d mR_item 0 (se_ent 5 [.ref 41, .int v, .int i, .int w]) [] h 0 0 (rPi h (sp_item S v i w)) := by
  obtain ⟨d, rfl⟩ : ∃ e, d = e + 1 := ⟨d - 1, by omega⟩
  show se_W (vG sc) l (d + 1) mR_item 0 [some (.ref 41), some (.int v), some (.int i), some (.int w), none] [] h 0 0 _
  have hn20 := hI.2.1
  have hd100 := hI.2.2.2.1
  have hO := hR.1
  rw [hI.1, hI.2.2.1] at hO
  rcases st_sw6 w with hsw | rfl | rfl | rfl | rfl | rfl | rfl
  · have hw := sw6_in hsw.1
    refine se_aload_n (pc := 0) rfl dR_item_0 ?_
    refine se_aload_n (pc := 1) rfl dR_item_1 ?_
    refine se_iload_n (pc := 2) rfl dR_item_2 ?_
    refine se_invV (pc := 3) (as := [.int v]) (st := [.ref 41]) (vok sc) kR_isVehicle dR_item_3 ⟨wd_674, wd_676, sl_11, wd_3⟩ rfl hO rfl (Nat.le_of_ble_eq_true rfl) (Nat.le_of_ble_eq_true rfl) (x_R_isVehicle (by omega) hR hI) (C2 := 0) (S2 := 0) (by omega) (by omega) (fun v3 h3 _ q3 => ?_) (fun x hx => absurd hx List.not_mem_nil) (fun v3 h3 _ q3 => ?_)
    rotate_left
    · rcases q3.2 with ⟨_, _, _, _, e⟩ | ⟨_, e⟩ <;> cases e
    obtain ⟨h3e, q3⟩ := q3
    have h3f := h3e.symm
    subst h3f
    rcases q3 with ⟨jv, hxv, hjv, rfl, q3⟩ | ⟨hxv, q3⟩
    · cases q3
      refine se_if_eq (pc := 6) (tgt := 29) dR_item_6 (by decide) (fun q1 => absurd q1 (by decide)) (fun q1 => ?_)
      refine se_iload_n (pc := 9) rfl dR_item_9 ?_
      refine se_invS (pc := 10) (as := [.int i]) (st := [.ref 41]) (vok sc) kR_isItem dR_item_10 ⟨wd_663, wd_664, wd_3⟩ rfl (Nat.le_of_ble_eq_true rfl) (Nat.le_of_ble_eq_true rfl) (x_R_isItem (by omega)) (C2 := 0) (S2 := 0) (by omega) (by omega) (fun v10 h10 _ q10 => ?_) (fun x hx => absurd hx List.not_mem_nil) (fun v10 h10 _ q10 => ?_)
      rotate_left
      · rcases q10.2 with ⟨_, _, _, _, e⟩ | ⟨_, e⟩ <;> cases e
      obtain ⟨h10e, q10⟩ := q10
      have h10f := h10e.symm
      subst h10f
      rcases q10 with ⟨ji, hxi, hji, rfl, q10⟩ | ⟨hxi, q10⟩
      · cases q10
        refine se_if_eq (pc := 13) (tgt := 29) dR_item_13 (by decide) (fun q2 => absurd q2 (by decide)) (fun q2 => ?_)
        refine se_iload_n (pc := 16) rfl dR_item_16 ?_
        refine se_iconst (pc := 17) 0 (by decide) dR_item_17 ?_
        refine se_iconst (pc := 18) 5 (by decide) dR_item_18 ?_
        refine se_invS (pc := 19) (as := [.int w, .int 0, .int 5]) (st := [.ref 41]) (vok sc) kR_in dR_item_19 ⟨wd_652, wd_653, wd_3⟩ rfl (Nat.le_of_ble_eq_true rfl) (Nat.le_of_ble_eq_true rfl) (x_R_inc false hw) (C2 := 0) (S2 := 0) (by omega) (by omega) (fun v19 h19 _ q19 => ?_) (fun x hx => absurd hx List.not_mem_nil) (fun v19 h19 _ q19 => ?_)
        rotate_left
        · cases q19.2
        obtain ⟨h19e, q19⟩ := q19
        have h19f := h19e.symm
        subst h19f
        cases q19
        show se_W _ _ _ _ _ _ (.int 0 :: _) _ _ _ _
        refine se_if_eq (pc := 22) (tgt := 29) dR_item_22 (by decide) (fun q3 => ?_) (fun q3 => absurd q3 (by decide))
        refine se_iconst (pc := 29) 0 (by decide) dR_item_29 ?_
        refine se_iconst (pc := 30) 1 (by decide) dR_item_30 ?_
        refine se_iconst (pc := 31) 1 (by decide) dR_item_31 ?_
        refine se_invV (pc := 32) (as := [.int 0, .int 1, .int 1]) (st := []) (vok sc) kR_goes dR_item_32 ⟨wd_655, wd_657, sl_10, wd_3⟩ rfl hO rfl (Nat.le_of_ble_eq_true rfl) (Nat.le_of_ble_eq_true rfl) (g_goes (r := 0) 1 hR (by decide) (by decide)) (C2 := 0) (S2 := 0) (by omega) (by omega) (fun v32 h32 _ q32 => ?_) (fun x hx => absurd hx List.not_mem_nil) (fun v32 h32 _ q32 => ?_)
        rotate_left
        · cases q32.2.2
        obtain ⟨hR9, hf9, q32⟩ := q32
        cases q32
        have hO9 := hR9.1
        rw [hI.1, hI.2.2.1] at hO9
        refine se_if_ne (pc := 35) (tgt := 40) dR_item_35 (by decide) (fun q4 => absurd q4 (by decide)) (fun q4 => ?_)
        refine se_iconst (pc := 38) 0 (by decide) dR_item_38 ?_
        exact se_iret (pc := 39) dR_item_39 rfl (rPi_no 0 (by clear hR hO hR9 hO9 hf9; (try have hun := q_un hQ jv ji); (try simp only [st_b0] at *); simp_all [sp_item, st_b, st_an]) hR9 hf9)
      · cases q10
        refine se_if_eq (pc := 13) (tgt := 29) dR_item_13 (by decide) (fun q5 => ?_) (fun q5 => absurd q5 (by decide))
        refine se_iconst (pc := 29) 0 (by decide) dR_item_29 ?_
        refine se_iconst (pc := 30) 1 (by decide) dR_item_30 ?_
        refine se_iconst (pc := 31) 1 (by decide) dR_item_31 ?_
        refine se_invV (pc := 32) (as := [.int 0, .int 1, .int 1]) (st := []) (vok sc) kR_goes dR_item_32 ⟨wd_655, wd_657, sl_10, wd_3⟩ rfl hO rfl (Nat.le_of_ble_eq_true rfl) (Nat.le_of_ble_eq_true rfl) (g_goes (r := 0) 1 hR (by decide) (by decide)) (C2 := 0) (S2 := 0) (by omega) (by omega) (fun v32 h32 _ q32 => ?_) (fun x hx => absurd hx List.not_mem_nil) (fun v32 h32 _ q32 => ?_)
        rotate_left
        · cases q32.2.2
        obtain ⟨hR9, hf9, q32⟩ := q32
        cases q32
        have hO9 := hR9.1
        rw [hI.1, hI.2.2.1] at hO9
        refine se_if_ne (pc := 35) (tgt := 40) dR_item_35 (by decide) (fun q6 => absurd q6 (by decide)) (fun q6 => ?_)
        refine se_iconst (pc := 38) 0 (by decide) dR_item_38 ?_
        exact se_iret (pc := 39) dR_item_39 rfl (rPi_no 0 (by clear hR hO hR9 hO9 hf9; (try have hun := q_un hQ jv ji); (try simp only [st_b0] at *); simp_all [sp_item, st_b, st_an]) hR9 hf9)
    · cases q3
      refine se_if_eq (pc := 6) (tgt := 29) dR_item_6 (by decide) (fun q7 => ?_) (fun q7 => absurd q7 (by decide))
      refine se_iconst (pc := 29) 0 (by decide) dR_item_29 ?_
      refine se_iconst (pc := 30) 1 (by decide) dR_item_30 ?_
      refine se_iconst (pc := 31) 1 (by decide) dR_item_31 ?_
      refine se_invV (pc := 32) (as := [.int 0, .int 1, .int 1]) (st := []) (vok sc) kR_goes dR_item_32 ⟨wd_655, wd_657, sl_10, wd_3⟩ rfl hO rfl (Nat.le_of_ble_eq_true rfl) (Nat.le_of_ble_eq_true rfl) (g_goes (r := 0) 1 hR (by decide) (by decide)) (C2 := 0) (S2 := 0) (by omega) (by omega) (fun v32 h32 _ q32 => ?_) (fun x hx => absurd hx List.not_mem_nil) (fun v32 h32 _ q32 => ?_)
      rotate_left
      · cases q32.2.2
      obtain ⟨hR9, hf9, q32⟩ := q32
      cases q32
      have hO9 := hR9.1
      rw [hI.1, hI.2.2.1] at hO9
      refine se_if_ne (pc := 35) (tgt := 40) dR_item_35 (by decide) (fun q8 => absurd q8 (by decide)) (fun q8 => ?_)
      refine se_iconst (pc := 38) 0 (by decide) dR_item_38 ?_
      exact se_iret (pc := 39) dR_item_39 rfl (rPi_no 0 (by clear hR hO hR9 hO9 hf9; (try have hun := q_un hQ jv ji); (try simp only [st_b0] at *); simp_all [sp_item, st_b, st_an]) hR9 hf9)
  · refine se_aload_n (pc := 0) rfl dR_item_0 ?_
    refine se_aload_n (pc := 1) rfl dR_item_1 ?_
    refine se_iload_n (pc := 2) rfl dR_item_2 ?_
    refine se_invV (pc := 3) (as := [.int v]) (st := [.ref 41]) (vok sc) kR_isVehicle dR_item_3 ⟨wd_674, wd_676, sl_11, wd_3⟩ rfl hO rfl (Nat.le_of_ble_eq_true rfl) (Nat.le_of_ble_eq_true rfl) (x_R_isVehicle (by omega) hR hI) (C2 := 0) (S2 := 0) (by omega) (by omega) (fun v3 h3 _ q3 => ?_) (fun x hx => absurd hx List.not_mem_nil) (fun v3 h3 _ q3 => ?_)
    rotate_left
    · rcases q3.2 with ⟨_, _, _, _, e⟩ | ⟨_, e⟩ <;> cases e
    obtain ⟨h3e, q3⟩ := q3
    have h3f := h3e.symm
    subst h3f
    rcases q3 with ⟨jv, hxv, hjv, rfl, q3⟩ | ⟨hxv, q3⟩
    · cases q3
      refine se_if_eq (pc := 6) (tgt := 29) dR_item_6 (by decide) (fun q1 => absurd q1 (by decide)) (fun q1 => ?_)
      refine se_iload_n (pc := 9) rfl dR_item_9 ?_
      refine se_invS (pc := 10) (as := [.int i]) (st := [.ref 41]) (vok sc) kR_isItem dR_item_10 ⟨wd_663, wd_664, wd_3⟩ rfl (Nat.le_of_ble_eq_true rfl) (Nat.le_of_ble_eq_true rfl) (x_R_isItem (by omega)) (C2 := 0) (S2 := 0) (by omega) (by omega) (fun v10 h10 _ q10 => ?_) (fun x hx => absurd hx List.not_mem_nil) (fun v10 h10 _ q10 => ?_)
      rotate_left
      · rcases q10.2 with ⟨_, _, _, _, e⟩ | ⟨_, e⟩ <;> cases e
      obtain ⟨h10e, q10⟩ := q10
      have h10f := h10e.symm
      subst h10f
      rcases q10 with ⟨ji, hxi, hji, rfl, q10⟩ | ⟨hxi, q10⟩
      · cases q10
        refine se_if_eq (pc := 13) (tgt := 29) dR_item_13 (by decide) (fun q2 => absurd q2 (by decide)) (fun q2 => ?_)
        refine se_iload_n (pc := 16) rfl dR_item_16 ?_
        refine se_iconst (pc := 17) 0 (by decide) dR_item_17 ?_
        refine se_iconst (pc := 18) 5 (by decide) dR_item_18 ?_
        refine se_invS (pc := 19) (as := [.int 0, .int 0, .int 5]) (st := [.ref 41]) (vok sc) kR_in dR_item_19 ⟨wd_652, wd_653, wd_3⟩ rfl (Nat.le_of_ble_eq_true rfl) (Nat.le_of_ble_eq_true rfl) (x_R_inc true (by decide)) (C2 := 0) (S2 := 0) (by omega) (by omega) (fun v19 h19 _ q19 => ?_) (fun x hx => absurd hx List.not_mem_nil) (fun v19 h19 _ q19 => ?_)
        rotate_left
        · cases q19.2
        obtain ⟨h19e, q19⟩ := q19
        have h19f := h19e.symm
        subst h19f
        cases q19
        show se_W _ _ _ _ _ _ (.int 1 :: _) _ _ _ _
        refine se_if_eq (pc := 22) (tgt := 29) dR_item_22 (by decide) (fun q3 => absurd q3 (by decide)) (fun q3 => ?_)
        refine se_iconst (pc := 25) 1 (by decide) dR_item_25 ?_
        refine se_goto (pc := 26) (tgt := 30) dR_item_26 (by decide) ?_
        refine se_iconst (pc := 30) 1 (by decide) dR_item_30 ?_
        refine se_iconst (pc := 31) 1 (by decide) dR_item_31 ?_
        refine se_invV (pc := 32) (as := [.int 1, .int 1, .int 1]) (st := []) (vok sc) kR_goes dR_item_32 ⟨wd_655, wd_657, sl_10, wd_3⟩ rfl hO rfl (Nat.le_of_ble_eq_true rfl) (Nat.le_of_ble_eq_true rfl) (g_goes (r := 1) 0 hR (by decide) (by decide)) (C2 := 0) (S2 := 0) (by omega) (by omega) (fun v32 h32 _ q32 => ?_) (fun x hx => absurd hx List.not_mem_nil) (fun v32 h32 _ q32 => ?_)
        rotate_left
        · cases q32.2.2
        obtain ⟨hR9, hf9, q32⟩ := q32
        cases q32
        have hO9 := hR9.1
        rw [hI.1, hI.2.2.1] at hO9
        refine se_if_ne (pc := 35) (tgt := 40) dR_item_35 (by decide) (fun q4 => ?_) (fun q4 => absurd q4 (by decide))
        refine se_bipush (pc := 40) 10 (by decide) dR_item_40 ?_
        refine se_iload_n (pc := 42) rfl dR_item_42 ?_
        refine se_imul (pc := 43) dR_item_43 ?_
        refine se_iload_n (pc := 44) rfl dR_item_44 ?_
        refine se_iadd (pc := 45) dR_item_45 ?_
        rw [nx10]
        refine se_istore (pc := 46) dR_item_46 (by decide) [some (.ref 41), some (.int (nI jv)), some (.int (nI ji)), some (.int 0), some (.int (nI (10 * jv + ji)))] rfl ?_
        refine se_iload_n (pc := 48) rfl dR_item_48 ?_
        refine se_if_ne (pc := 49) (tgt := 72) dR_item_49 (by decide) (fun q5 => absurd q5 (by decide)) (fun q5 => ?_)
        refine se_aload_n (pc := 52) rfl dR_item_52 ?_
        refine se_getf (pc := 53) clR 2 dR_item_53 wd_555 rfl (by decide) hO9 rfl ?_
        refine se_aload_n (pc := 56) rfl dR_item_56 ?_
        refine se_iload_n (pc := 57) rfl dR_item_57 ?_
        refine se_iload_n (pc := 58) rfl dR_item_58 ?_
        refine se_invV (pc := 59) (as := [.int (nI jv), .int (nI ji)]) (st := [.ref 42]) (vok sc) kR_rule dR_item_59 ⟨wd_683, wd_685, sl_12, wd_3⟩ rfl hO9 rfl (Nat.le_of_ble_eq_true rfl) (Nat.le_of_ble_eq_true rfl) (c_R_rule hR9 (q_kd hQ hjv) (by omega) (hI.2.2.2.2 _ hjv) hji) (C2 := 0) (S2 := 0) (by omega) (by omega) (fun v59 h59 _ q59 => ?_) (fun x hx => absurd hx List.not_mem_nil) (fun v59 h59 _ q59 => ?_)
        rotate_left
        · cases q59.2
        obtain ⟨h59e, q59⟩ := q59
        have h59f := h59e.symm
        subst h59f
        cases q59
        refine se_zaldN (pc := 62) 1 dR_item_62 rfl hR9.2.1 (by have := hI.2.2.2.2 jv hjv; omega) (by decide) ?_
        rw [rf_l_at (by omega)]
        refine se_if_eq (pc := 63) (tgt := 70) dR_item_63 (by decide) (fun q6 => ?_) (fun q6 => ?_)
        · refine se_iconst (pc := 70) 0 (by decide) dR_item_70 ?_
          exact se_iret (pc := 71) dR_item_71 rfl (rPi_ok (by clear hR hO hR9 hO9 hf9; (try have hun := q_un hQ jv ji); (try simp only [st_b0] at *); simp_all [sp_item, st_b, st_an]) hR9 hf9)
        · refine se_iconst (pc := 66) 1 (by decide) dR_item_66 ?_
          refine se_goto (pc := 67) (tgt := 71) dR_item_67 (by decide) ?_
          exact se_iret (pc := 71) dR_item_71 rfl (rPi_ok (by clear hR hO hR9 hO9 hf9; (try have hun := q_un hQ jv ji); (try simp only [st_b0] at *); simp_all [sp_item, st_b, st_an]) hR9 hf9)
      · cases q10
        refine se_if_eq (pc := 13) (tgt := 29) dR_item_13 (by decide) (fun q7 => ?_) (fun q7 => absurd q7 (by decide))
        refine se_iconst (pc := 29) 0 (by decide) dR_item_29 ?_
        refine se_iconst (pc := 30) 1 (by decide) dR_item_30 ?_
        refine se_iconst (pc := 31) 1 (by decide) dR_item_31 ?_
        refine se_invV (pc := 32) (as := [.int 0, .int 1, .int 1]) (st := []) (vok sc) kR_goes dR_item_32 ⟨wd_655, wd_657, sl_10, wd_3⟩ rfl hO rfl (Nat.le_of_ble_eq_true rfl) (Nat.le_of_ble_eq_true rfl) (g_goes (r := 0) 1 hR (by decide) (by decide)) (C2 := 0) (S2 := 0) (by omega) (by omega) (fun v32 h32 _ q32 => ?_) (fun x hx => absurd hx List.not_mem_nil) (fun v32 h32 _ q32 => ?_)
        rotate_left
        · cases q32.2.2
        obtain ⟨hR9, hf9, q32⟩ := q32
        cases q32
        have hO9 := hR9.1
        rw [hI.1, hI.2.2.1] at hO9
        refine se_if_ne (pc := 35) (tgt := 40) dR_item_35 (by decide) (fun q8 => absurd q8 (by decide)) (fun q8 => ?_)
        refine se_iconst (pc := 38) 0 (by decide) dR_item_38 ?_
        exact se_iret (pc := 39) dR_item_39 rfl (rPi_no 0 (by clear hR hO hR9 hO9 hf9; (try have hun := q_un hQ jv ji); (try simp only [st_b0] at *); simp_all [sp_item, st_b, st_an]) hR9 hf9)
    · cases q3
      refine se_if_eq (pc := 6) (tgt := 29) dR_item_6 (by decide) (fun q9 => ?_) (fun q9 => absurd q9 (by decide))
      refine se_iconst (pc := 29) 0 (by decide) dR_item_29 ?_
      refine se_iconst (pc := 30) 1 (by decide) dR_item_30 ?_
      refine se_iconst (pc := 31) 1 (by decide) dR_item_31 ?_
      refine se_invV (pc := 32) (as := [.int 0, .int 1, .int 1]) (st := []) (vok sc) kR_goes dR_item_32 ⟨wd_655, wd_657, sl_10, wd_3⟩ rfl hO rfl (Nat.le_of_ble_eq_true rfl) (Nat.le_of_ble_eq_true rfl) (g_goes (r := 0) 1 hR (by decide) (by decide)) (C2 := 0) (S2 := 0) (by omega) (by omega) (fun v32 h32 _ q32 => ?_) (fun x hx => absurd hx List.not_mem_nil) (fun v32 h32 _ q32 => ?_)
      rotate_left
      · cases q32.2.2
      obtain ⟨hR9, hf9, q32⟩ := q32
      cases q32
      have hO9 := hR9.1
      rw [hI.1, hI.2.2.1] at hO9
      refine se_if_ne (pc := 35) (tgt := 40) dR_item_35 (by decide) (fun q10 => absurd q10 (by decide)) (fun q10 => ?_)
      refine se_iconst (pc := 38) 0 (by decide) dR_item_38 ?_
      exact se_iret (pc := 39) dR_item_39 rfl (rPi_no 0 (by clear hR hO hR9 hO9 hf9; (try have hun := q_un hQ jv ji); (try simp only [st_b0] at *); simp_all [sp_item, st_b, st_an]) hR9 hf9)
  · refine se_aload_n (pc := 0) rfl dR_item_0 ?_
    refine se_aload_n (pc := 1) rfl dR_item_1 ?_
    refine se_iload_n (pc := 2) rfl dR_item_2 ?_
    refine se_invV (pc := 3) (as := [.int v]) (st := [.ref 41]) (vok sc) kR_isVehicle dR_item_3 ⟨wd_674, wd_676, sl_11, wd_3⟩ rfl hO rfl (Nat.le_of_ble_eq_true rfl) (Nat.le_of_ble_eq_true rfl) (x_R_isVehicle (by omega) hR hI) (C2 := 0) (S2 := 0) (by omega) (by omega) (fun v3 h3 _ q3 => ?_) (fun x hx => absurd hx List.not_mem_nil) (fun v3 h3 _ q3 => ?_)
    rotate_left
    · rcases q3.2 with ⟨_, _, _, _, e⟩ | ⟨_, e⟩ <;> cases e
    obtain ⟨h3e, q3⟩ := q3
    have h3f := h3e.symm
    subst h3f
    rcases q3 with ⟨jv, hxv, hjv, rfl, q3⟩ | ⟨hxv, q3⟩
    · cases q3
      refine se_if_eq (pc := 6) (tgt := 29) dR_item_6 (by decide) (fun q1 => absurd q1 (by decide)) (fun q1 => ?_)
      refine se_iload_n (pc := 9) rfl dR_item_9 ?_
      refine se_invS (pc := 10) (as := [.int i]) (st := [.ref 41]) (vok sc) kR_isItem dR_item_10 ⟨wd_663, wd_664, wd_3⟩ rfl (Nat.le_of_ble_eq_true rfl) (Nat.le_of_ble_eq_true rfl) (x_R_isItem (by omega)) (C2 := 0) (S2 := 0) (by omega) (by omega) (fun v10 h10 _ q10 => ?_) (fun x hx => absurd hx List.not_mem_nil) (fun v10 h10 _ q10 => ?_)
      rotate_left
      · rcases q10.2 with ⟨_, _, _, _, e⟩ | ⟨_, e⟩ <;> cases e
      obtain ⟨h10e, q10⟩ := q10
      have h10f := h10e.symm
      subst h10f
      rcases q10 with ⟨ji, hxi, hji, rfl, q10⟩ | ⟨hxi, q10⟩
      · cases q10
        refine se_if_eq (pc := 13) (tgt := 29) dR_item_13 (by decide) (fun q2 => absurd q2 (by decide)) (fun q2 => ?_)
        refine se_iload_n (pc := 16) rfl dR_item_16 ?_
        refine se_iconst (pc := 17) 0 (by decide) dR_item_17 ?_
        refine se_iconst (pc := 18) 5 (by decide) dR_item_18 ?_
        refine se_invS (pc := 19) (as := [.int 1, .int 0, .int 5]) (st := [.ref 41]) (vok sc) kR_in dR_item_19 ⟨wd_652, wd_653, wd_3⟩ rfl (Nat.le_of_ble_eq_true rfl) (Nat.le_of_ble_eq_true rfl) (x_R_inc true (by decide)) (C2 := 0) (S2 := 0) (by omega) (by omega) (fun v19 h19 _ q19 => ?_) (fun x hx => absurd hx List.not_mem_nil) (fun v19 h19 _ q19 => ?_)
        rotate_left
        · cases q19.2
        obtain ⟨h19e, q19⟩ := q19
        have h19f := h19e.symm
        subst h19f
        cases q19
        show se_W _ _ _ _ _ _ (.int 1 :: _) _ _ _ _
        refine se_if_eq (pc := 22) (tgt := 29) dR_item_22 (by decide) (fun q3 => absurd q3 (by decide)) (fun q3 => ?_)
        refine se_iconst (pc := 25) 1 (by decide) dR_item_25 ?_
        refine se_goto (pc := 26) (tgt := 30) dR_item_26 (by decide) ?_
        refine se_iconst (pc := 30) 1 (by decide) dR_item_30 ?_
        refine se_iconst (pc := 31) 1 (by decide) dR_item_31 ?_
        refine se_invV (pc := 32) (as := [.int 1, .int 1, .int 1]) (st := []) (vok sc) kR_goes dR_item_32 ⟨wd_655, wd_657, sl_10, wd_3⟩ rfl hO rfl (Nat.le_of_ble_eq_true rfl) (Nat.le_of_ble_eq_true rfl) (g_goes (r := 1) 0 hR (by decide) (by decide)) (C2 := 0) (S2 := 0) (by omega) (by omega) (fun v32 h32 _ q32 => ?_) (fun x hx => absurd hx List.not_mem_nil) (fun v32 h32 _ q32 => ?_)
        rotate_left
        · cases q32.2.2
        obtain ⟨hR9, hf9, q32⟩ := q32
        cases q32
        have hO9 := hR9.1
        rw [hI.1, hI.2.2.1] at hO9
        refine se_if_ne (pc := 35) (tgt := 40) dR_item_35 (by decide) (fun q4 => ?_) (fun q4 => absurd q4 (by decide))
        refine se_bipush (pc := 40) 10 (by decide) dR_item_40 ?_
        refine se_iload_n (pc := 42) rfl dR_item_42 ?_
        refine se_imul (pc := 43) dR_item_43 ?_
        refine se_iload_n (pc := 44) rfl dR_item_44 ?_
        refine se_iadd (pc := 45) dR_item_45 ?_
        rw [nx10]
        refine se_istore (pc := 46) dR_item_46 (by decide) [some (.ref 41), some (.int (nI jv)), some (.int (nI ji)), some (.int 1), some (.int (nI (10 * jv + ji)))] rfl ?_
        refine se_iload_n (pc := 48) rfl dR_item_48 ?_
        refine se_if_ne (pc := 49) (tgt := 72) dR_item_49 (by decide) (fun q5 => ?_) (fun q5 => absurd q5 (by decide))
        refine se_iload_n (pc := 72) rfl dR_item_72 ?_
        refine se_iconst (pc := 73) 3 (by decide) dR_item_73 ?_
        refine se_icmp_le (pc := 74) (tgt := 109) dR_item_74 (by decide) (fun q6 => ?_) (fun q6 => absurd q6 (by decide))
        refine se_aload_n (pc := 109) rfl dR_item_109 ?_
        refine se_getf (pc := 110) clR 20 dR_item_110 wd_573 rfl (by decide) hO9 rfl ?_
        refine se_iload (pc := 113) rfl dR_item_113 ?_
        refine se_zaldN (pc := 115) 1 dR_item_115 rfl hR9.2.2.2.2.2.2.2.2.2.2.2.2.2.2.2.2.2.2.1 (by omega) (by decide) ?_
        rw [rf_an_at (by omega)]
        refine se_if_ne (pc := 116) (tgt := 130) dR_item_116 (by decide) (fun q7 => ?_) (fun q7 => ?_)
        · refine se_iload_n (pc := 130) rfl dR_item_130 ?_
          refine se_iconst (pc := 131) 1 (by decide) dR_item_131 ?_
          refine se_icmp_ne (pc := 132) (tgt := 145) dR_item_132 (by decide) (fun q8 => absurd q8 (by decide)) (fun q8 => ?_)
          refine se_aload_n (pc := 135) rfl dR_item_135 ?_
          refine se_getf (pc := 136) clR 21 dR_item_136 wd_574 rfl (by decide) hO9 rfl ?_
          refine se_iload (pc := 139) rfl dR_item_139 ?_
          refine se_ialdN (pc := 141) 0 dR_item_141 rfl hR9.2.2.2.2.2.2.2.2.2.2.2.2.2.2.2.2.2.2.2.1 (by omega) (by decide) ?_
          rw [rf_l_at (by omega)]
          refine se_goto (pc := 142) (tgt := 167) dR_item_142 (by decide) ?_
          exact se_iret (pc := 167) dR_item_167 rfl (rPi_ok (by clear hR hO hR9 hO9 hf9; (try have hun := q_un hQ jv ji); (try simp only [st_b0] at *); simp_all [sp_item, st_b, st_an]) hR9 hf9)
        · refine se_iload_n (pc := 119) rfl dR_item_119 ?_
          refine se_iconst (pc := 120) 1 (by decide) dR_item_120 ?_
          refine se_icmp_ne (pc := 121) (tgt := 128) dR_item_121 (by decide) (fun q9 => absurd q9 (by decide)) (fun q9 => ?_)
          refine se_iconst (pc := 124) 0 (by decide) dR_item_124 ?_
          refine se_goto (pc := 125) (tgt := 129) dR_item_125 (by decide) ?_
          exact se_iret (pc := 129) dR_item_129 rfl (rPi_ok (by clear hR hO hR9 hO9 hf9; (try have hun := q_un hQ jv ji); (try simp only [st_b0] at *); simp_all [sp_item, st_b, st_an]) hR9 hf9)
      · cases q10
        refine se_if_eq (pc := 13) (tgt := 29) dR_item_13 (by decide) (fun q10 => ?_) (fun q10 => absurd q10 (by decide))
        refine se_iconst (pc := 29) 0 (by decide) dR_item_29 ?_
        refine se_iconst (pc := 30) 1 (by decide) dR_item_30 ?_
        refine se_iconst (pc := 31) 1 (by decide) dR_item_31 ?_
        refine se_invV (pc := 32) (as := [.int 0, .int 1, .int 1]) (st := []) (vok sc) kR_goes dR_item_32 ⟨wd_655, wd_657, sl_10, wd_3⟩ rfl hO rfl (Nat.le_of_ble_eq_true rfl) (Nat.le_of_ble_eq_true rfl) (g_goes (r := 0) 1 hR (by decide) (by decide)) (C2 := 0) (S2 := 0) (by omega) (by omega) (fun v32 h32 _ q32 => ?_) (fun x hx => absurd hx List.not_mem_nil) (fun v32 h32 _ q32 => ?_)
        rotate_left
        · cases q32.2.2
        obtain ⟨hR9, hf9, q32⟩ := q32
        cases q32
        have hO9 := hR9.1
        rw [hI.1, hI.2.2.1] at hO9
        refine se_if_ne (pc := 35) (tgt := 40) dR_item_35 (by decide) (fun q11 => absurd q11 (by decide)) (fun q11 => ?_)
        refine se_iconst (pc := 38) 0 (by decide) dR_item_38 ?_
        exact se_iret (pc := 39) dR_item_39 rfl (rPi_no 0 (by clear hR hO hR9 hO9 hf9; (try have hun := q_un hQ jv ji); (try simp only [st_b0] at *); simp_all [sp_item, st_b, st_an]) hR9 hf9)
    · cases q3
      refine se_if_eq (pc := 6) (tgt := 29) dR_item_6 (by decide) (fun q12 => ?_) (fun q12 => absurd q12 (by decide))
      refine se_iconst (pc := 29) 0 (by decide) dR_item_29 ?_
      refine se_iconst (pc := 30) 1 (by decide) dR_item_30 ?_
      refine se_iconst (pc := 31) 1 (by decide) dR_item_31 ?_
      refine se_invV (pc := 32) (as := [.int 0, .int 1, .int 1]) (st := []) (vok sc) kR_goes dR_item_32 ⟨wd_655, wd_657, sl_10, wd_3⟩ rfl hO rfl (Nat.le_of_ble_eq_true rfl) (Nat.le_of_ble_eq_true rfl) (g_goes (r := 0) 1 hR (by decide) (by decide)) (C2 := 0) (S2 := 0) (by omega) (by omega) (fun v32 h32 _ q32 => ?_) (fun x hx => absurd hx List.not_mem_nil) (fun v32 h32 _ q32 => ?_)
      rotate_left
      · cases q32.2.2
      obtain ⟨hR9, hf9, q32⟩ := q32
      cases q32
      have hO9 := hR9.1
      rw [hI.1, hI.2.2.1] at hO9
      refine se_if_ne (pc := 35) (tgt := 40) dR_item_35 (by decide) (fun q13 => absurd q13 (by decide)) (fun q13 => ?_)
      refine se_iconst (pc := 38) 0 (by decide) dR_item_38 ?_
      exact se_iret (pc := 39) dR_item_39 rfl (rPi_no 0 (by clear hR hO hR9 hO9 hf9; (try have hun := q_un hQ jv ji); (try simp only [st_b0] at *); simp_all [sp_item, st_b, st_an]) hR9 hf9)
  · refine se_aload_n (pc := 0) rfl dR_item_0 ?_
    refine se_aload_n (pc := 1) rfl dR_item_1 ?_
    refine se_iload_n (pc := 2) rfl dR_item_2 ?_
    refine se_invV (pc := 3) (as := [.int v]) (st := [.ref 41]) (vok sc) kR_isVehicle dR_item_3 ⟨wd_674, wd_676, sl_11, wd_3⟩ rfl hO rfl (Nat.le_of_ble_eq_true rfl) (Nat.le_of_ble_eq_true rfl) (x_R_isVehicle (by omega) hR hI) (C2 := 0) (S2 := 0) (by omega) (by omega) (fun v3 h3 _ q3 => ?_) (fun x hx => absurd hx List.not_mem_nil) (fun v3 h3 _ q3 => ?_)
    rotate_left
    · rcases q3.2 with ⟨_, _, _, _, e⟩ | ⟨_, e⟩ <;> cases e
    obtain ⟨h3e, q3⟩ := q3
    have h3f := h3e.symm
    subst h3f
    rcases q3 with ⟨jv, hxv, hjv, rfl, q3⟩ | ⟨hxv, q3⟩
    · cases q3
      refine se_if_eq (pc := 6) (tgt := 29) dR_item_6 (by decide) (fun q1 => absurd q1 (by decide)) (fun q1 => ?_)
      refine se_iload_n (pc := 9) rfl dR_item_9 ?_
      refine se_invS (pc := 10) (as := [.int i]) (st := [.ref 41]) (vok sc) kR_isItem dR_item_10 ⟨wd_663, wd_664, wd_3⟩ rfl (Nat.le_of_ble_eq_true rfl) (Nat.le_of_ble_eq_true rfl) (x_R_isItem (by omega)) (C2 := 0) (S2 := 0) (by omega) (by omega) (fun v10 h10 _ q10 => ?_) (fun x hx => absurd hx List.not_mem_nil) (fun v10 h10 _ q10 => ?_)
      rotate_left
      · rcases q10.2 with ⟨_, _, _, _, e⟩ | ⟨_, e⟩ <;> cases e
      obtain ⟨h10e, q10⟩ := q10
      have h10f := h10e.symm
      subst h10f
      rcases q10 with ⟨ji, hxi, hji, rfl, q10⟩ | ⟨hxi, q10⟩
      · cases q10
        refine se_if_eq (pc := 13) (tgt := 29) dR_item_13 (by decide) (fun q2 => absurd q2 (by decide)) (fun q2 => ?_)
        refine se_iload_n (pc := 16) rfl dR_item_16 ?_
        refine se_iconst (pc := 17) 0 (by decide) dR_item_17 ?_
        refine se_iconst (pc := 18) 5 (by decide) dR_item_18 ?_
        refine se_invS (pc := 19) (as := [.int 2, .int 0, .int 5]) (st := [.ref 41]) (vok sc) kR_in dR_item_19 ⟨wd_652, wd_653, wd_3⟩ rfl (Nat.le_of_ble_eq_true rfl) (Nat.le_of_ble_eq_true rfl) (x_R_inc true (by decide)) (C2 := 0) (S2 := 0) (by omega) (by omega) (fun v19 h19 _ q19 => ?_) (fun x hx => absurd hx List.not_mem_nil) (fun v19 h19 _ q19 => ?_)
        rotate_left
        · cases q19.2
        obtain ⟨h19e, q19⟩ := q19
        have h19f := h19e.symm
        subst h19f
        cases q19
        show se_W _ _ _ _ _ _ (.int 1 :: _) _ _ _ _
        refine se_if_eq (pc := 22) (tgt := 29) dR_item_22 (by decide) (fun q3 => absurd q3 (by decide)) (fun q3 => ?_)
        refine se_iconst (pc := 25) 1 (by decide) dR_item_25 ?_
        refine se_goto (pc := 26) (tgt := 30) dR_item_26 (by decide) ?_
        refine se_iconst (pc := 30) 1 (by decide) dR_item_30 ?_
        refine se_iconst (pc := 31) 1 (by decide) dR_item_31 ?_
        refine se_invV (pc := 32) (as := [.int 1, .int 1, .int 1]) (st := []) (vok sc) kR_goes dR_item_32 ⟨wd_655, wd_657, sl_10, wd_3⟩ rfl hO rfl (Nat.le_of_ble_eq_true rfl) (Nat.le_of_ble_eq_true rfl) (g_goes (r := 1) 0 hR (by decide) (by decide)) (C2 := 0) (S2 := 0) (by omega) (by omega) (fun v32 h32 _ q32 => ?_) (fun x hx => absurd hx List.not_mem_nil) (fun v32 h32 _ q32 => ?_)
        rotate_left
        · cases q32.2.2
        obtain ⟨hR9, hf9, q32⟩ := q32
        cases q32
        have hO9 := hR9.1
        rw [hI.1, hI.2.2.1] at hO9
        refine se_if_ne (pc := 35) (tgt := 40) dR_item_35 (by decide) (fun q4 => ?_) (fun q4 => absurd q4 (by decide))
        refine se_bipush (pc := 40) 10 (by decide) dR_item_40 ?_
        refine se_iload_n (pc := 42) rfl dR_item_42 ?_
        refine se_imul (pc := 43) dR_item_43 ?_
        refine se_iload_n (pc := 44) rfl dR_item_44 ?_
        refine se_iadd (pc := 45) dR_item_45 ?_
        rw [nx10]
        refine se_istore (pc := 46) dR_item_46 (by decide) [some (.ref 41), some (.int (nI jv)), some (.int (nI ji)), some (.int 2), some (.int (nI (10 * jv + ji)))] rfl ?_
        refine se_iload_n (pc := 48) rfl dR_item_48 ?_
        refine se_if_ne (pc := 49) (tgt := 72) dR_item_49 (by decide) (fun q5 => ?_) (fun q5 => absurd q5 (by decide))
        refine se_iload_n (pc := 72) rfl dR_item_72 ?_
        refine se_iconst (pc := 73) 3 (by decide) dR_item_73 ?_
        refine se_icmp_le (pc := 74) (tgt := 109) dR_item_74 (by decide) (fun q6 => ?_) (fun q6 => absurd q6 (by decide))
        refine se_aload_n (pc := 109) rfl dR_item_109 ?_
        refine se_getf (pc := 110) clR 20 dR_item_110 wd_573 rfl (by decide) hO9 rfl ?_
        refine se_iload (pc := 113) rfl dR_item_113 ?_
        refine se_zaldN (pc := 115) 1 dR_item_115 rfl hR9.2.2.2.2.2.2.2.2.2.2.2.2.2.2.2.2.2.2.1 (by omega) (by decide) ?_
        rw [rf_an_at (by omega)]
        refine se_if_ne (pc := 116) (tgt := 130) dR_item_116 (by decide) (fun q7 => ?_) (fun q7 => ?_)
        · refine se_iload_n (pc := 130) rfl dR_item_130 ?_
          refine se_iconst (pc := 131) 1 (by decide) dR_item_131 ?_
          refine se_icmp_ne (pc := 132) (tgt := 145) dR_item_132 (by decide) (fun q8 => ?_) (fun q8 => absurd q8 (by decide))
          refine se_iload_n (pc := 145) rfl dR_item_145 ?_
          refine se_iconst (pc := 146) 2 (by decide) dR_item_146 ?_
          refine se_icmp_ne (pc := 147) (tgt := 160) dR_item_147 (by decide) (fun q9 => absurd q9 (by decide)) (fun q9 => ?_)
          refine se_aload_n (pc := 150) rfl dR_item_150 ?_
          refine se_getf (pc := 151) clR 22 dR_item_151 wd_575 rfl (by decide) hO9 rfl ?_
          refine se_iload (pc := 154) rfl dR_item_154 ?_
          refine se_ialdN (pc := 156) 0 dR_item_156 rfl hR9.2.2.2.2.2.2.2.2.2.2.2.2.2.2.2.2.2.2.2.2.1 (by omega) (by decide) ?_
          rw [rf_at_at (by omega) (by assumption)]
          refine se_goto (pc := 157) (tgt := 167) dR_item_157 (by decide) ?_
          exact se_iret (pc := 167) dR_item_167 rfl (rPi_ok (by clear hR hO hR9 hO9 hf9; (try have hun := q_un hQ jv ji); (try simp only [st_b0] at *); simp_all [sp_item, st_b, st_an]) hR9 hf9)
        · refine se_iload_n (pc := 119) rfl dR_item_119 ?_
          refine se_iconst (pc := 120) 1 (by decide) dR_item_120 ?_
          refine se_icmp_ne (pc := 121) (tgt := 128) dR_item_121 (by decide) (fun q10 => ?_) (fun q10 => absurd q10 (by decide))
          refine se_iconst (pc := 128) (-1) (by decide) dR_item_128 ?_
          exact se_iret (pc := 129) dR_item_129 rfl (rPi_ok (by clear hR hO hR9 hO9 hf9; (try have hun := q_un hQ jv ji); (try simp only [st_b0] at *); simp_all [sp_item, st_b, st_an]) hR9 hf9)
      · cases q10
        refine se_if_eq (pc := 13) (tgt := 29) dR_item_13 (by decide) (fun q11 => ?_) (fun q11 => absurd q11 (by decide))
        refine se_iconst (pc := 29) 0 (by decide) dR_item_29 ?_
        refine se_iconst (pc := 30) 1 (by decide) dR_item_30 ?_
        refine se_iconst (pc := 31) 1 (by decide) dR_item_31 ?_
        refine se_invV (pc := 32) (as := [.int 0, .int 1, .int 1]) (st := []) (vok sc) kR_goes dR_item_32 ⟨wd_655, wd_657, sl_10, wd_3⟩ rfl hO rfl (Nat.le_of_ble_eq_true rfl) (Nat.le_of_ble_eq_true rfl) (g_goes (r := 0) 1 hR (by decide) (by decide)) (C2 := 0) (S2 := 0) (by omega) (by omega) (fun v32 h32 _ q32 => ?_) (fun x hx => absurd hx List.not_mem_nil) (fun v32 h32 _ q32 => ?_)
        rotate_left
        · cases q32.2.2
        obtain ⟨hR9, hf9, q32⟩ := q32
        cases q32
        have hO9 := hR9.1
        rw [hI.1, hI.2.2.1] at hO9
        refine se_if_ne (pc := 35) (tgt := 40) dR_item_35 (by decide) (fun q12 => absurd q12 (by decide)) (fun q12 => ?_)
        refine se_iconst (pc := 38) 0 (by decide) dR_item_38 ?_
        exact se_iret (pc := 39) dR_item_39 rfl (rPi_no 0 (by clear hR hO hR9 hO9 hf9; (try have hun := q_un hQ jv ji); (try simp only [st_b0] at *); simp_all [sp_item, st_b, st_an]) hR9 hf9)
    · cases q3
      refine se_if_eq (pc := 6) (tgt := 29) dR_item_6 (by decide) (fun q13 => ?_) (fun q13 => absurd q13 (by decide))
      refine se_iconst (pc := 29) 0 (by decide) dR_item_29 ?_
      refine se_iconst (pc := 30) 1 (by decide) dR_item_30 ?_
      refine se_iconst (pc := 31) 1 (by decide) dR_item_31 ?_
      refine se_invV (pc := 32) (as := [.int 0, .int 1, .int 1]) (st := []) (vok sc) kR_goes dR_item_32 ⟨wd_655, wd_657, sl_10, wd_3⟩ rfl hO rfl (Nat.le_of_ble_eq_true rfl) (Nat.le_of_ble_eq_true rfl) (g_goes (r := 0) 1 hR (by decide) (by decide)) (C2 := 0) (S2 := 0) (by omega) (by omega) (fun v32 h32 _ q32 => ?_) (fun x hx => absurd hx List.not_mem_nil) (fun v32 h32 _ q32 => ?_)
      rotate_left
      · cases q32.2.2
      obtain ⟨hR9, hf9, q32⟩ := q32
      cases q32
      have hO9 := hR9.1
      rw [hI.1, hI.2.2.1] at hO9
      refine se_if_ne (pc := 35) (tgt := 40) dR_item_35 (by decide) (fun q14 => absurd q14 (by decide)) (fun q14 => ?_)
      refine se_iconst (pc := 38) 0 (by decide) dR_item_38 ?_
      exact se_iret (pc := 39) dR_item_39 rfl (rPi_no 0 (by clear hR hO hR9 hO9 hf9; (try have hun := q_un hQ jv ji); (try simp only [st_b0] at *); simp_all [sp_item, st_b, st_an]) hR9 hf9)
  · refine se_aload_n (pc := 0) rfl dR_item_0 ?_
    refine se_aload_n (pc := 1) rfl dR_item_1 ?_
    refine se_iload_n (pc := 2) rfl dR_item_2 ?_
    refine se_invV (pc := 3) (as := [.int v]) (st := [.ref 41]) (vok sc) kR_isVehicle dR_item_3 ⟨wd_674, wd_676, sl_11, wd_3⟩ rfl hO rfl (Nat.le_of_ble_eq_true rfl) (Nat.le_of_ble_eq_true rfl) (x_R_isVehicle (by omega) hR hI) (C2 := 0) (S2 := 0) (by omega) (by omega) (fun v3 h3 _ q3 => ?_) (fun x hx => absurd hx List.not_mem_nil) (fun v3 h3 _ q3 => ?_)
    rotate_left
    · rcases q3.2 with ⟨_, _, _, _, e⟩ | ⟨_, e⟩ <;> cases e
    obtain ⟨h3e, q3⟩ := q3
    have h3f := h3e.symm
    subst h3f
    rcases q3 with ⟨jv, hxv, hjv, rfl, q3⟩ | ⟨hxv, q3⟩
    · cases q3
      refine se_if_eq (pc := 6) (tgt := 29) dR_item_6 (by decide) (fun q1 => absurd q1 (by decide)) (fun q1 => ?_)
      refine se_iload_n (pc := 9) rfl dR_item_9 ?_
      refine se_invS (pc := 10) (as := [.int i]) (st := [.ref 41]) (vok sc) kR_isItem dR_item_10 ⟨wd_663, wd_664, wd_3⟩ rfl (Nat.le_of_ble_eq_true rfl) (Nat.le_of_ble_eq_true rfl) (x_R_isItem (by omega)) (C2 := 0) (S2 := 0) (by omega) (by omega) (fun v10 h10 _ q10 => ?_) (fun x hx => absurd hx List.not_mem_nil) (fun v10 h10 _ q10 => ?_)
      rotate_left
      · rcases q10.2 with ⟨_, _, _, _, e⟩ | ⟨_, e⟩ <;> cases e
      obtain ⟨h10e, q10⟩ := q10
      have h10f := h10e.symm
      subst h10f
      rcases q10 with ⟨ji, hxi, hji, rfl, q10⟩ | ⟨hxi, q10⟩
      · cases q10
        refine se_if_eq (pc := 13) (tgt := 29) dR_item_13 (by decide) (fun q2 => absurd q2 (by decide)) (fun q2 => ?_)
        refine se_iload_n (pc := 16) rfl dR_item_16 ?_
        refine se_iconst (pc := 17) 0 (by decide) dR_item_17 ?_
        refine se_iconst (pc := 18) 5 (by decide) dR_item_18 ?_
        refine se_invS (pc := 19) (as := [.int 3, .int 0, .int 5]) (st := [.ref 41]) (vok sc) kR_in dR_item_19 ⟨wd_652, wd_653, wd_3⟩ rfl (Nat.le_of_ble_eq_true rfl) (Nat.le_of_ble_eq_true rfl) (x_R_inc true (by decide)) (C2 := 0) (S2 := 0) (by omega) (by omega) (fun v19 h19 _ q19 => ?_) (fun x hx => absurd hx List.not_mem_nil) (fun v19 h19 _ q19 => ?_)
        rotate_left
        · cases q19.2
        obtain ⟨h19e, q19⟩ := q19
        have h19f := h19e.symm
        subst h19f
        cases q19
        show se_W _ _ _ _ _ _ (.int 1 :: _) _ _ _ _
        refine se_if_eq (pc := 22) (tgt := 29) dR_item_22 (by decide) (fun q3 => absurd q3 (by decide)) (fun q3 => ?_)
        refine se_iconst (pc := 25) 1 (by decide) dR_item_25 ?_
        refine se_goto (pc := 26) (tgt := 30) dR_item_26 (by decide) ?_
        refine se_iconst (pc := 30) 1 (by decide) dR_item_30 ?_
        refine se_iconst (pc := 31) 1 (by decide) dR_item_31 ?_
        refine se_invV (pc := 32) (as := [.int 1, .int 1, .int 1]) (st := []) (vok sc) kR_goes dR_item_32 ⟨wd_655, wd_657, sl_10, wd_3⟩ rfl hO rfl (Nat.le_of_ble_eq_true rfl) (Nat.le_of_ble_eq_true rfl) (g_goes (r := 1) 0 hR (by decide) (by decide)) (C2 := 0) (S2 := 0) (by omega) (by omega) (fun v32 h32 _ q32 => ?_) (fun x hx => absurd hx List.not_mem_nil) (fun v32 h32 _ q32 => ?_)
        rotate_left
        · cases q32.2.2
        obtain ⟨hR9, hf9, q32⟩ := q32
        cases q32
        have hO9 := hR9.1
        rw [hI.1, hI.2.2.1] at hO9
        refine se_if_ne (pc := 35) (tgt := 40) dR_item_35 (by decide) (fun q4 => ?_) (fun q4 => absurd q4 (by decide))
        refine se_bipush (pc := 40) 10 (by decide) dR_item_40 ?_
        refine se_iload_n (pc := 42) rfl dR_item_42 ?_
        refine se_imul (pc := 43) dR_item_43 ?_
        refine se_iload_n (pc := 44) rfl dR_item_44 ?_
        refine se_iadd (pc := 45) dR_item_45 ?_
        rw [nx10]
        refine se_istore (pc := 46) dR_item_46 (by decide) [some (.ref 41), some (.int (nI jv)), some (.int (nI ji)), some (.int 3), some (.int (nI (10 * jv + ji)))] rfl ?_
        refine se_iload_n (pc := 48) rfl dR_item_48 ?_
        refine se_if_ne (pc := 49) (tgt := 72) dR_item_49 (by decide) (fun q5 => ?_) (fun q5 => absurd q5 (by decide))
        refine se_iload_n (pc := 72) rfl dR_item_72 ?_
        refine se_iconst (pc := 73) 3 (by decide) dR_item_73 ?_
        refine se_icmp_le (pc := 74) (tgt := 109) dR_item_74 (by decide) (fun q6 => ?_) (fun q6 => absurd q6 (by decide))
        refine se_aload_n (pc := 109) rfl dR_item_109 ?_
        refine se_getf (pc := 110) clR 20 dR_item_110 wd_573 rfl (by decide) hO9 rfl ?_
        refine se_iload (pc := 113) rfl dR_item_113 ?_
        refine se_zaldN (pc := 115) 1 dR_item_115 rfl hR9.2.2.2.2.2.2.2.2.2.2.2.2.2.2.2.2.2.2.1 (by omega) (by decide) ?_
        rw [rf_an_at (by omega)]
        refine se_if_ne (pc := 116) (tgt := 130) dR_item_116 (by decide) (fun q7 => ?_) (fun q7 => ?_)
        · refine se_iload_n (pc := 130) rfl dR_item_130 ?_
          refine se_iconst (pc := 131) 1 (by decide) dR_item_131 ?_
          refine se_icmp_ne (pc := 132) (tgt := 145) dR_item_132 (by decide) (fun q8 => ?_) (fun q8 => absurd q8 (by decide))
          refine se_iload_n (pc := 145) rfl dR_item_145 ?_
          refine se_iconst (pc := 146) 2 (by decide) dR_item_146 ?_
          refine se_icmp_ne (pc := 147) (tgt := 160) dR_item_147 (by decide) (fun q9 => ?_) (fun q9 => absurd q9 (by decide))
          refine se_aload_n (pc := 160) rfl dR_item_160 ?_
          refine se_getf (pc := 161) clR 23 dR_item_161 wd_576 rfl (by decide) hO9 rfl ?_
          refine se_iload (pc := 164) rfl dR_item_164 ?_
          refine se_ialdN (pc := 166) 0 dR_item_166 rfl hR9.2.2.2.2.2.2.2.2.2.2.2.2.2.2.2.2.2.2.2.2.2.1 (by omega) (by decide) ?_
          rw [rf_by_at (by omega) (by assumption)]
          exact se_iret (pc := 167) dR_item_167 rfl (rPi_ok (by clear hR hO hR9 hO9 hf9; (try have hun := q_un hQ jv ji); (try simp only [st_b0] at *); simp_all [sp_item, st_b, st_an]) hR9 hf9)
        · refine se_iload_n (pc := 119) rfl dR_item_119 ?_
          refine se_iconst (pc := 120) 1 (by decide) dR_item_120 ?_
          refine se_icmp_ne (pc := 121) (tgt := 128) dR_item_121 (by decide) (fun q10 => ?_) (fun q10 => absurd q10 (by decide))
          refine se_iconst (pc := 128) (-1) (by decide) dR_item_128 ?_
          exact se_iret (pc := 129) dR_item_129 rfl (rPi_ok (by clear hR hO hR9 hO9 hf9; (try have hun := q_un hQ jv ji); (try simp only [st_b0] at *); simp_all [sp_item, st_b, st_an]) hR9 hf9)
      · cases q10
        refine se_if_eq (pc := 13) (tgt := 29) dR_item_13 (by decide) (fun q11 => ?_) (fun q11 => absurd q11 (by decide))
        refine se_iconst (pc := 29) 0 (by decide) dR_item_29 ?_
        refine se_iconst (pc := 30) 1 (by decide) dR_item_30 ?_
        refine se_iconst (pc := 31) 1 (by decide) dR_item_31 ?_
        refine se_invV (pc := 32) (as := [.int 0, .int 1, .int 1]) (st := []) (vok sc) kR_goes dR_item_32 ⟨wd_655, wd_657, sl_10, wd_3⟩ rfl hO rfl (Nat.le_of_ble_eq_true rfl) (Nat.le_of_ble_eq_true rfl) (g_goes (r := 0) 1 hR (by decide) (by decide)) (C2 := 0) (S2 := 0) (by omega) (by omega) (fun v32 h32 _ q32 => ?_) (fun x hx => absurd hx List.not_mem_nil) (fun v32 h32 _ q32 => ?_)
        rotate_left
        · cases q32.2.2
        obtain ⟨hR9, hf9, q32⟩ := q32
        cases q32
        have hO9 := hR9.1
        rw [hI.1, hI.2.2.1] at hO9
        refine se_if_ne (pc := 35) (tgt := 40) dR_item_35 (by decide) (fun q12 => absurd q12 (by decide)) (fun q12 => ?_)
        refine se_iconst (pc := 38) 0 (by decide) dR_item_38 ?_
        exact se_iret (pc := 39) dR_item_39 rfl (rPi_no 0 (by clear hR hO hR9 hO9 hf9; (try have hun := q_un hQ jv ji); (try simp only [st_b0] at *); simp_all [sp_item, st_b, st_an]) hR9 hf9)
    · cases q3
      refine se_if_eq (pc := 6) (tgt := 29) dR_item_6 (by decide) (fun q13 => ?_) (fun q13 => absurd q13 (by decide))
      refine se_iconst (pc := 29) 0 (by decide) dR_item_29 ?_
      refine se_iconst (pc := 30) 1 (by decide) dR_item_30 ?_
      refine se_iconst (pc := 31) 1 (by decide) dR_item_31 ?_
      refine se_invV (pc := 32) (as := [.int 0, .int 1, .int 1]) (st := []) (vok sc) kR_goes dR_item_32 ⟨wd_655, wd_657, sl_10, wd_3⟩ rfl hO rfl (Nat.le_of_ble_eq_true rfl) (Nat.le_of_ble_eq_true rfl) (g_goes (r := 0) 1 hR (by decide) (by decide)) (C2 := 0) (S2 := 0) (by omega) (by omega) (fun v32 h32 _ q32 => ?_) (fun x hx => absurd hx List.not_mem_nil) (fun v32 h32 _ q32 => ?_)
      rotate_left
      · cases q32.2.2
      obtain ⟨hR9, hf9, q32⟩ := q32
      cases q32
      have hO9 := hR9.1
      rw [hI.1, hI.2.2.1] at hO9
      refine se_if_ne (pc := 35) (tgt := 40) dR_item_35 (by decide) (fun q14 => absurd q14 (by decide)) (fun q14 => ?_)
      refine se_iconst (pc := 38) 0 (by decide) dR_item_38 ?_
      exact se_iret (pc := 39) dR_item_39 rfl (rPi_no 0 (by clear hR hO hR9 hO9 hf9; (try have hun := q_un hQ jv ji); (try simp only [st_b0] at *); simp_all [sp_item, st_b, st_an]) hR9 hf9)
  · refine se_aload_n (pc := 0) rfl dR_item_0 ?_
    refine se_aload_n (pc := 1) rfl dR_item_1 ?_
    refine se_iload_n (pc := 2) rfl dR_item_2 ?_
    refine se_invV (pc := 3) (as := [.int v]) (st := [.ref 41]) (vok sc) kR_isVehicle dR_item_3 ⟨wd_674, wd_676, sl_11, wd_3⟩ rfl hO rfl (Nat.le_of_ble_eq_true rfl) (Nat.le_of_ble_eq_true rfl) (x_R_isVehicle (by omega) hR hI) (C2 := 0) (S2 := 0) (by omega) (by omega) (fun v3 h3 _ q3 => ?_) (fun x hx => absurd hx List.not_mem_nil) (fun v3 h3 _ q3 => ?_)
    rotate_left
    · rcases q3.2 with ⟨_, _, _, _, e⟩ | ⟨_, e⟩ <;> cases e
    obtain ⟨h3e, q3⟩ := q3
    have h3f := h3e.symm
    subst h3f
    rcases q3 with ⟨jv, hxv, hjv, rfl, q3⟩ | ⟨hxv, q3⟩
    · cases q3
      refine se_if_eq (pc := 6) (tgt := 29) dR_item_6 (by decide) (fun q1 => absurd q1 (by decide)) (fun q1 => ?_)
      refine se_iload_n (pc := 9) rfl dR_item_9 ?_
      refine se_invS (pc := 10) (as := [.int i]) (st := [.ref 41]) (vok sc) kR_isItem dR_item_10 ⟨wd_663, wd_664, wd_3⟩ rfl (Nat.le_of_ble_eq_true rfl) (Nat.le_of_ble_eq_true rfl) (x_R_isItem (by omega)) (C2 := 0) (S2 := 0) (by omega) (by omega) (fun v10 h10 _ q10 => ?_) (fun x hx => absurd hx List.not_mem_nil) (fun v10 h10 _ q10 => ?_)
      rotate_left
      · rcases q10.2 with ⟨_, _, _, _, e⟩ | ⟨_, e⟩ <;> cases e
      obtain ⟨h10e, q10⟩ := q10
      have h10f := h10e.symm
      subst h10f
      rcases q10 with ⟨ji, hxi, hji, rfl, q10⟩ | ⟨hxi, q10⟩
      · cases q10
        refine se_if_eq (pc := 13) (tgt := 29) dR_item_13 (by decide) (fun q2 => absurd q2 (by decide)) (fun q2 => ?_)
        refine se_iload_n (pc := 16) rfl dR_item_16 ?_
        refine se_iconst (pc := 17) 0 (by decide) dR_item_17 ?_
        refine se_iconst (pc := 18) 5 (by decide) dR_item_18 ?_
        refine se_invS (pc := 19) (as := [.int 4, .int 0, .int 5]) (st := [.ref 41]) (vok sc) kR_in dR_item_19 ⟨wd_652, wd_653, wd_3⟩ rfl (Nat.le_of_ble_eq_true rfl) (Nat.le_of_ble_eq_true rfl) (x_R_inc true (by decide)) (C2 := 0) (S2 := 0) (by omega) (by omega) (fun v19 h19 _ q19 => ?_) (fun x hx => absurd hx List.not_mem_nil) (fun v19 h19 _ q19 => ?_)
        rotate_left
        · cases q19.2
        obtain ⟨h19e, q19⟩ := q19
        have h19f := h19e.symm
        subst h19f
        cases q19
        show se_W _ _ _ _ _ _ (.int 1 :: _) _ _ _ _
        refine se_if_eq (pc := 22) (tgt := 29) dR_item_22 (by decide) (fun q3 => absurd q3 (by decide)) (fun q3 => ?_)
        refine se_iconst (pc := 25) 1 (by decide) dR_item_25 ?_
        refine se_goto (pc := 26) (tgt := 30) dR_item_26 (by decide) ?_
        refine se_iconst (pc := 30) 1 (by decide) dR_item_30 ?_
        refine se_iconst (pc := 31) 1 (by decide) dR_item_31 ?_
        refine se_invV (pc := 32) (as := [.int 1, .int 1, .int 1]) (st := []) (vok sc) kR_goes dR_item_32 ⟨wd_655, wd_657, sl_10, wd_3⟩ rfl hO rfl (Nat.le_of_ble_eq_true rfl) (Nat.le_of_ble_eq_true rfl) (g_goes (r := 1) 0 hR (by decide) (by decide)) (C2 := 0) (S2 := 0) (by omega) (by omega) (fun v32 h32 _ q32 => ?_) (fun x hx => absurd hx List.not_mem_nil) (fun v32 h32 _ q32 => ?_)
        rotate_left
        · cases q32.2.2
        obtain ⟨hR9, hf9, q32⟩ := q32
        cases q32
        have hO9 := hR9.1
        rw [hI.1, hI.2.2.1] at hO9
        refine se_if_ne (pc := 35) (tgt := 40) dR_item_35 (by decide) (fun q4 => ?_) (fun q4 => absurd q4 (by decide))
        refine se_bipush (pc := 40) 10 (by decide) dR_item_40 ?_
        refine se_iload_n (pc := 42) rfl dR_item_42 ?_
        refine se_imul (pc := 43) dR_item_43 ?_
        refine se_iload_n (pc := 44) rfl dR_item_44 ?_
        refine se_iadd (pc := 45) dR_item_45 ?_
        rw [nx10]
        refine se_istore (pc := 46) dR_item_46 (by decide) [some (.ref 41), some (.int (nI jv)), some (.int (nI ji)), some (.int 4), some (.int (nI (10 * jv + ji)))] rfl ?_
        refine se_iload_n (pc := 48) rfl dR_item_48 ?_
        refine se_if_ne (pc := 49) (tgt := 72) dR_item_49 (by decide) (fun q5 => ?_) (fun q5 => absurd q5 (by decide))
        refine se_iload_n (pc := 72) rfl dR_item_72 ?_
        refine se_iconst (pc := 73) 3 (by decide) dR_item_73 ?_
        refine se_icmp_le (pc := 74) (tgt := 109) dR_item_74 (by decide) (fun q6 => absurd q6 (by decide)) (fun q6 => ?_)
        refine se_iload_n (pc := 77) rfl dR_item_77 ?_
        refine se_iconst (pc := 78) 4 (by decide) dR_item_78 ?_
        refine se_icmp_ne (pc := 79) (tgt := 94) dR_item_79 (by decide) (fun q7 => absurd q7 (by decide)) (fun q7 => ?_)
        refine se_aload_n (pc := 82) rfl dR_item_82 ?_
        refine se_iload_n (pc := 83) rfl dR_item_83 ?_
        refine se_iload_n (pc := 84) rfl dR_item_84 ?_
        refine se_invV (pc := 85) (as := [.int (nI jv), .int (nI ji)]) (st := []) (vok sc) kR_fails dR_item_85 ⟨wd_695, wd_697, sl_14, wd_3⟩ rfl hO9 rfl (Nat.le_of_ble_eq_true rfl) (Nat.le_of_ble_eq_true rfl) (c_R_fails (by omega) hR9 (q_kd hQ hjv) (by omega) (hI.2.2.2.2 _ hjv) hji) (C2 := 0) (S2 := 0) (by omega) (by omega) (fun v85 h85 _ q85 => ?_) (fun x hx => absurd hx List.not_mem_nil) (fun v85 h85 _ q85 => ?_)
        rotate_left
        · cases q85.2
        obtain ⟨h85e, q85⟩ := q85
        have h85f := h85e.symm
        subst h85f
        cases q85
        cases hfa : st_fa S (st_kd S jv) jv ji
        · show se_W _ _ _ _ _ _ (.int 0 :: _) _ _ _ _
          refine se_if_eq (pc := 88) (tgt := 107) dR_item_88 (by decide) (fun q8 => ?_) (fun q8 => absurd q8 (by decide))
          refine se_iconst (pc := 107) 0 (by decide) dR_item_107 ?_
          exact se_iret (pc := 108) dR_item_108 rfl (rPi_ok (by clear hR hO hR9 hO9 hf9; (try have hun := q_un hQ jv ji); (try simp only [st_b0] at *); simp_all [sp_item, st_b, st_an]) hR9 hf9)
        · show se_W _ _ _ _ _ _ (.int 1 :: _) _ _ _ _
          refine se_if_eq (pc := 88) (tgt := 107) dR_item_88 (by decide) (fun q9 => absurd q9 (by decide)) (fun q9 => ?_)
          refine se_goto (pc := 91) (tgt := 103) dR_item_91 (by decide) ?_
          refine se_iconst (pc := 103) 1 (by decide) dR_item_103 ?_
          refine se_goto (pc := 104) (tgt := 108) dR_item_104 (by decide) ?_
          exact se_iret (pc := 108) dR_item_108 rfl (rPi_ok (by clear hR hO hR9 hO9 hf9; (try have hun := q_un hQ jv ji); (try simp only [st_b0] at *); simp_all [sp_item, st_b, st_an]) hR9 hf9)
      · cases q10
        refine se_if_eq (pc := 13) (tgt := 29) dR_item_13 (by decide) (fun q10 => ?_) (fun q10 => absurd q10 (by decide))
        refine se_iconst (pc := 29) 0 (by decide) dR_item_29 ?_
        refine se_iconst (pc := 30) 1 (by decide) dR_item_30 ?_
        refine se_iconst (pc := 31) 1 (by decide) dR_item_31 ?_
        refine se_invV (pc := 32) (as := [.int 0, .int 1, .int 1]) (st := []) (vok sc) kR_goes dR_item_32 ⟨wd_655, wd_657, sl_10, wd_3⟩ rfl hO rfl (Nat.le_of_ble_eq_true rfl) (Nat.le_of_ble_eq_true rfl) (g_goes (r := 0) 1 hR (by decide) (by decide)) (C2 := 0) (S2 := 0) (by omega) (by omega) (fun v32 h32 _ q32 => ?_) (fun x hx => absurd hx List.not_mem_nil) (fun v32 h32 _ q32 => ?_)
        rotate_left
        · cases q32.2.2
        obtain ⟨hR9, hf9, q32⟩ := q32
        cases q32
        have hO9 := hR9.1
        rw [hI.1, hI.2.2.1] at hO9
        refine se_if_ne (pc := 35) (tgt := 40) dR_item_35 (by decide) (fun q11 => absurd q11 (by decide)) (fun q11 => ?_)
        refine se_iconst (pc := 38) 0 (by decide) dR_item_38 ?_
        exact se_iret (pc := 39) dR_item_39 rfl (rPi_no 0 (by clear hR hO hR9 hO9 hf9; (try have hun := q_un hQ jv ji); (try simp only [st_b0] at *); simp_all [sp_item, st_b, st_an]) hR9 hf9)
    · cases q3
      refine se_if_eq (pc := 6) (tgt := 29) dR_item_6 (by decide) (fun q12 => ?_) (fun q12 => absurd q12 (by decide))
      refine se_iconst (pc := 29) 0 (by decide) dR_item_29 ?_
      refine se_iconst (pc := 30) 1 (by decide) dR_item_30 ?_
      refine se_iconst (pc := 31) 1 (by decide) dR_item_31 ?_
      refine se_invV (pc := 32) (as := [.int 0, .int 1, .int 1]) (st := []) (vok sc) kR_goes dR_item_32 ⟨wd_655, wd_657, sl_10, wd_3⟩ rfl hO rfl (Nat.le_of_ble_eq_true rfl) (Nat.le_of_ble_eq_true rfl) (g_goes (r := 0) 1 hR (by decide) (by decide)) (C2 := 0) (S2 := 0) (by omega) (by omega) (fun v32 h32 _ q32 => ?_) (fun x hx => absurd hx List.not_mem_nil) (fun v32 h32 _ q32 => ?_)
      rotate_left
      · cases q32.2.2
      obtain ⟨hR9, hf9, q32⟩ := q32
      cases q32
      have hO9 := hR9.1
      rw [hI.1, hI.2.2.1] at hO9
      refine se_if_ne (pc := 35) (tgt := 40) dR_item_35 (by decide) (fun q13 => absurd q13 (by decide)) (fun q13 => ?_)
      refine se_iconst (pc := 38) 0 (by decide) dR_item_38 ?_
      exact se_iret (pc := 39) dR_item_39 rfl (rPi_no 0 (by clear hR hO hR9 hO9 hf9; (try have hun := q_un hQ jv ji); (try simp only [st_b0] at *); simp_all [sp_item, st_b, st_an]) hR9 hf9)
  · refine se_aload_n (pc := 0) rfl dR_item_0 ?_
    refine se_aload_n (pc := 1) rfl dR_item_1 ?_
    refine se_iload_n (pc := 2) rfl dR_item_2 ?_
    refine se_invV (pc := 3) (as := [.int v]) (st := [.ref 41]) (vok sc) kR_isVehicle dR_item_3 ⟨wd_674, wd_676, sl_11, wd_3⟩ rfl hO rfl (Nat.le_of_ble_eq_true rfl) (Nat.le_of_ble_eq_true rfl) (x_R_isVehicle (by omega) hR hI) (C2 := 0) (S2 := 0) (by omega) (by omega) (fun v3 h3 _ q3 => ?_) (fun x hx => absurd hx List.not_mem_nil) (fun v3 h3 _ q3 => ?_)
    rotate_left
    · rcases q3.2 with ⟨_, _, _, _, e⟩ | ⟨_, e⟩ <;> cases e
    obtain ⟨h3e, q3⟩ := q3
    have h3f := h3e.symm
    subst h3f
    rcases q3 with ⟨jv, hxv, hjv, rfl, q3⟩ | ⟨hxv, q3⟩
    · cases q3
      refine se_if_eq (pc := 6) (tgt := 29) dR_item_6 (by decide) (fun q1 => absurd q1 (by decide)) (fun q1 => ?_)
      refine se_iload_n (pc := 9) rfl dR_item_9 ?_
      refine se_invS (pc := 10) (as := [.int i]) (st := [.ref 41]) (vok sc) kR_isItem dR_item_10 ⟨wd_663, wd_664, wd_3⟩ rfl (Nat.le_of_ble_eq_true rfl) (Nat.le_of_ble_eq_true rfl) (x_R_isItem (by omega)) (C2 := 0) (S2 := 0) (by omega) (by omega) (fun v10 h10 _ q10 => ?_) (fun x hx => absurd hx List.not_mem_nil) (fun v10 h10 _ q10 => ?_)
      rotate_left
      · rcases q10.2 with ⟨_, _, _, _, e⟩ | ⟨_, e⟩ <;> cases e
      obtain ⟨h10e, q10⟩ := q10
      have h10f := h10e.symm
      subst h10f
      rcases q10 with ⟨ji, hxi, hji, rfl, q10⟩ | ⟨hxi, q10⟩
      · cases q10
        refine se_if_eq (pc := 13) (tgt := 29) dR_item_13 (by decide) (fun q2 => absurd q2 (by decide)) (fun q2 => ?_)
        refine se_iload_n (pc := 16) rfl dR_item_16 ?_
        refine se_iconst (pc := 17) 0 (by decide) dR_item_17 ?_
        refine se_iconst (pc := 18) 5 (by decide) dR_item_18 ?_
        refine se_invS (pc := 19) (as := [.int 5, .int 0, .int 5]) (st := [.ref 41]) (vok sc) kR_in dR_item_19 ⟨wd_652, wd_653, wd_3⟩ rfl (Nat.le_of_ble_eq_true rfl) (Nat.le_of_ble_eq_true rfl) (x_R_inc true (by decide)) (C2 := 0) (S2 := 0) (by omega) (by omega) (fun v19 h19 _ q19 => ?_) (fun x hx => absurd hx List.not_mem_nil) (fun v19 h19 _ q19 => ?_)
        rotate_left
        · cases q19.2
        obtain ⟨h19e, q19⟩ := q19
        have h19f := h19e.symm
        subst h19f
        cases q19
        show se_W _ _ _ _ _ _ (.int 1 :: _) _ _ _ _
        refine se_if_eq (pc := 22) (tgt := 29) dR_item_22 (by decide) (fun q3 => absurd q3 (by decide)) (fun q3 => ?_)
        refine se_iconst (pc := 25) 1 (by decide) dR_item_25 ?_
        refine se_goto (pc := 26) (tgt := 30) dR_item_26 (by decide) ?_
        refine se_iconst (pc := 30) 1 (by decide) dR_item_30 ?_
        refine se_iconst (pc := 31) 1 (by decide) dR_item_31 ?_
        refine se_invV (pc := 32) (as := [.int 1, .int 1, .int 1]) (st := []) (vok sc) kR_goes dR_item_32 ⟨wd_655, wd_657, sl_10, wd_3⟩ rfl hO rfl (Nat.le_of_ble_eq_true rfl) (Nat.le_of_ble_eq_true rfl) (g_goes (r := 1) 0 hR (by decide) (by decide)) (C2 := 0) (S2 := 0) (by omega) (by omega) (fun v32 h32 _ q32 => ?_) (fun x hx => absurd hx List.not_mem_nil) (fun v32 h32 _ q32 => ?_)
        rotate_left
        · cases q32.2.2
        obtain ⟨hR9, hf9, q32⟩ := q32
        cases q32
        have hO9 := hR9.1
        rw [hI.1, hI.2.2.1] at hO9
        refine se_if_ne (pc := 35) (tgt := 40) dR_item_35 (by decide) (fun q4 => ?_) (fun q4 => absurd q4 (by decide))
        refine se_bipush (pc := 40) 10 (by decide) dR_item_40 ?_
        refine se_iload_n (pc := 42) rfl dR_item_42 ?_
        refine se_imul (pc := 43) dR_item_43 ?_
        refine se_iload_n (pc := 44) rfl dR_item_44 ?_
        refine se_iadd (pc := 45) dR_item_45 ?_
        rw [nx10]
        refine se_istore (pc := 46) dR_item_46 (by decide) [some (.ref 41), some (.int (nI jv)), some (.int (nI ji)), some (.int 5), some (.int (nI (10 * jv + ji)))] rfl ?_
        refine se_iload_n (pc := 48) rfl dR_item_48 ?_
        refine se_if_ne (pc := 49) (tgt := 72) dR_item_49 (by decide) (fun q5 => ?_) (fun q5 => absurd q5 (by decide))
        refine se_iload_n (pc := 72) rfl dR_item_72 ?_
        refine se_iconst (pc := 73) 3 (by decide) dR_item_73 ?_
        refine se_icmp_le (pc := 74) (tgt := 109) dR_item_74 (by decide) (fun q6 => absurd q6 (by decide)) (fun q6 => ?_)
        refine se_iload_n (pc := 77) rfl dR_item_77 ?_
        refine se_iconst (pc := 78) 4 (by decide) dR_item_78 ?_
        refine se_icmp_ne (pc := 79) (tgt := 94) dR_item_79 (by decide) (fun q7 => ?_) (fun q7 => absurd q7 (by decide))
        refine se_aload_n (pc := 94) rfl dR_item_94 ?_
        refine se_iload_n (pc := 95) rfl dR_item_95 ?_
        refine se_iload_n (pc := 96) rfl dR_item_96 ?_
        refine se_invV (pc := 97) (as := [.int (nI jv), .int (nI ji)]) (st := []) (vok sc) kR_isSkipped dR_item_97 ⟨wd_699, wd_701, sl_15, wd_3⟩ rfl hO9 rfl (Nat.le_of_ble_eq_true rfl) (Nat.le_of_ble_eq_true rfl) (c_R_isSkipped (by omega) hR9 (q_kd hQ hjv) (by omega) (hI.2.2.2.2 _ hjv) hji hQ hN) (C2 := 0) (S2 := 0) (by omega) (by omega) (fun v97 h97 _ q97 => ?_) (fun x hx => absurd hx List.not_mem_nil) (fun v97 h97 _ q97 => ?_)
        rotate_left
        · cases q97.2
        obtain ⟨h97e, q97⟩ := q97
        have h97f := h97e.symm
        subst h97f
        cases q97
        cases hfa : st_sk S (st_kd S jv) jv ji (S 26 0 0)
        · show se_W _ _ _ _ _ _ (.int 0 :: _) _ _ _ _
          refine se_if_eq (pc := 100) (tgt := 107) dR_item_100 (by decide) (fun q8 => ?_) (fun q8 => absurd q8 (by decide))
          refine se_iconst (pc := 107) 0 (by decide) dR_item_107 ?_
          exact se_iret (pc := 108) dR_item_108 rfl (rPi_ok (by clear hR hO hR9 hO9 hf9; (try have hun := q_un hQ jv ji); (try simp only [st_b0] at *); simp_all [sp_item, st_b, st_an]) hR9 hf9)
        · show se_W _ _ _ _ _ _ (.int 1 :: _) _ _ _ _
          refine se_if_eq (pc := 100) (tgt := 107) dR_item_100 (by decide) (fun q9 => absurd q9 (by decide)) (fun q9 => ?_)
          refine se_iconst (pc := 103) 1 (by decide) dR_item_103 ?_
          refine se_goto (pc := 104) (tgt := 108) dR_item_104 (by decide) ?_
          exact se_iret (pc := 108) dR_item_108 rfl (rPi_ok (by clear hR hO hR9 hO9 hf9; (try have hun := q_un hQ jv ji); (try simp only [st_b0] at *); simp_all [sp_item, st_b, st_an]) hR9 hf9)
      · cases q10
        refine se_if_eq (pc := 13) (tgt := 29) dR_item_13 (by decide) (fun q10 => ?_) (fun q10 => absurd q10 (by decide))
        refine se_iconst (pc := 29) 0 (by decide) dR_item_29 ?_
        refine se_iconst (pc := 30) 1 (by decide) dR_item_30 ?_
        refine se_iconst (pc := 31) 1 (by decide) dR_item_31 ?_
        refine se_invV (pc := 32) (as := [.int 0, .int 1, .int 1]) (st := []) (vok sc) kR_goes dR_item_32 ⟨wd_655, wd_657, sl_10, wd_3⟩ rfl hO rfl (Nat.le_of_ble_eq_true rfl) (Nat.le_of_ble_eq_true rfl) (g_goes (r := 0) 1 hR (by decide) (by decide)) (C2 := 0) (S2 := 0) (by omega) (by omega) (fun v32 h32 _ q32 => ?_) (fun x hx => absurd hx List.not_mem_nil) (fun v32 h32 _ q32 => ?_)
        rotate_left
        · cases q32.2.2
        obtain ⟨hR9, hf9, q32⟩ := q32
        cases q32
        have hO9 := hR9.1
        rw [hI.1, hI.2.2.1] at hO9
        refine se_if_ne (pc := 35) (tgt := 40) dR_item_35 (by decide) (fun q11 => absurd q11 (by decide)) (fun q11 => ?_)
        refine se_iconst (pc := 38) 0 (by decide) dR_item_38 ?_
        exact se_iret (pc := 39) dR_item_39 rfl (rPi_no 0 (by clear hR hO hR9 hO9 hf9; (try have hun := q_un hQ jv ji); (try simp only [st_b0] at *); simp_all [sp_item, st_b, st_an]) hR9 hf9)
    · cases q3
      refine se_if_eq (pc := 6) (tgt := 29) dR_item_6 (by decide) (fun q12 => ?_) (fun q12 => absurd q12 (by decide))
      refine se_iconst (pc := 29) 0 (by decide) dR_item_29 ?_
      refine se_iconst (pc := 30) 1 (by decide) dR_item_30 ?_
      refine se_iconst (pc := 31) 1 (by decide) dR_item_31 ?_
      refine se_invV (pc := 32) (as := [.int 0, .int 1, .int 1]) (st := []) (vok sc) kR_goes dR_item_32 ⟨wd_655, wd_657, sl_10, wd_3⟩ rfl hO rfl (Nat.le_of_ble_eq_true rfl) (Nat.le_of_ble_eq_true rfl) (g_goes (r := 0) 1 hR (by decide) (by decide)) (C2 := 0) (S2 := 0) (by omega) (by omega) (fun v32 h32 _ q32 => ?_) (fun x hx => absurd hx List.not_mem_nil) (fun v32 h32 _ q32 => ?_)
      rotate_left
      · cases q32.2.2
      obtain ⟨hR9, hf9, q32⟩ := q32
      cases q32
      have hO9 := hR9.1
      rw [hI.1, hI.2.2.1] at hO9
      refine se_if_ne (pc := 35) (tgt := 40) dR_item_35 (by decide) (fun q13 => absurd q13 (by decide)) (fun q13 => ?_)
      refine se_iconst (pc := 38) 0 (by decide) dR_item_38 ?_
      exact se_iret (pc := 39) dR_item_39 rfl (rPi_no 0 (by clear hR hO hR9 hO9 hf9; (try have hun := q_un hQ jv ji); (try simp only [st_b0] at *); simp_all [sp_item, st_b, st_an]) hR9 hf9)
end RPUB
