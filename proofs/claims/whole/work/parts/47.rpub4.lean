section RPUB
variable {sc : List (Nat × Nat × (Nat → Int32))} {l : Launch} {d : Nat} {h : se_H} {S : st_S} {t : Int32} {N : Nat}
set_option maxHeartbeats 1000000 in
set_option maxRecDepth 100000 in
theorem lp_R_vehicleAt {v : Nat} {w : Int32} {Φ : se_O → se_H → Prop} (hR : is_R S t h) (hI : st_I S) (hk : se_W (vG sc) l d mR_vehicleAt 77 [some (.ref 41), some (.int (nI v)), some (.int w), some (.int (st_n2 S v (st_nd S))), some (.int (nI (st_nd S)))] [] h 0 0 Φ) : ∀ n i : Nat, i + n = st_nd S → se_W (vG sc) l d mR_vehicleAt 38 [some (.ref 41), some (.int (nI v)), some (.int w), some (.int (st_n2 S v i)), some (.int (nI i))] [] h 0 0 Φ := by
  have hO := hR.1
  rw [hI.1, hI.2.2.1] at hO
  have hn20 := hI.2.1
  have hd100 := hI.2.2.2.1
  intro n
  induction n with
  | zero =>
    intro i hi
    obtain rfl : i = st_nd S := by omega
    refine se_iload (pc := 38) rfl dR_vehicleAt_38 ?_
    refine se_aload_n (pc := 40) rfl dR_vehicleAt_40 ?_
    refine se_getf (pc := 41) clR 25 dR_vehicleAt_41 wd_578 rfl (by decide) hO rfl ?_
    refine se_icmp_ge (pc := 44) (tgt := 77) dR_vehicleAt_44 (by decide) (fun q1 => ?_) (fun q1 => absurd q1 (fun z => z (Int32.le_refl _)))
    exact hk
  | succ n ih =>
    intro i hi
    have hlt : i < st_nd S := by omega
    refine se_iload (pc := 38) rfl dR_vehicleAt_38 ?_
    refine se_aload_n (pc := 40) rfl dR_vehicleAt_40 ?_
    refine se_getf (pc := 41) clR 25 dR_vehicleAt_41 wd_578 rfl (by decide) hO rfl ?_
    refine se_icmp_ge (pc := 44) (tgt := 77) dR_vehicleAt_44 (by decide) (fun q1 => absurd q1 (nI_ge hlt (by omega))) (fun q1 => ?_)
    refine se_aload_n (pc := 47) rfl dR_vehicleAt_47 ?_
    refine se_getf (pc := 48) clR 26 dR_vehicleAt_48 wd_579 rfl (by decide) hO rfl ?_
    refine se_iload (pc := 51) rfl dR_vehicleAt_51 ?_
    refine se_ialdN (pc := 53) 0 dR_vehicleAt_53 rfl hR.2.2.2.2.2.2.2.2.2.2.2.2.2.2.2.2.2.2.2.2.2.2.2.1 (by omega) (by decide) ?_
    refine se_iload_n (pc := 54) rfl dR_vehicleAt_54 ?_
    refine se_icmp_ne (pc := 55) (tgt := 71) dR_vehicleAt_55 (by decide) (fun q2 => ?_) (fun q2 => ?_)
    · refine se_iinc (pc := 71) 1 (by decide) rfl dR_vehicleAt_71 [some (.ref 41), some (.int (nI v)), some (.int w), some (.int (st_n2 S v i)), some (.int (nI (i + 1)))] (by rw [nI_1]; rfl) ?_
      refine se_goto (pc := 74) (tgt := 38) dR_vehicleAt_74 (by decide) ?_
      have e9 : st_n2 S v i = st_n2 S v (i + 1) := by clear ih hk hR hO; simp_all [st_n2, st_od]
      rw [e9]
      exact ih (i + 1) (by omega)
    · refine se_aload_n (pc := 58) rfl dR_vehicleAt_58 ?_
      refine se_getf (pc := 59) clR 28 dR_vehicleAt_59 wd_581 rfl (by decide) hO rfl ?_
      refine se_iload (pc := 62) rfl dR_vehicleAt_62 ?_
      refine se_ialdN (pc := 64) 0 dR_vehicleAt_64 rfl hR.2.2.2.2.2.2.2.2.2.2.2.2.2.2.2.2.2.2.2.2.2.2.2.2.2 (by omega) (by decide) ?_
      refine se_if_ne (pc := 65) (tgt := 71) dR_vehicleAt_65 (by decide) (fun q3 => ?_) (fun q3 => ?_)
      · refine se_iinc (pc := 71) 1 (by decide) rfl dR_vehicleAt_71 [some (.ref 41), some (.int (nI v)), some (.int w), some (.int (st_n2 S v i)), some (.int (nI (i + 1)))] (by rw [nI_1]; rfl) ?_
        refine se_goto (pc := 74) (tgt := 38) dR_vehicleAt_74 (by decide) ?_
        have e9 : st_n2 S v i = st_n2 S v (i + 1) := by clear ih hk hR hO; simp_all [st_n2, st_od]
        rw [e9]
        exact ih (i + 1) (by omega)
      · refine se_iinc (pc := 68) 1 (by decide) rfl dR_vehicleAt_68 [some (.ref 41), some (.int (nI v)), some (.int w), some (.int ((st_n2 S v i) + 1)), some (.int (nI i))] rfl ?_
        refine se_iinc (pc := 71) 1 (by decide) rfl dR_vehicleAt_71 [some (.ref 41), some (.int (nI v)), some (.int w), some (.int ((st_n2 S v i) + 1)), some (.int (nI (i + 1)))] (by rw [nI_1]; rfl) ?_
        refine se_goto (pc := 74) (tgt := 38) dR_vehicleAt_74 (by decide) ?_
        have e9 : (st_n2 S v i) + 1 = st_n2 S v (i + 1) := by clear ih hk hR hO; simp_all [st_n2, st_od]
        rw [e9]
        exact ih (i + 1) (by omega)
set_option maxHeartbeats 1000000 in
set_option maxRecDepth 100000 in
theorem r_vehicleAt {v w : Int32} (hd : 3 ≤ d) (hR : is_R S t h) (hI : st_I S) (hQ : st_Q N S) (hN : N < 2 ^ 31) : se_W (vG sc) l d mR_vehicleAt 0 (se_ent 5 [.ref 41, .int v, .int w]) [] h 0 0 (rPi h (sp_vehicleAt S v w)) := by
  obtain ⟨d, rfl⟩ : ∃ e, d = e + 1 := ⟨d - 1, by omega⟩
  show se_W (vG sc) l (d + 1) mR_vehicleAt 0 [some (.ref 41), some (.int v), some (.int w), none, none] [] h 0 0 _
  have hn20 := hI.2.1
  have hd100 := hI.2.2.2.1
  have hO := hR.1
  rw [hI.1, hI.2.2.1] at hO
  rcases st_sw6 w with hsw | rfl | rfl | rfl | rfl | rfl | rfl
  · have hw := sw6_in hsw.1
    refine se_aload_n (pc := 0) rfl dR_vehicleAt_0 ?_
    refine se_aload_n (pc := 1) rfl dR_vehicleAt_1 ?_
    refine se_iload_n (pc := 2) rfl dR_vehicleAt_2 ?_
    refine se_invV (pc := 3) (as := [.int v]) (st := [.ref 41]) (vok sc) kR_isVehicle dR_vehicleAt_3 ⟨wd_674, wd_676, sl_11, wd_3⟩ rfl hO rfl (Nat.le_of_ble_eq_true rfl) (Nat.le_of_ble_eq_true rfl) (x_R_isVehicle (by omega) hR hI) (C2 := 0) (S2 := 0) (by omega) (by omega) (fun v3 h3 _ q3 => ?_) (fun x hx => absurd hx List.not_mem_nil) (fun v3 h3 _ q3 => ?_)
    rotate_left
    · rcases q3.2 with ⟨_, _, _, _, e⟩ | ⟨_, e⟩ <;> cases e
    obtain ⟨h3e, q3⟩ := q3
    have h3f := h3e.symm
    subst h3f
    rcases q3 with ⟨jv, hxv, hjv, rfl, q3⟩ | ⟨hxv, q3⟩
    · cases q3
      refine se_if_eq (pc := 6) (tgt := 22) dR_vehicleAt_6 (by decide) (fun q1 => absurd q1 (by decide)) (fun q1 => ?_)
      refine se_iload_n (pc := 9) rfl dR_vehicleAt_9 ?_
      refine se_iconst (pc := 10) 0 (by decide) dR_vehicleAt_10 ?_
      refine se_iconst (pc := 11) 5 (by decide) dR_vehicleAt_11 ?_
      refine se_invS (pc := 12) (as := [.int w, .int 0, .int 5]) (st := [.ref 41]) (vok sc) kR_in dR_vehicleAt_12 ⟨wd_652, wd_653, wd_3⟩ rfl (Nat.le_of_ble_eq_true rfl) (Nat.le_of_ble_eq_true rfl) (x_R_inc false hw) (C2 := 0) (S2 := 0) (by omega) (by omega) (fun v12 h12 _ q12 => ?_) (fun x hx => absurd hx List.not_mem_nil) (fun v12 h12 _ q12 => ?_)
      rotate_left
      · cases q12.2
      obtain ⟨h12e, q12⟩ := q12
      have h12f := h12e.symm
      subst h12f
      cases q12
      show se_W _ _ _ _ _ _ (.int 0 :: _) _ _ _ _
      refine se_if_eq (pc := 15) (tgt := 22) dR_vehicleAt_15 (by decide) (fun q2 => ?_) (fun q2 => absurd q2 (by decide))
      refine se_iconst (pc := 22) 0 (by decide) dR_vehicleAt_22 ?_
      refine se_iconst (pc := 23) 1 (by decide) dR_vehicleAt_23 ?_
      refine se_iconst (pc := 24) 1 (by decide) dR_vehicleAt_24 ?_
      refine se_invV (pc := 25) (as := [.int 0, .int 1, .int 1]) (st := []) (vok sc) kR_goes dR_vehicleAt_25 ⟨wd_655, wd_657, sl_10, wd_3⟩ rfl hO rfl (Nat.le_of_ble_eq_true rfl) (Nat.le_of_ble_eq_true rfl) (g_goes (r := 0) 1 hR (by decide) (by decide)) (C2 := 0) (S2 := 0) (by omega) (by omega) (fun v25 h25 _ q25 => ?_) (fun x hx => absurd hx List.not_mem_nil) (fun v25 h25 _ q25 => ?_)
      rotate_left
      · cases q25.2.2
      obtain ⟨hR9, hf9, q25⟩ := q25
      cases q25
      have hO9 := hR9.1
      rw [hI.1, hI.2.2.1] at hO9
      refine se_if_ne (pc := 28) (tgt := 33) dR_vehicleAt_28 (by decide) (fun q3 => absurd q3 (by decide)) (fun q3 => ?_)
      refine se_iconst (pc := 31) 0 (by decide) dR_vehicleAt_31 ?_
      exact se_iret (pc := 32) dR_vehicleAt_32 rfl (rPi_no 0 (by clear hR hO hR9 hO9 hf9; simp_all [sp_vehicleAt]) hR9 hf9)
    · cases q3
      refine se_if_eq (pc := 6) (tgt := 22) dR_vehicleAt_6 (by decide) (fun q4 => ?_) (fun q4 => absurd q4 (by decide))
      refine se_iconst (pc := 22) 0 (by decide) dR_vehicleAt_22 ?_
      refine se_iconst (pc := 23) 1 (by decide) dR_vehicleAt_23 ?_
      refine se_iconst (pc := 24) 1 (by decide) dR_vehicleAt_24 ?_
      refine se_invV (pc := 25) (as := [.int 0, .int 1, .int 1]) (st := []) (vok sc) kR_goes dR_vehicleAt_25 ⟨wd_655, wd_657, sl_10, wd_3⟩ rfl hO rfl (Nat.le_of_ble_eq_true rfl) (Nat.le_of_ble_eq_true rfl) (g_goes (r := 0) 1 hR (by decide) (by decide)) (C2 := 0) (S2 := 0) (by omega) (by omega) (fun v25 h25 _ q25 => ?_) (fun x hx => absurd hx List.not_mem_nil) (fun v25 h25 _ q25 => ?_)
      rotate_left
      · cases q25.2.2
      obtain ⟨hR9, hf9, q25⟩ := q25
      cases q25
      have hO9 := hR9.1
      rw [hI.1, hI.2.2.1] at hO9
      refine se_if_ne (pc := 28) (tgt := 33) dR_vehicleAt_28 (by decide) (fun q5 => absurd q5 (by decide)) (fun q5 => ?_)
      refine se_iconst (pc := 31) 0 (by decide) dR_vehicleAt_31 ?_
      exact se_iret (pc := 32) dR_vehicleAt_32 rfl (rPi_no 0 (by clear hR hO hR9 hO9 hf9; simp_all [sp_vehicleAt]) hR9 hf9)
  · refine se_aload_n (pc := 0) rfl dR_vehicleAt_0 ?_
    refine se_aload_n (pc := 1) rfl dR_vehicleAt_1 ?_
    refine se_iload_n (pc := 2) rfl dR_vehicleAt_2 ?_
    refine se_invV (pc := 3) (as := [.int v]) (st := [.ref 41]) (vok sc) kR_isVehicle dR_vehicleAt_3 ⟨wd_674, wd_676, sl_11, wd_3⟩ rfl hO rfl (Nat.le_of_ble_eq_true rfl) (Nat.le_of_ble_eq_true rfl) (x_R_isVehicle (by omega) hR hI) (C2 := 0) (S2 := 0) (by omega) (by omega) (fun v3 h3 _ q3 => ?_) (fun x hx => absurd hx List.not_mem_nil) (fun v3 h3 _ q3 => ?_)
    rotate_left
    · rcases q3.2 with ⟨_, _, _, _, e⟩ | ⟨_, e⟩ <;> cases e
    obtain ⟨h3e, q3⟩ := q3
    have h3f := h3e.symm
    subst h3f
    rcases q3 with ⟨jv, hxv, hjv, rfl, q3⟩ | ⟨hxv, q3⟩
    · cases q3
      refine se_if_eq (pc := 6) (tgt := 22) dR_vehicleAt_6 (by decide) (fun q1 => absurd q1 (by decide)) (fun q1 => ?_)
      refine se_iload_n (pc := 9) rfl dR_vehicleAt_9 ?_
      refine se_iconst (pc := 10) 0 (by decide) dR_vehicleAt_10 ?_
      refine se_iconst (pc := 11) 5 (by decide) dR_vehicleAt_11 ?_
      refine se_invS (pc := 12) (as := [.int 0, .int 0, .int 5]) (st := [.ref 41]) (vok sc) kR_in dR_vehicleAt_12 ⟨wd_652, wd_653, wd_3⟩ rfl (Nat.le_of_ble_eq_true rfl) (Nat.le_of_ble_eq_true rfl) (x_R_inc true (by decide)) (C2 := 0) (S2 := 0) (by omega) (by omega) (fun v12 h12 _ q12 => ?_) (fun x hx => absurd hx List.not_mem_nil) (fun v12 h12 _ q12 => ?_)
      rotate_left
      · cases q12.2
      obtain ⟨h12e, q12⟩ := q12
      have h12f := h12e.symm
      subst h12f
      cases q12
      show se_W _ _ _ _ _ _ (.int 1 :: _) _ _ _ _
      refine se_if_eq (pc := 15) (tgt := 22) dR_vehicleAt_15 (by decide) (fun q2 => absurd q2 (by decide)) (fun q2 => ?_)
      refine se_iconst (pc := 18) 1 (by decide) dR_vehicleAt_18 ?_
      refine se_goto (pc := 19) (tgt := 23) dR_vehicleAt_19 (by decide) ?_
      refine se_iconst (pc := 23) 1 (by decide) dR_vehicleAt_23 ?_
      refine se_iconst (pc := 24) 1 (by decide) dR_vehicleAt_24 ?_
      refine se_invV (pc := 25) (as := [.int 1, .int 1, .int 1]) (st := []) (vok sc) kR_goes dR_vehicleAt_25 ⟨wd_655, wd_657, sl_10, wd_3⟩ rfl hO rfl (Nat.le_of_ble_eq_true rfl) (Nat.le_of_ble_eq_true rfl) (g_goes (r := 1) 0 hR (by decide) (by decide)) (C2 := 0) (S2 := 0) (by omega) (by omega) (fun v25 h25 _ q25 => ?_) (fun x hx => absurd hx List.not_mem_nil) (fun v25 h25 _ q25 => ?_)
      rotate_left
      · cases q25.2.2
      obtain ⟨hR9, hf9, q25⟩ := q25
      cases q25
      have hO9 := hR9.1
      rw [hI.1, hI.2.2.1] at hO9
      refine se_if_ne (pc := 28) (tgt := 33) dR_vehicleAt_28 (by decide) (fun q3 => ?_) (fun q3 => absurd q3 (by decide))
      refine se_iconst (pc := 33) 0 (by decide) dR_vehicleAt_33 ?_
      refine se_istore_n (pc := 34) dR_vehicleAt_34 (by decide) [some (.ref 41), some (.int (nI jv)), some (.int 0), some (.int 0), none] rfl ?_
      refine se_iconst (pc := 35) 0 (by decide) dR_vehicleAt_35 ?_
      refine se_istore (pc := 36) dR_vehicleAt_36 (by decide) [some (.ref 41), some (.int (nI jv)), some (.int 0), some (.int 0), some (.int 0)] rfl ?_
      refine lp_R_vehicleAt (v := jv) hR9 hI ?_ (st_nd S) 0 (by omega)
      refine se_iload_n (pc := 77) rfl dR_vehicleAt_77 ?_
      refine se_if_ne (pc := 78) (tgt := 90) dR_vehicleAt_78 (by decide) (fun q1 => absurd q1 (by decide)) (fun q1 => ?_)
      refine se_aload_n (pc := 81) rfl dR_vehicleAt_81 ?_
      refine se_getf (pc := 82) clR 13 dR_vehicleAt_82 wd_566 rfl (by decide) hO9 rfl ?_
      refine se_iload_n (pc := 85) rfl dR_vehicleAt_85 ?_
      refine se_ialdN (pc := 86) 0 dR_vehicleAt_86 rfl hR9.2.2.2.2.2.2.2.2.2.2.2.1 (by omega) (by decide) ?_
      rw [rf_v_at]
      refine se_goto (pc := 87) (tgt := 155) dR_vehicleAt_87 (by decide) ?_
      exact se_iret (pc := 155) dR_vehicleAt_155 rfl (rPi_ok (by clear hR hO hR9 hO9 hf9; simp_all [sp_vehicleAt]) hR9 hf9)
    · cases q3
      refine se_if_eq (pc := 6) (tgt := 22) dR_vehicleAt_6 (by decide) (fun q4 => ?_) (fun q4 => absurd q4 (by decide))
      refine se_iconst (pc := 22) 0 (by decide) dR_vehicleAt_22 ?_
      refine se_iconst (pc := 23) 1 (by decide) dR_vehicleAt_23 ?_
      refine se_iconst (pc := 24) 1 (by decide) dR_vehicleAt_24 ?_
      refine se_invV (pc := 25) (as := [.int 0, .int 1, .int 1]) (st := []) (vok sc) kR_goes dR_vehicleAt_25 ⟨wd_655, wd_657, sl_10, wd_3⟩ rfl hO rfl (Nat.le_of_ble_eq_true rfl) (Nat.le_of_ble_eq_true rfl) (g_goes (r := 0) 1 hR (by decide) (by decide)) (C2 := 0) (S2 := 0) (by omega) (by omega) (fun v25 h25 _ q25 => ?_) (fun x hx => absurd hx List.not_mem_nil) (fun v25 h25 _ q25 => ?_)
      rotate_left
      · cases q25.2.2
      obtain ⟨hR9, hf9, q25⟩ := q25
      cases q25
      have hO9 := hR9.1
      rw [hI.1, hI.2.2.1] at hO9
      refine se_if_ne (pc := 28) (tgt := 33) dR_vehicleAt_28 (by decide) (fun q5 => absurd q5 (by decide)) (fun q5 => ?_)
      refine se_iconst (pc := 31) 0 (by decide) dR_vehicleAt_31 ?_
      exact se_iret (pc := 32) dR_vehicleAt_32 rfl (rPi_no 0 (by clear hR hO hR9 hO9 hf9; simp_all [sp_vehicleAt]) hR9 hf9)
  · refine se_aload_n (pc := 0) rfl dR_vehicleAt_0 ?_
    refine se_aload_n (pc := 1) rfl dR_vehicleAt_1 ?_
    refine se_iload_n (pc := 2) rfl dR_vehicleAt_2 ?_
    refine se_invV (pc := 3) (as := [.int v]) (st := [.ref 41]) (vok sc) kR_isVehicle dR_vehicleAt_3 ⟨wd_674, wd_676, sl_11, wd_3⟩ rfl hO rfl (Nat.le_of_ble_eq_true rfl) (Nat.le_of_ble_eq_true rfl) (x_R_isVehicle (by omega) hR hI) (C2 := 0) (S2 := 0) (by omega) (by omega) (fun v3 h3 _ q3 => ?_) (fun x hx => absurd hx List.not_mem_nil) (fun v3 h3 _ q3 => ?_)
    rotate_left
    · rcases q3.2 with ⟨_, _, _, _, e⟩ | ⟨_, e⟩ <;> cases e
    obtain ⟨h3e, q3⟩ := q3
    have h3f := h3e.symm
    subst h3f
    rcases q3 with ⟨jv, hxv, hjv, rfl, q3⟩ | ⟨hxv, q3⟩
    · cases q3
      refine se_if_eq (pc := 6) (tgt := 22) dR_vehicleAt_6 (by decide) (fun q1 => absurd q1 (by decide)) (fun q1 => ?_)
      refine se_iload_n (pc := 9) rfl dR_vehicleAt_9 ?_
      refine se_iconst (pc := 10) 0 (by decide) dR_vehicleAt_10 ?_
      refine se_iconst (pc := 11) 5 (by decide) dR_vehicleAt_11 ?_
      refine se_invS (pc := 12) (as := [.int 1, .int 0, .int 5]) (st := [.ref 41]) (vok sc) kR_in dR_vehicleAt_12 ⟨wd_652, wd_653, wd_3⟩ rfl (Nat.le_of_ble_eq_true rfl) (Nat.le_of_ble_eq_true rfl) (x_R_inc true (by decide)) (C2 := 0) (S2 := 0) (by omega) (by omega) (fun v12 h12 _ q12 => ?_) (fun x hx => absurd hx List.not_mem_nil) (fun v12 h12 _ q12 => ?_)
      rotate_left
      · cases q12.2
      obtain ⟨h12e, q12⟩ := q12
      have h12f := h12e.symm
      subst h12f
      cases q12
      show se_W _ _ _ _ _ _ (.int 1 :: _) _ _ _ _
      refine se_if_eq (pc := 15) (tgt := 22) dR_vehicleAt_15 (by decide) (fun q2 => absurd q2 (by decide)) (fun q2 => ?_)
      refine se_iconst (pc := 18) 1 (by decide) dR_vehicleAt_18 ?_
      refine se_goto (pc := 19) (tgt := 23) dR_vehicleAt_19 (by decide) ?_
      refine se_iconst (pc := 23) 1 (by decide) dR_vehicleAt_23 ?_
      refine se_iconst (pc := 24) 1 (by decide) dR_vehicleAt_24 ?_
      refine se_invV (pc := 25) (as := [.int 1, .int 1, .int 1]) (st := []) (vok sc) kR_goes dR_vehicleAt_25 ⟨wd_655, wd_657, sl_10, wd_3⟩ rfl hO rfl (Nat.le_of_ble_eq_true rfl) (Nat.le_of_ble_eq_true rfl) (g_goes (r := 1) 0 hR (by decide) (by decide)) (C2 := 0) (S2 := 0) (by omega) (by omega) (fun v25 h25 _ q25 => ?_) (fun x hx => absurd hx List.not_mem_nil) (fun v25 h25 _ q25 => ?_)
      rotate_left
      · cases q25.2.2
      obtain ⟨hR9, hf9, q25⟩ := q25
      cases q25
      have hO9 := hR9.1
      rw [hI.1, hI.2.2.1] at hO9
      refine se_if_ne (pc := 28) (tgt := 33) dR_vehicleAt_28 (by decide) (fun q3 => ?_) (fun q3 => absurd q3 (by decide))
      refine se_iconst (pc := 33) 0 (by decide) dR_vehicleAt_33 ?_
      refine se_istore_n (pc := 34) dR_vehicleAt_34 (by decide) [some (.ref 41), some (.int (nI jv)), some (.int 1), some (.int 0), none] rfl ?_
      refine se_iconst (pc := 35) 0 (by decide) dR_vehicleAt_35 ?_
      refine se_istore (pc := 36) dR_vehicleAt_36 (by decide) [some (.ref 41), some (.int (nI jv)), some (.int 1), some (.int 0), some (.int 0)] rfl ?_
      refine lp_R_vehicleAt (v := jv) hR9 hI ?_ (st_nd S) 0 (by omega)
      refine se_iload_n (pc := 77) rfl dR_vehicleAt_77 ?_
      refine se_if_ne (pc := 78) (tgt := 90) dR_vehicleAt_78 (by decide) (fun q1 => ?_) (fun q1 => absurd q1 (by decide))
      refine se_iload_n (pc := 90) rfl dR_vehicleAt_90 ?_
      refine se_iconst (pc := 91) 1 (by decide) dR_vehicleAt_91 ?_
      refine se_icmp_ne (pc := 92) (tgt := 112) dR_vehicleAt_92 (by decide) (fun q2 => absurd q2 (by decide)) (fun q2 => ?_)
      refine se_aload_n (pc := 95) rfl dR_vehicleAt_95 ?_
      refine se_getf (pc := 96) clR 11 dR_vehicleAt_96 wd_564 rfl (by decide) hO9 rfl ?_
      refine se_iload_n (pc := 99) rfl dR_vehicleAt_99 ?_
      refine se_zaldN (pc := 100) 1 dR_vehicleAt_100 rfl hR9.2.2.2.2.2.2.2.2.2.1 (by omega) (by decide) ?_
      rw [rf_v_at]
      refine se_if_eq (pc := 101) (tgt := 108) dR_vehicleAt_101 (by decide) (fun q3 => ?_) (fun q3 => ?_)
      · refine se_iconst (pc := 108) 1 (by decide) dR_vehicleAt_108 ?_
        refine se_goto (pc := 109) (tgt := 155) dR_vehicleAt_109 (by decide) ?_
        exact se_iret (pc := 155) dR_vehicleAt_155 rfl (rPi_ok (by clear hR hO hR9 hO9 hf9; simp_all [sp_vehicleAt]) hR9 hf9)
      · refine se_iconst (pc := 104) 0 (by decide) dR_vehicleAt_104 ?_
        refine se_goto (pc := 105) (tgt := 155) dR_vehicleAt_105 (by decide) ?_
        exact se_iret (pc := 155) dR_vehicleAt_155 rfl (rPi_ok (by clear hR hO hR9 hO9 hf9; simp_all [sp_vehicleAt]) hR9 hf9)
    · cases q3
      refine se_if_eq (pc := 6) (tgt := 22) dR_vehicleAt_6 (by decide) (fun q4 => ?_) (fun q4 => absurd q4 (by decide))
      refine se_iconst (pc := 22) 0 (by decide) dR_vehicleAt_22 ?_
      refine se_iconst (pc := 23) 1 (by decide) dR_vehicleAt_23 ?_
      refine se_iconst (pc := 24) 1 (by decide) dR_vehicleAt_24 ?_
      refine se_invV (pc := 25) (as := [.int 0, .int 1, .int 1]) (st := []) (vok sc) kR_goes dR_vehicleAt_25 ⟨wd_655, wd_657, sl_10, wd_3⟩ rfl hO rfl (Nat.le_of_ble_eq_true rfl) (Nat.le_of_ble_eq_true rfl) (g_goes (r := 0) 1 hR (by decide) (by decide)) (C2 := 0) (S2 := 0) (by omega) (by omega) (fun v25 h25 _ q25 => ?_) (fun x hx => absurd hx List.not_mem_nil) (fun v25 h25 _ q25 => ?_)
      rotate_left
      · cases q25.2.2
      obtain ⟨hR9, hf9, q25⟩ := q25
      cases q25
      have hO9 := hR9.1
      rw [hI.1, hI.2.2.1] at hO9
      refine se_if_ne (pc := 28) (tgt := 33) dR_vehicleAt_28 (by decide) (fun q5 => absurd q5 (by decide)) (fun q5 => ?_)
      refine se_iconst (pc := 31) 0 (by decide) dR_vehicleAt_31 ?_
      exact se_iret (pc := 32) dR_vehicleAt_32 rfl (rPi_no 0 (by clear hR hO hR9 hO9 hf9; simp_all [sp_vehicleAt]) hR9 hf9)
  · refine se_aload_n (pc := 0) rfl dR_vehicleAt_0 ?_
    refine se_aload_n (pc := 1) rfl dR_vehicleAt_1 ?_
    refine se_iload_n (pc := 2) rfl dR_vehicleAt_2 ?_
    refine se_invV (pc := 3) (as := [.int v]) (st := [.ref 41]) (vok sc) kR_isVehicle dR_vehicleAt_3 ⟨wd_674, wd_676, sl_11, wd_3⟩ rfl hO rfl (Nat.le_of_ble_eq_true rfl) (Nat.le_of_ble_eq_true rfl) (x_R_isVehicle (by omega) hR hI) (C2 := 0) (S2 := 0) (by omega) (by omega) (fun v3 h3 _ q3 => ?_) (fun x hx => absurd hx List.not_mem_nil) (fun v3 h3 _ q3 => ?_)
    rotate_left
    · rcases q3.2 with ⟨_, _, _, _, e⟩ | ⟨_, e⟩ <;> cases e
    obtain ⟨h3e, q3⟩ := q3
    have h3f := h3e.symm
    subst h3f
    rcases q3 with ⟨jv, hxv, hjv, rfl, q3⟩ | ⟨hxv, q3⟩
    · cases q3
      refine se_if_eq (pc := 6) (tgt := 22) dR_vehicleAt_6 (by decide) (fun q1 => absurd q1 (by decide)) (fun q1 => ?_)
      refine se_iload_n (pc := 9) rfl dR_vehicleAt_9 ?_
      refine se_iconst (pc := 10) 0 (by decide) dR_vehicleAt_10 ?_
      refine se_iconst (pc := 11) 5 (by decide) dR_vehicleAt_11 ?_
      refine se_invS (pc := 12) (as := [.int 2, .int 0, .int 5]) (st := [.ref 41]) (vok sc) kR_in dR_vehicleAt_12 ⟨wd_652, wd_653, wd_3⟩ rfl (Nat.le_of_ble_eq_true rfl) (Nat.le_of_ble_eq_true rfl) (x_R_inc true (by decide)) (C2 := 0) (S2 := 0) (by omega) (by omega) (fun v12 h12 _ q12 => ?_) (fun x hx => absurd hx List.not_mem_nil) (fun v12 h12 _ q12 => ?_)
      rotate_left
      · cases q12.2
      obtain ⟨h12e, q12⟩ := q12
      have h12f := h12e.symm
      subst h12f
      cases q12
      show se_W _ _ _ _ _ _ (.int 1 :: _) _ _ _ _
      refine se_if_eq (pc := 15) (tgt := 22) dR_vehicleAt_15 (by decide) (fun q2 => absurd q2 (by decide)) (fun q2 => ?_)
      refine se_iconst (pc := 18) 1 (by decide) dR_vehicleAt_18 ?_
      refine se_goto (pc := 19) (tgt := 23) dR_vehicleAt_19 (by decide) ?_
      refine se_iconst (pc := 23) 1 (by decide) dR_vehicleAt_23 ?_
      refine se_iconst (pc := 24) 1 (by decide) dR_vehicleAt_24 ?_
      refine se_invV (pc := 25) (as := [.int 1, .int 1, .int 1]) (st := []) (vok sc) kR_goes dR_vehicleAt_25 ⟨wd_655, wd_657, sl_10, wd_3⟩ rfl hO rfl (Nat.le_of_ble_eq_true rfl) (Nat.le_of_ble_eq_true rfl) (g_goes (r := 1) 0 hR (by decide) (by decide)) (C2 := 0) (S2 := 0) (by omega) (by omega) (fun v25 h25 _ q25 => ?_) (fun x hx => absurd hx List.not_mem_nil) (fun v25 h25 _ q25 => ?_)
      rotate_left
      · cases q25.2.2
      obtain ⟨hR9, hf9, q25⟩ := q25
      cases q25
      have hO9 := hR9.1
      rw [hI.1, hI.2.2.1] at hO9
      refine se_if_ne (pc := 28) (tgt := 33) dR_vehicleAt_28 (by decide) (fun q3 => ?_) (fun q3 => absurd q3 (by decide))
      refine se_iconst (pc := 33) 0 (by decide) dR_vehicleAt_33 ?_
      refine se_istore_n (pc := 34) dR_vehicleAt_34 (by decide) [some (.ref 41), some (.int (nI jv)), some (.int 2), some (.int 0), none] rfl ?_
      refine se_iconst (pc := 35) 0 (by decide) dR_vehicleAt_35 ?_
      refine se_istore (pc := 36) dR_vehicleAt_36 (by decide) [some (.ref 41), some (.int (nI jv)), some (.int 2), some (.int 0), some (.int 0)] rfl ?_
      refine lp_R_vehicleAt (v := jv) hR9 hI ?_ (st_nd S) 0 (by omega)
      refine se_iload_n (pc := 77) rfl dR_vehicleAt_77 ?_
      refine se_if_ne (pc := 78) (tgt := 90) dR_vehicleAt_78 (by decide) (fun q1 => ?_) (fun q1 => absurd q1 (by decide))
      refine se_iload_n (pc := 90) rfl dR_vehicleAt_90 ?_
      refine se_iconst (pc := 91) 1 (by decide) dR_vehicleAt_91 ?_
      refine se_icmp_ne (pc := 92) (tgt := 112) dR_vehicleAt_92 (by decide) (fun q2 => ?_) (fun q2 => absurd q2 (by decide))
      refine se_iload_n (pc := 112) rfl dR_vehicleAt_112 ?_
      refine se_iconst (pc := 113) 2 (by decide) dR_vehicleAt_113 ?_
      refine se_icmp_ne (pc := 114) (tgt := 126) dR_vehicleAt_114 (by decide) (fun q3 => absurd q3 (by decide)) (fun q3 => ?_)
      refine se_aload_n (pc := 117) rfl dR_vehicleAt_117 ?_
      refine se_getf (pc := 118) clR 14 dR_vehicleAt_118 wd_567 rfl (by decide) hO9 rfl ?_
      refine se_iload_n (pc := 121) rfl dR_vehicleAt_121 ?_
      refine se_ialdN (pc := 122) 0 dR_vehicleAt_122 rfl hR9.2.2.2.2.2.2.2.2.2.2.2.2.1 (by omega) (by decide) ?_
      rw [rf_v_at]
      refine se_goto (pc := 123) (tgt := 155) dR_vehicleAt_123 (by decide) ?_
      exact se_iret (pc := 155) dR_vehicleAt_155 rfl (rPi_ok (by clear hR hO hR9 hO9 hf9; simp_all [sp_vehicleAt]) hR9 hf9)
    · cases q3
      refine se_if_eq (pc := 6) (tgt := 22) dR_vehicleAt_6 (by decide) (fun q4 => ?_) (fun q4 => absurd q4 (by decide))
      refine se_iconst (pc := 22) 0 (by decide) dR_vehicleAt_22 ?_
      refine se_iconst (pc := 23) 1 (by decide) dR_vehicleAt_23 ?_
      refine se_iconst (pc := 24) 1 (by decide) dR_vehicleAt_24 ?_
      refine se_invV (pc := 25) (as := [.int 0, .int 1, .int 1]) (st := []) (vok sc) kR_goes dR_vehicleAt_25 ⟨wd_655, wd_657, sl_10, wd_3⟩ rfl hO rfl (Nat.le_of_ble_eq_true rfl) (Nat.le_of_ble_eq_true rfl) (g_goes (r := 0) 1 hR (by decide) (by decide)) (C2 := 0) (S2 := 0) (by omega) (by omega) (fun v25 h25 _ q25 => ?_) (fun x hx => absurd hx List.not_mem_nil) (fun v25 h25 _ q25 => ?_)
      rotate_left
      · cases q25.2.2
      obtain ⟨hR9, hf9, q25⟩ := q25
      cases q25
      have hO9 := hR9.1
      rw [hI.1, hI.2.2.1] at hO9
      refine se_if_ne (pc := 28) (tgt := 33) dR_vehicleAt_28 (by decide) (fun q5 => absurd q5 (by decide)) (fun q5 => ?_)
      refine se_iconst (pc := 31) 0 (by decide) dR_vehicleAt_31 ?_
      exact se_iret (pc := 32) dR_vehicleAt_32 rfl (rPi_no 0 (by clear hR hO hR9 hO9 hf9; simp_all [sp_vehicleAt]) hR9 hf9)
  · refine se_aload_n (pc := 0) rfl dR_vehicleAt_0 ?_
    refine se_aload_n (pc := 1) rfl dR_vehicleAt_1 ?_
    refine se_iload_n (pc := 2) rfl dR_vehicleAt_2 ?_
    refine se_invV (pc := 3) (as := [.int v]) (st := [.ref 41]) (vok sc) kR_isVehicle dR_vehicleAt_3 ⟨wd_674, wd_676, sl_11, wd_3⟩ rfl hO rfl (Nat.le_of_ble_eq_true rfl) (Nat.le_of_ble_eq_true rfl) (x_R_isVehicle (by omega) hR hI) (C2 := 0) (S2 := 0) (by omega) (by omega) (fun v3 h3 _ q3 => ?_) (fun x hx => absurd hx List.not_mem_nil) (fun v3 h3 _ q3 => ?_)
    rotate_left
    · rcases q3.2 with ⟨_, _, _, _, e⟩ | ⟨_, e⟩ <;> cases e
    obtain ⟨h3e, q3⟩ := q3
    have h3f := h3e.symm
    subst h3f
    rcases q3 with ⟨jv, hxv, hjv, rfl, q3⟩ | ⟨hxv, q3⟩
    · cases q3
      refine se_if_eq (pc := 6) (tgt := 22) dR_vehicleAt_6 (by decide) (fun q1 => absurd q1 (by decide)) (fun q1 => ?_)
      refine se_iload_n (pc := 9) rfl dR_vehicleAt_9 ?_
      refine se_iconst (pc := 10) 0 (by decide) dR_vehicleAt_10 ?_
      refine se_iconst (pc := 11) 5 (by decide) dR_vehicleAt_11 ?_
      refine se_invS (pc := 12) (as := [.int 3, .int 0, .int 5]) (st := [.ref 41]) (vok sc) kR_in dR_vehicleAt_12 ⟨wd_652, wd_653, wd_3⟩ rfl (Nat.le_of_ble_eq_true rfl) (Nat.le_of_ble_eq_true rfl) (x_R_inc true (by decide)) (C2 := 0) (S2 := 0) (by omega) (by omega) (fun v12 h12 _ q12 => ?_) (fun x hx => absurd hx List.not_mem_nil) (fun v12 h12 _ q12 => ?_)
      rotate_left
      · cases q12.2
      obtain ⟨h12e, q12⟩ := q12
      have h12f := h12e.symm
      subst h12f
      cases q12
      show se_W _ _ _ _ _ _ (.int 1 :: _) _ _ _ _
      refine se_if_eq (pc := 15) (tgt := 22) dR_vehicleAt_15 (by decide) (fun q2 => absurd q2 (by decide)) (fun q2 => ?_)
      refine se_iconst (pc := 18) 1 (by decide) dR_vehicleAt_18 ?_
      refine se_goto (pc := 19) (tgt := 23) dR_vehicleAt_19 (by decide) ?_
      refine se_iconst (pc := 23) 1 (by decide) dR_vehicleAt_23 ?_
      refine se_iconst (pc := 24) 1 (by decide) dR_vehicleAt_24 ?_
      refine se_invV (pc := 25) (as := [.int 1, .int 1, .int 1]) (st := []) (vok sc) kR_goes dR_vehicleAt_25 ⟨wd_655, wd_657, sl_10, wd_3⟩ rfl hO rfl (Nat.le_of_ble_eq_true rfl) (Nat.le_of_ble_eq_true rfl) (g_goes (r := 1) 0 hR (by decide) (by decide)) (C2 := 0) (S2 := 0) (by omega) (by omega) (fun v25 h25 _ q25 => ?_) (fun x hx => absurd hx List.not_mem_nil) (fun v25 h25 _ q25 => ?_)
      rotate_left
      · cases q25.2.2
      obtain ⟨hR9, hf9, q25⟩ := q25
      cases q25
      have hO9 := hR9.1
      rw [hI.1, hI.2.2.1] at hO9
      refine se_if_ne (pc := 28) (tgt := 33) dR_vehicleAt_28 (by decide) (fun q3 => ?_) (fun q3 => absurd q3 (by decide))
      refine se_iconst (pc := 33) 0 (by decide) dR_vehicleAt_33 ?_
      refine se_istore_n (pc := 34) dR_vehicleAt_34 (by decide) [some (.ref 41), some (.int (nI jv)), some (.int 3), some (.int 0), none] rfl ?_
      refine se_iconst (pc := 35) 0 (by decide) dR_vehicleAt_35 ?_
      refine se_istore (pc := 36) dR_vehicleAt_36 (by decide) [some (.ref 41), some (.int (nI jv)), some (.int 3), some (.int 0), some (.int 0)] rfl ?_
      refine lp_R_vehicleAt (v := jv) hR9 hI ?_ (st_nd S) 0 (by omega)
      refine se_iload_n (pc := 77) rfl dR_vehicleAt_77 ?_
      refine se_if_ne (pc := 78) (tgt := 90) dR_vehicleAt_78 (by decide) (fun q1 => ?_) (fun q1 => absurd q1 (by decide))
      refine se_iload_n (pc := 90) rfl dR_vehicleAt_90 ?_
      refine se_iconst (pc := 91) 1 (by decide) dR_vehicleAt_91 ?_
      refine se_icmp_ne (pc := 92) (tgt := 112) dR_vehicleAt_92 (by decide) (fun q2 => ?_) (fun q2 => absurd q2 (by decide))
      refine se_iload_n (pc := 112) rfl dR_vehicleAt_112 ?_
      refine se_iconst (pc := 113) 2 (by decide) dR_vehicleAt_113 ?_
      refine se_icmp_ne (pc := 114) (tgt := 126) dR_vehicleAt_114 (by decide) (fun q3 => ?_) (fun q3 => absurd q3 (by decide))
      refine se_iload_n (pc := 126) rfl dR_vehicleAt_126 ?_
      refine se_iconst (pc := 127) 3 (by decide) dR_vehicleAt_127 ?_
      refine se_icmp_ne (pc := 128) (tgt := 140) dR_vehicleAt_128 (by decide) (fun q4 => absurd q4 (by decide)) (fun q4 => ?_)
      refine se_aload_n (pc := 131) rfl dR_vehicleAt_131 ?_
      refine se_getf (pc := 132) clR 15 dR_vehicleAt_132 wd_568 rfl (by decide) hO9 rfl ?_
      refine se_iload_n (pc := 135) rfl dR_vehicleAt_135 ?_
      refine se_ialdN (pc := 136) 0 dR_vehicleAt_136 rfl hR9.2.2.2.2.2.2.2.2.2.2.2.2.2.1 (by omega) (by decide) ?_
      rw [rf_v_at]
      refine se_goto (pc := 137) (tgt := 155) dR_vehicleAt_137 (by decide) ?_
      exact se_iret (pc := 155) dR_vehicleAt_155 rfl (rPi_ok (by clear hR hO hR9 hO9 hf9; simp_all [sp_vehicleAt]) hR9 hf9)
    · cases q3
      refine se_if_eq (pc := 6) (tgt := 22) dR_vehicleAt_6 (by decide) (fun q4 => ?_) (fun q4 => absurd q4 (by decide))
      refine se_iconst (pc := 22) 0 (by decide) dR_vehicleAt_22 ?_
      refine se_iconst (pc := 23) 1 (by decide) dR_vehicleAt_23 ?_
      refine se_iconst (pc := 24) 1 (by decide) dR_vehicleAt_24 ?_
      refine se_invV (pc := 25) (as := [.int 0, .int 1, .int 1]) (st := []) (vok sc) kR_goes dR_vehicleAt_25 ⟨wd_655, wd_657, sl_10, wd_3⟩ rfl hO rfl (Nat.le_of_ble_eq_true rfl) (Nat.le_of_ble_eq_true rfl) (g_goes (r := 0) 1 hR (by decide) (by decide)) (C2 := 0) (S2 := 0) (by omega) (by omega) (fun v25 h25 _ q25 => ?_) (fun x hx => absurd hx List.not_mem_nil) (fun v25 h25 _ q25 => ?_)
      rotate_left
      · cases q25.2.2
      obtain ⟨hR9, hf9, q25⟩ := q25
      cases q25
      have hO9 := hR9.1
      rw [hI.1, hI.2.2.1] at hO9
      refine se_if_ne (pc := 28) (tgt := 33) dR_vehicleAt_28 (by decide) (fun q5 => absurd q5 (by decide)) (fun q5 => ?_)
      refine se_iconst (pc := 31) 0 (by decide) dR_vehicleAt_31 ?_
      exact se_iret (pc := 32) dR_vehicleAt_32 rfl (rPi_no 0 (by clear hR hO hR9 hO9 hf9; simp_all [sp_vehicleAt]) hR9 hf9)
  · refine se_aload_n (pc := 0) rfl dR_vehicleAt_0 ?_
    refine se_aload_n (pc := 1) rfl dR_vehicleAt_1 ?_
    refine se_iload_n (pc := 2) rfl dR_vehicleAt_2 ?_
    refine se_invV (pc := 3) (as := [.int v]) (st := [.ref 41]) (vok sc) kR_isVehicle dR_vehicleAt_3 ⟨wd_674, wd_676, sl_11, wd_3⟩ rfl hO rfl (Nat.le_of_ble_eq_true rfl) (Nat.le_of_ble_eq_true rfl) (x_R_isVehicle (by omega) hR hI) (C2 := 0) (S2 := 0) (by omega) (by omega) (fun v3 h3 _ q3 => ?_) (fun x hx => absurd hx List.not_mem_nil) (fun v3 h3 _ q3 => ?_)
    rotate_left
    · rcases q3.2 with ⟨_, _, _, _, e⟩ | ⟨_, e⟩ <;> cases e
    obtain ⟨h3e, q3⟩ := q3
    have h3f := h3e.symm
    subst h3f
    rcases q3 with ⟨jv, hxv, hjv, rfl, q3⟩ | ⟨hxv, q3⟩
    · cases q3
      refine se_if_eq (pc := 6) (tgt := 22) dR_vehicleAt_6 (by decide) (fun q1 => absurd q1 (by decide)) (fun q1 => ?_)
      refine se_iload_n (pc := 9) rfl dR_vehicleAt_9 ?_
      refine se_iconst (pc := 10) 0 (by decide) dR_vehicleAt_10 ?_
      refine se_iconst (pc := 11) 5 (by decide) dR_vehicleAt_11 ?_
      refine se_invS (pc := 12) (as := [.int 4, .int 0, .int 5]) (st := [.ref 41]) (vok sc) kR_in dR_vehicleAt_12 ⟨wd_652, wd_653, wd_3⟩ rfl (Nat.le_of_ble_eq_true rfl) (Nat.le_of_ble_eq_true rfl) (x_R_inc true (by decide)) (C2 := 0) (S2 := 0) (by omega) (by omega) (fun v12 h12 _ q12 => ?_) (fun x hx => absurd hx List.not_mem_nil) (fun v12 h12 _ q12 => ?_)
      rotate_left
      · cases q12.2
      obtain ⟨h12e, q12⟩ := q12
      have h12f := h12e.symm
      subst h12f
      cases q12
      show se_W _ _ _ _ _ _ (.int 1 :: _) _ _ _ _
      refine se_if_eq (pc := 15) (tgt := 22) dR_vehicleAt_15 (by decide) (fun q2 => absurd q2 (by decide)) (fun q2 => ?_)
      refine se_iconst (pc := 18) 1 (by decide) dR_vehicleAt_18 ?_
      refine se_goto (pc := 19) (tgt := 23) dR_vehicleAt_19 (by decide) ?_
      refine se_iconst (pc := 23) 1 (by decide) dR_vehicleAt_23 ?_
      refine se_iconst (pc := 24) 1 (by decide) dR_vehicleAt_24 ?_
      refine se_invV (pc := 25) (as := [.int 1, .int 1, .int 1]) (st := []) (vok sc) kR_goes dR_vehicleAt_25 ⟨wd_655, wd_657, sl_10, wd_3⟩ rfl hO rfl (Nat.le_of_ble_eq_true rfl) (Nat.le_of_ble_eq_true rfl) (g_goes (r := 1) 0 hR (by decide) (by decide)) (C2 := 0) (S2 := 0) (by omega) (by omega) (fun v25 h25 _ q25 => ?_) (fun x hx => absurd hx List.not_mem_nil) (fun v25 h25 _ q25 => ?_)
      rotate_left
      · cases q25.2.2
      obtain ⟨hR9, hf9, q25⟩ := q25
      cases q25
      have hO9 := hR9.1
      rw [hI.1, hI.2.2.1] at hO9
      refine se_if_ne (pc := 28) (tgt := 33) dR_vehicleAt_28 (by decide) (fun q3 => ?_) (fun q3 => absurd q3 (by decide))
      refine se_iconst (pc := 33) 0 (by decide) dR_vehicleAt_33 ?_
      refine se_istore_n (pc := 34) dR_vehicleAt_34 (by decide) [some (.ref 41), some (.int (nI jv)), some (.int 4), some (.int 0), none] rfl ?_
      refine se_iconst (pc := 35) 0 (by decide) dR_vehicleAt_35 ?_
      refine se_istore (pc := 36) dR_vehicleAt_36 (by decide) [some (.ref 41), some (.int (nI jv)), some (.int 4), some (.int 0), some (.int 0)] rfl ?_
      refine lp_R_vehicleAt (v := jv) hR9 hI ?_ (st_nd S) 0 (by omega)
      refine se_iload_n (pc := 77) rfl dR_vehicleAt_77 ?_
      refine se_if_ne (pc := 78) (tgt := 90) dR_vehicleAt_78 (by decide) (fun q1 => ?_) (fun q1 => absurd q1 (by decide))
      refine se_iload_n (pc := 90) rfl dR_vehicleAt_90 ?_
      refine se_iconst (pc := 91) 1 (by decide) dR_vehicleAt_91 ?_
      refine se_icmp_ne (pc := 92) (tgt := 112) dR_vehicleAt_92 (by decide) (fun q2 => ?_) (fun q2 => absurd q2 (by decide))
      refine se_iload_n (pc := 112) rfl dR_vehicleAt_112 ?_
      refine se_iconst (pc := 113) 2 (by decide) dR_vehicleAt_113 ?_
      refine se_icmp_ne (pc := 114) (tgt := 126) dR_vehicleAt_114 (by decide) (fun q3 => ?_) (fun q3 => absurd q3 (by decide))
      refine se_iload_n (pc := 126) rfl dR_vehicleAt_126 ?_
      refine se_iconst (pc := 127) 3 (by decide) dR_vehicleAt_127 ?_
      refine se_icmp_ne (pc := 128) (tgt := 140) dR_vehicleAt_128 (by decide) (fun q4 => ?_) (fun q4 => absurd q4 (by decide))
      refine se_iload_n (pc := 140) rfl dR_vehicleAt_140 ?_
      refine se_iconst (pc := 141) 4 (by decide) dR_vehicleAt_141 ?_
      refine se_icmp_ne (pc := 142) (tgt := 149) dR_vehicleAt_142 (by decide) (fun q5 => absurd q5 (by decide)) (fun q5 => ?_)
      refine se_iload_n (pc := 145) rfl dR_vehicleAt_145 ?_
      refine se_goto (pc := 146) (tgt := 155) dR_vehicleAt_146 (by decide) ?_
      exact se_iret (pc := 155) dR_vehicleAt_155 rfl (rPi_ok (by clear hR hO hR9 hO9 hf9; simp_all [sp_vehicleAt]) hR9 hf9)
    · cases q3
      refine se_if_eq (pc := 6) (tgt := 22) dR_vehicleAt_6 (by decide) (fun q4 => ?_) (fun q4 => absurd q4 (by decide))
      refine se_iconst (pc := 22) 0 (by decide) dR_vehicleAt_22 ?_
      refine se_iconst (pc := 23) 1 (by decide) dR_vehicleAt_23 ?_
      refine se_iconst (pc := 24) 1 (by decide) dR_vehicleAt_24 ?_
      refine se_invV (pc := 25) (as := [.int 0, .int 1, .int 1]) (st := []) (vok sc) kR_goes dR_vehicleAt_25 ⟨wd_655, wd_657, sl_10, wd_3⟩ rfl hO rfl (Nat.le_of_ble_eq_true rfl) (Nat.le_of_ble_eq_true rfl) (g_goes (r := 0) 1 hR (by decide) (by decide)) (C2 := 0) (S2 := 0) (by omega) (by omega) (fun v25 h25 _ q25 => ?_) (fun x hx => absurd hx List.not_mem_nil) (fun v25 h25 _ q25 => ?_)
      rotate_left
      · cases q25.2.2
      obtain ⟨hR9, hf9, q25⟩ := q25
      cases q25
      have hO9 := hR9.1
      rw [hI.1, hI.2.2.1] at hO9
      refine se_if_ne (pc := 28) (tgt := 33) dR_vehicleAt_28 (by decide) (fun q5 => absurd q5 (by decide)) (fun q5 => ?_)
      refine se_iconst (pc := 31) 0 (by decide) dR_vehicleAt_31 ?_
      exact se_iret (pc := 32) dR_vehicleAt_32 rfl (rPi_no 0 (by clear hR hO hR9 hO9 hf9; simp_all [sp_vehicleAt]) hR9 hf9)
  · refine se_aload_n (pc := 0) rfl dR_vehicleAt_0 ?_
    refine se_aload_n (pc := 1) rfl dR_vehicleAt_1 ?_
    refine se_iload_n (pc := 2) rfl dR_vehicleAt_2 ?_
    refine se_invV (pc := 3) (as := [.int v]) (st := [.ref 41]) (vok sc) kR_isVehicle dR_vehicleAt_3 ⟨wd_674, wd_676, sl_11, wd_3⟩ rfl hO rfl (Nat.le_of_ble_eq_true rfl) (Nat.le_of_ble_eq_true rfl) (x_R_isVehicle (by omega) hR hI) (C2 := 0) (S2 := 0) (by omega) (by omega) (fun v3 h3 _ q3 => ?_) (fun x hx => absurd hx List.not_mem_nil) (fun v3 h3 _ q3 => ?_)
    rotate_left
    · rcases q3.2 with ⟨_, _, _, _, e⟩ | ⟨_, e⟩ <;> cases e
    obtain ⟨h3e, q3⟩ := q3
    have h3f := h3e.symm
    subst h3f
    rcases q3 with ⟨jv, hxv, hjv, rfl, q3⟩ | ⟨hxv, q3⟩
    · cases q3
      refine se_if_eq (pc := 6) (tgt := 22) dR_vehicleAt_6 (by decide) (fun q1 => absurd q1 (by decide)) (fun q1 => ?_)
      refine se_iload_n (pc := 9) rfl dR_vehicleAt_9 ?_
      refine se_iconst (pc := 10) 0 (by decide) dR_vehicleAt_10 ?_
      refine se_iconst (pc := 11) 5 (by decide) dR_vehicleAt_11 ?_
      refine se_invS (pc := 12) (as := [.int 5, .int 0, .int 5]) (st := [.ref 41]) (vok sc) kR_in dR_vehicleAt_12 ⟨wd_652, wd_653, wd_3⟩ rfl (Nat.le_of_ble_eq_true rfl) (Nat.le_of_ble_eq_true rfl) (x_R_inc true (by decide)) (C2 := 0) (S2 := 0) (by omega) (by omega) (fun v12 h12 _ q12 => ?_) (fun x hx => absurd hx List.not_mem_nil) (fun v12 h12 _ q12 => ?_)
      rotate_left
      · cases q12.2
      obtain ⟨h12e, q12⟩ := q12
      have h12f := h12e.symm
      subst h12f
      cases q12
      show se_W _ _ _ _ _ _ (.int 1 :: _) _ _ _ _
      refine se_if_eq (pc := 15) (tgt := 22) dR_vehicleAt_15 (by decide) (fun q2 => absurd q2 (by decide)) (fun q2 => ?_)
      refine se_iconst (pc := 18) 1 (by decide) dR_vehicleAt_18 ?_
      refine se_goto (pc := 19) (tgt := 23) dR_vehicleAt_19 (by decide) ?_
      refine se_iconst (pc := 23) 1 (by decide) dR_vehicleAt_23 ?_
      refine se_iconst (pc := 24) 1 (by decide) dR_vehicleAt_24 ?_
      refine se_invV (pc := 25) (as := [.int 1, .int 1, .int 1]) (st := []) (vok sc) kR_goes dR_vehicleAt_25 ⟨wd_655, wd_657, sl_10, wd_3⟩ rfl hO rfl (Nat.le_of_ble_eq_true rfl) (Nat.le_of_ble_eq_true rfl) (g_goes (r := 1) 0 hR (by decide) (by decide)) (C2 := 0) (S2 := 0) (by omega) (by omega) (fun v25 h25 _ q25 => ?_) (fun x hx => absurd hx List.not_mem_nil) (fun v25 h25 _ q25 => ?_)
      rotate_left
      · cases q25.2.2
      obtain ⟨hR9, hf9, q25⟩ := q25
      cases q25
      have hO9 := hR9.1
      rw [hI.1, hI.2.2.1] at hO9
      refine se_if_ne (pc := 28) (tgt := 33) dR_vehicleAt_28 (by decide) (fun q3 => ?_) (fun q3 => absurd q3 (by decide))
      refine se_iconst (pc := 33) 0 (by decide) dR_vehicleAt_33 ?_
      refine se_istore_n (pc := 34) dR_vehicleAt_34 (by decide) [some (.ref 41), some (.int (nI jv)), some (.int 5), some (.int 0), none] rfl ?_
      refine se_iconst (pc := 35) 0 (by decide) dR_vehicleAt_35 ?_
      refine se_istore (pc := 36) dR_vehicleAt_36 (by decide) [some (.ref 41), some (.int (nI jv)), some (.int 5), some (.int 0), some (.int 0)] rfl ?_
      refine lp_R_vehicleAt (v := jv) hR9 hI ?_ (st_nd S) 0 (by omega)
      refine se_iload_n (pc := 77) rfl dR_vehicleAt_77 ?_
      refine se_if_ne (pc := 78) (tgt := 90) dR_vehicleAt_78 (by decide) (fun q1 => ?_) (fun q1 => absurd q1 (by decide))
      refine se_iload_n (pc := 90) rfl dR_vehicleAt_90 ?_
      refine se_iconst (pc := 91) 1 (by decide) dR_vehicleAt_91 ?_
      refine se_icmp_ne (pc := 92) (tgt := 112) dR_vehicleAt_92 (by decide) (fun q2 => ?_) (fun q2 => absurd q2 (by decide))
      refine se_iload_n (pc := 112) rfl dR_vehicleAt_112 ?_
      refine se_iconst (pc := 113) 2 (by decide) dR_vehicleAt_113 ?_
      refine se_icmp_ne (pc := 114) (tgt := 126) dR_vehicleAt_114 (by decide) (fun q3 => ?_) (fun q3 => absurd q3 (by decide))
      refine se_iload_n (pc := 126) rfl dR_vehicleAt_126 ?_
      refine se_iconst (pc := 127) 3 (by decide) dR_vehicleAt_127 ?_
      refine se_icmp_ne (pc := 128) (tgt := 140) dR_vehicleAt_128 (by decide) (fun q4 => ?_) (fun q4 => absurd q4 (by decide))
      refine se_iload_n (pc := 140) rfl dR_vehicleAt_140 ?_
      refine se_iconst (pc := 141) 4 (by decide) dR_vehicleAt_141 ?_
      refine se_icmp_ne (pc := 142) (tgt := 149) dR_vehicleAt_142 (by decide) (fun q5 => ?_) (fun q5 => absurd q5 (by decide))
      refine se_aload_n (pc := 149) rfl dR_vehicleAt_149 ?_
      refine se_getf (pc := 150) clR 18 dR_vehicleAt_150 wd_571 rfl (by decide) hO9 rfl ?_
      refine se_iload_n (pc := 153) rfl dR_vehicleAt_153 ?_
      refine se_ialdN (pc := 154) 0 dR_vehicleAt_154 rfl hR9.2.2.2.2.2.2.2.2.2.2.2.2.2.2.2.2.1 (by omega) (by decide) ?_
      rw [rf_ky_at (by assumption)]
      exact se_iret (pc := 155) dR_vehicleAt_155 rfl (rPi_ok (by clear hR hO hR9 hO9 hf9; simp_all [sp_vehicleAt]) hR9 hf9)
    · cases q3
      refine se_if_eq (pc := 6) (tgt := 22) dR_vehicleAt_6 (by decide) (fun q4 => ?_) (fun q4 => absurd q4 (by decide))
      refine se_iconst (pc := 22) 0 (by decide) dR_vehicleAt_22 ?_
      refine se_iconst (pc := 23) 1 (by decide) dR_vehicleAt_23 ?_
      refine se_iconst (pc := 24) 1 (by decide) dR_vehicleAt_24 ?_
      refine se_invV (pc := 25) (as := [.int 0, .int 1, .int 1]) (st := []) (vok sc) kR_goes dR_vehicleAt_25 ⟨wd_655, wd_657, sl_10, wd_3⟩ rfl hO rfl (Nat.le_of_ble_eq_true rfl) (Nat.le_of_ble_eq_true rfl) (g_goes (r := 0) 1 hR (by decide) (by decide)) (C2 := 0) (S2 := 0) (by omega) (by omega) (fun v25 h25 _ q25 => ?_) (fun x hx => absurd hx List.not_mem_nil) (fun v25 h25 _ q25 => ?_)
      rotate_left
      · cases q25.2.2
      obtain ⟨hR9, hf9, q25⟩ := q25
      cases q25
      have hO9 := hR9.1
      rw [hI.1, hI.2.2.1] at hO9
      refine se_if_ne (pc := 28) (tgt := 33) dR_vehicleAt_28 (by decide) (fun q5 => absurd q5 (by decide)) (fun q5 => ?_)
      refine se_iconst (pc := 31) 0 (by decide) dR_vehicleAt_31 ?_
      exact se_iret (pc := 32) dR_vehicleAt_32 rfl (rPi_no 0 (by clear hR hO hR9 hO9 hf9; simp_all [sp_vehicleAt]) hR9 hf9)
theorem nx_div {v e : Nat} (hv : v < 100) (he : e < 10) : nI (10 * v + e) / 10 = nI v := by
  rw [show (10 : Int32) = nI 10 from rfl, pk_div (by omega) (by decide) (by decide), show (10 * v + e) / 10 = v by omega]
theorem nx_rem {v e : Nat} (hv : v < 100) (he : e < 10) : nI (10 * v + e) - nI (10 * v + e) / 10 * 10 = nI e := by
  rw [nx_div hv he, Int32.mul_comm, show (10 : Int32) * nI v = nI (10 * v) by rw [show (10 : Int32) = nI 10 from rfl, pk_mul], Int32.sub_eq_iff_eq_add, nI_add, Nat.add_comm]
set_option maxHeartbeats 1000000 in
set_option maxRecDepth 100000 in
theorem lp_R_skipped1 {v : Nat} {x : Int32} {K : Int32 → Int32} (hd : 2 ≤ d) (hR : is_R S t h) (hI : st_I S) (hQ : st_Q N S) (hN : N < 2 ^ 31) (hv : v < st_nv S) (hk : ∀ y : Int32, se_W (vG sc) l d mR_skipped 24 [some (.ref 41), some (.int x), some (.int y), some (.int (nI (10 * (v + 1))))] [] h 0 0 (fun u h' => h' = h ∧ u = .inl (some (.int (K y))))) : ∀ (n e : Nat) (y : Int32), e + n = 10 → se_W (vG sc) l d mR_skipped 24 [some (.ref 41), some (.int x), some (.int y), some (.int (nI (10 * v + e)))] [] h 0 0 (fun u h' => h' = h ∧ u = .inl (some (.int (st_si S v K n e y)))) := by
  obtain ⟨d, rfl⟩ : ∃ e, d = e + 1 := ⟨d - 1, by omega⟩
  have hO := hR.1
  rw [hI.1, hI.2.2.1] at hO
  have hn20 := hI.2.1
  have hd100 := hI.2.2.2.1
  intro n
  induction n with
  | zero =>
    intro e y he
    obtain rfl : e = 10 := by omega
    exact hk y
  | succ n ih =>
    intro e y he
    have hj : e < 10 := by omega
    refine se_iload_n (pc := 24) rfl dR_skipped_24 ?_
    refine se_bipush (pc := 25) 10 (by decide) dR_skipped_25 ?_
    refine se_aload_n (pc := 27) rfl dR_skipped_27 ?_
    refine se_getf (pc := 28) clR 8 dR_skipped_28 wd_561 rfl (by decide) hO rfl ?_
    refine se_imul (pc := 31) dR_skipped_31 ?_
    refine se_icmp_ge (pc := 32) (tgt := 80) dR_skipped_32 (by decide) (fun q1 => absurd q1 (by rw [show (10 : Int32) * nI (st_nv S) = nI (10 * st_nv S) by rw [show (10 : Int32) = nI 10 from rfl, pk_mul]]; exact nI_ge (by omega) (by omega))) (fun q1 => ?_)
    refine se_aload_n (pc := 35) rfl dR_skipped_35 ?_
    refine se_getf (pc := 36) clR 11 dR_skipped_36 wd_564 rfl (by decide) hO rfl ?_
    refine se_iload_n (pc := 39) rfl dR_skipped_39 ?_
    refine se_bipush (pc := 40) 10 (by decide) dR_skipped_40 ?_
    refine se_idiv (pc := 42) (by decide) dR_skipped_42 ?_
    rw [nx_div (by omega) hj]
    refine se_zaldN (pc := 43) 1 dR_skipped_43 rfl hR.2.2.2.2.2.2.2.2.2.1 (by omega) (by decide) ?_
    rw [rf_v_at]
    refine se_if_ne (pc := 44) (tgt := 74) dR_skipped_44 (by decide) (fun q2 => ?_) (fun q2 => ?_)
    · refine se_iinc (pc := 74) 1 (by decide) rfl dR_skipped_74 [some (.ref 41), some (.int x), some (.int y), some (.int (nI ((10 * v + e) + 1)))] (by rw [nI_1]; rfl) ?_
      refine se_goto (pc := 77) (tgt := 24) dR_skipped_77 (by decide) ?_
      have e9 : st_si S v K (n + 1) e y = st_si S v K n (e + 1) (y) := by clear ih hk hR hO; (try simp only [st_b0] at *); first | (simp_all [st_si]; done) | (cases n <;> simp_all [st_si])
      rw [e9]
      exact ih (e + 1) _ (by omega)
    · refine se_aload_n (pc := 47) rfl dR_skipped_47 ?_
      refine se_iload_n (pc := 48) rfl dR_skipped_48 ?_
      refine se_bipush (pc := 49) 10 (by decide) dR_skipped_49 ?_
      refine se_idiv (pc := 51) (by decide) dR_skipped_51 ?_
      rw [nx_div (by omega) hj]
      refine se_iload_n (pc := 52) rfl dR_skipped_52 ?_
      refine se_bipush (pc := 53) 10 (by decide) dR_skipped_53 ?_
      refine se_irem (pc := 55) (by decide) dR_skipped_55 ?_
      rw [nx_rem (by omega) hj]
      refine se_invV (pc := 56) (as := [.int (nI v), .int (nI e)]) (st := []) (vok sc) kR_isSkipped dR_skipped_56 ⟨wd_699, wd_701, sl_15, wd_3⟩ rfl hO rfl (Nat.le_of_ble_eq_true rfl) (Nat.le_of_ble_eq_true rfl) (c_R_isSkipped (by omega) hR (q_kd hQ hv) (by omega) (hI.2.2.2.2 _ hv) hj hQ hN) (C2 := 0) (S2 := 0) (by omega) (by omega) (fun v56 h56 _ q56 => ?_) (fun x hx => absurd hx List.not_mem_nil) (fun v56 h56 _ q56 => ?_)
      rotate_left
      · cases q56.2
      obtain ⟨rfl, q56⟩ := q56
      cases q56
      refine se_if_ne (pc := 59) (tgt := 65) dR_skipped_59 (by decide) (fun q3 => ?_) (fun q3 => ?_)
      · refine se_iload_n (pc := 65) rfl dR_skipped_65 ?_
        refine se_if_ne (pc := 66) (tgt := 71) dR_skipped_66 (by decide) (fun q4 => ?_) (fun q4 => ?_)
        · refine se_iinc (pc := 71) (-1) (by decide) rfl dR_skipped_71 [some (.ref 41), some (.int x), some (.int (y + (-1))), some (.int (nI (10 * v + e)))] rfl ?_
          refine se_iinc (pc := 74) 1 (by decide) rfl dR_skipped_74 [some (.ref 41), some (.int x), some (.int (y + (-1))), some (.int (nI ((10 * v + e) + 1)))] (by rw [nI_1]; rfl) ?_
          refine se_goto (pc := 77) (tgt := 24) dR_skipped_77 (by decide) ?_
          have e9 : st_si S v K (n + 1) e y = st_si S v K n (e + 1) (y + (-1)) := by clear ih hk hR hO; (try simp only [st_b0] at *); first | (simp_all [st_si]; done) | (cases n <;> simp_all [st_si])
          rw [e9]
          exact ih (e + 1) _ (by omega)
        · refine se_iload_n (pc := 69) rfl dR_skipped_69 ?_
          exact se_iret (pc := 70) dR_skipped_70 rfl ⟨rfl, by clear ih hk hR hO; (try simp only [st_b0] at *); simp_all [st_si, nx10]⟩
      · refine se_goto (pc := 62) (tgt := 74) dR_skipped_62 (by decide) ?_
        refine se_iinc (pc := 74) 1 (by decide) rfl dR_skipped_74 [some (.ref 41), some (.int x), some (.int y), some (.int (nI ((10 * v + e) + 1)))] (by rw [nI_1]; rfl) ?_
        refine se_goto (pc := 77) (tgt := 24) dR_skipped_77 (by decide) ?_
        have e9 : st_si S v K (n + 1) e y = st_si S v K n (e + 1) (y) := by clear ih hk hR hO; (try simp only [st_b0] at *); first | (simp_all [st_si]; done) | (cases n <;> simp_all [st_si])
        rw [e9]
        exact ih (e + 1) _ (by omega)
set_option maxHeartbeats 1000000 in
set_option maxRecDepth 100000 in
theorem lp_R_skipped2 {x : Int32} (hd : 2 ≤ d) (hR : is_R S t h) (hI : st_I S) (hQ : st_Q N S) (hN : N < 2 ^ 31) : ∀ (n v : Nat) (y : Int32), v + n = st_nv S → se_W (vG sc) l d mR_skipped 24 [some (.ref 41), some (.int x), some (.int y), some (.int (nI (10 * v)))] [] h 0 0 (fun u h' => h' = h ∧ u = .inl (some (.int (st_so S n v y)))) := by
  have hO := hR.1
  rw [hI.1, hI.2.2.1] at hO
  have hn20 := hI.2.1
  have hd100 := hI.2.2.2.1
  intro n
  induction n with
  | zero =>
    intro v y hv
    obtain rfl : v = st_nv S := by omega
    refine se_iload_n (pc := 24) rfl dR_skipped_24 ?_
    refine se_bipush (pc := 25) 10 (by decide) dR_skipped_25 ?_
    refine se_aload_n (pc := 27) rfl dR_skipped_27 ?_
    refine se_getf (pc := 28) clR 8 dR_skipped_28 wd_561 rfl (by decide) hO rfl ?_
    refine se_imul (pc := 31) dR_skipped_31 ?_
    refine se_icmp_ge (pc := 32) (tgt := 80) dR_skipped_32 (by decide) (fun q1 => ?_) (fun q1 => absurd q1 (fun z => z (by rw [show (10 : Int32) * nI (st_nv S) = nI (10 * st_nv S) by rw [show (10 : Int32) = nI 10 from rfl, pk_mul]]; exact Int32.le_refl _)))
    refine se_iconst (pc := 80) (-1) (by decide) dR_skipped_80 ?_
    exact se_iret (pc := 81) dR_skipped_81 rfl ⟨rfl, rfl⟩
  | succ n ih =>
    intro v y hv
    exact lp_R_skipped1 (K := fun b => st_so S n (v + 1) b) hd hR hI hQ hN (by omega) (fun y => ih (v + 1) y (by omega)) 10 0 y rfl
set_option maxHeartbeats 1000000 in
set_option maxRecDepth 100000 in
theorem r_skipped {i : Int32} (hd : 3 ≤ d) (hR : is_R S t h) (hI : st_I S) (hQ : st_Q N S) (hN : N < 2 ^ 31) : se_W (vG sc) l d mR_skipped 0 (se_ent 4 [.ref 41, .int i]) [] h 0 0 (rPi h (sp_skipped S i)) := by
  obtain ⟨d, rfl⟩ : ∃ e, d = e + 1 := ⟨d - 1, by omega⟩
  show se_W (vG sc) l (d + 1) mR_skipped 0 [some (.ref 41), some (.int i), none, none] [] h 0 0 _
  have hn20 := hI.2.1
  have hd100 := hI.2.2.2.1
  have hO := hR.1
  rw [hI.1, hI.2.2.1] at hO
  refine se_aload_n (pc := 0) rfl dR_skipped_0 ?_
  refine se_iload_n (pc := 1) rfl dR_skipped_1 ?_
  refine se_if_lt (pc := 2) (tgt := 9) dR_skipped_2 (by decide) (fun q1 => ?_) (fun q1 => ?_)
  · refine se_iconst (pc := 9) 0 (by decide) dR_skipped_9 ?_
    refine se_iconst (pc := 10) 1 (by decide) dR_skipped_10 ?_
    refine se_iconst (pc := 11) 1 (by decide) dR_skipped_11 ?_
    refine se_invV (pc := 12) (as := [.int 0, .int 1, .int 1]) (st := []) (vok sc) kR_goes dR_skipped_12 ⟨wd_655, wd_657, sl_10, wd_3⟩ rfl hO rfl (Nat.le_of_ble_eq_true rfl) (Nat.le_of_ble_eq_true rfl) (g_goes (r := 0) 1 hR (by decide) (by decide)) (C2 := 0) (S2 := 0) (by omega) (by omega) (fun v12 h12 _ q12 => ?_) (fun x hx => absurd hx List.not_mem_nil) (fun v12 h12 _ q12 => ?_)
    rotate_left
    · cases q12.2.2
    obtain ⟨hR9, hf9, q12⟩ := q12
    cases q12
    have hO9 := hR9.1
    rw [hI.1, hI.2.2.1] at hO9
    refine se_if_ne (pc := 15) (tgt := 20) dR_skipped_15 (by decide) (fun q2 => absurd q2 (by decide)) (fun q2 => ?_)
    refine se_iconst (pc := 18) 0 (by decide) dR_skipped_18 ?_
    exact se_iret (pc := 19) dR_skipped_19 rfl (rPi_no 0 (by clear hR hO hR9 hO9 hf9; simp_all [sp_skipped, st_g0, Int32.not_lt, Int32.not_le]) hR9 hf9)
  · refine se_iconst (pc := 5) 1 (by decide) dR_skipped_5 ?_
    refine se_goto (pc := 6) (tgt := 10) dR_skipped_6 (by decide) ?_
    refine se_iconst (pc := 10) 1 (by decide) dR_skipped_10 ?_
    refine se_iconst (pc := 11) 1 (by decide) dR_skipped_11 ?_
    refine se_invV (pc := 12) (as := [.int 1, .int 1, .int 1]) (st := []) (vok sc) kR_goes dR_skipped_12 ⟨wd_655, wd_657, sl_10, wd_3⟩ rfl hO rfl (Nat.le_of_ble_eq_true rfl) (Nat.le_of_ble_eq_true rfl) (g_goes (r := 1) 0 hR (by decide) (by decide)) (C2 := 0) (S2 := 0) (by omega) (by omega) (fun v12 h12 _ q12 => ?_) (fun x hx => absurd hx List.not_mem_nil) (fun v12 h12 _ q12 => ?_)
    rotate_left
    · cases q12.2.2
    obtain ⟨hR9, hf9, q12⟩ := q12
    cases q12
    have hO9 := hR9.1
    rw [hI.1, hI.2.2.1] at hO9
    refine se_if_ne (pc := 15) (tgt := 20) dR_skipped_15 (by decide) (fun q3 => ?_) (fun q3 => absurd q3 (by decide))
    refine se_iload_n (pc := 20) rfl dR_skipped_20 ?_
    refine se_istore_n (pc := 21) dR_skipped_21 (by decide) [some (.ref 41), some (.int i), some (.int i), none] rfl ?_
    refine se_iconst (pc := 22) 0 (by decide) dR_skipped_22 ?_
    refine se_istore_n (pc := 23) dR_skipped_23 (by decide) [some (.ref 41), some (.int i), some (.int i), some (.int 0)] rfl ?_
    exact se_mono (lp_R_skipped2 (by omega) hR9 hI hQ hN (st_nv S) 0 _ (by omega)) (Nat.le_refl _) (Nat.le_refl _) (fun u h9 q => by obtain ⟨q1, rfl⟩ := q; subst q1; exact rPi_ok (S' := S) (by clear hR hO hR9 hO9 hf9; simp_all [sp_skipped, st_g0, Int32.not_lt, Int32.not_le]) hR9 hf9)
theorem q_26 {x : Int32} {H : Nat} (hQ : st_Q N S) (hH : H ≤ 99999) (e : x = nI H) : st_Q N (st_up S 26 0 0 x) := by
  obtain ⟨a1, a2, a3, a4, a5, a6, a7, a8, a9, a10, a11⟩ := hQ
  refine ⟨⟨H, hH, by rw [up_v]; exact e⟩, ?_, ?_, ?_, ?_, ?_, ?_, ?_, ?_, ?_, ?_⟩ <;> simp (decide := true) only [up_ne, nd_up, nv_up, kd_up] <;> assumption
theorem tk_iff {n : Int32} (hQ : st_Q N S) (h : st_in 1 5000 n = true) : (99999 - S 26 0 0 < n ↔ st_in 0 99999 (S 26 0 0 + n) = false) ∧ (st_in 0 99999 (S 26 0 0 + n) = true → ∃ H, H ≤ 99999 ∧ S 26 0 0 + n = nI H) := by
  obtain ⟨H, h1, h2⟩ := hQ.1
  obtain ⟨m, m1, m2, rfl⟩ := st_in_nat (A := 1) (B := 5000) (by decide) (by decide) h
  rw [h2, nI_add]
  have e : st_in 0 99999 (nI (H + m)) = decide (H + m ≤ 99999) := by
    rw [st_in, show (0 : Int32) = nI 0 from rfl, show (99999 : Int32) = nI 99999 from rfl, decide_eq_true (nI_le (Nat.zero_le _) (by omega)), Bool.true_and, decide_eq_decide, nI_leI (by omega) (by decide)]
  constructor
  · rw [e, decide_eq_false_iff_not, show (99999 : Int32) = nI 99999 from rfl, show nI 99999 - nI H = nI (99999 - H) by rw [Int32.sub_eq_iff_eq_add, nI_add, Nat.sub_add_cancel h1], nI_ltI (by omega) (by omega)]
    omega
  · intro q
    rw [e, decide_eq_true_eq] at q
    exact ⟨_, q, rfl⟩
set_option maxHeartbeats 1000000 in
set_option maxRecDepth 100000 in
theorem lp_R_tick {x : Int32} (hd : 7 ≤ d) (hR : is_R S t h) (hI : st_I S) (hQ : st_Q N S) (hN : N < 2 ^ 31) : ∀ (n v : Nat) (y : Int32), v + n = st_nv S → se_W (vG sc) l d mR_tick 52 [some (.ref 41), some (.int x), some (.int y), some (.int (nI v))] [] h 0 0 (fun u h' => h' = h ∧ u = .inl (some (.int (st_tc S n v y)))) := by
  obtain ⟨d, rfl⟩ : ∃ e, d = e + 1 := ⟨d - 1, by omega⟩
  have hO := hR.1
  rw [hI.1, hI.2.2.1] at hO
  have hn20 := hI.2.1
  have hd100 := hI.2.2.2.1
  intro n
  induction n with
  | zero =>
    intro v y hv
    obtain rfl : v = st_nv S := by omega
    refine se_iload_n (pc := 52) rfl dR_tick_52 ?_
    refine se_aload_n (pc := 53) rfl dR_tick_53 ?_
    refine se_getf (pc := 54) clR 8 dR_tick_54 wd_561 rfl (by decide) hO rfl ?_
    refine se_icmp_ge (pc := 57) (tgt := 77) dR_tick_57 (by decide) (fun q1 => ?_) (fun q1 => absurd q1 (fun z => z (Int32.le_refl _)))
    refine se_iload_n (pc := 77) rfl dR_tick_77 ?_
    exact se_iret (pc := 78) dR_tick_78 rfl ⟨rfl, rfl⟩
  | succ n ih =>
    intro v y hv
    have hlt : v < st_nv S := by omega
    refine se_iload_n (pc := 52) rfl dR_tick_52 ?_
    refine se_aload_n (pc := 53) rfl dR_tick_53 ?_
    refine se_getf (pc := 54) clR 8 dR_tick_54 wd_561 rfl (by decide) hO rfl ?_
    refine se_icmp_ge (pc := 57) (tgt := 77) dR_tick_57 (by decide) (fun q1 => absurd q1 (nI_ge hlt (by omega))) (fun q1 => ?_)
    refine se_aload_n (pc := 60) rfl dR_tick_60 ?_
    refine se_iload_n (pc := 61) rfl dR_tick_61 ?_
    refine se_invV (pc := 62) (as := [.int (nI v)]) (st := []) (vok sc) kR_isRunning dR_tick_62 ⟨wd_715, wd_717, sl_17, wd_3⟩ rfl hO rfl (Nat.le_of_ble_eq_true rfl) (Nat.le_of_ble_eq_true rfl) (c_R_isRunning (by omega) hR (q_kd hQ hlt) (by omega) (hI.2.2.2.2 _ hlt) hQ hN hI) (C2 := 0) (S2 := 0) (by omega) (by omega) (fun v62 h62 _ q62 => ?_) (fun x hx => absurd hx List.not_mem_nil) (fun v62 h62 _ q62 => ?_)
    rotate_left
    · cases q62.2
    obtain ⟨rfl, q62⟩ := q62
    cases q62
    refine se_if_eq (pc := 65) (tgt := 71) dR_tick_65 (by decide) (fun q2 => ?_) (fun q2 => ?_)
    · refine se_iinc (pc := 71) 1 (by decide) rfl dR_tick_71 [some (.ref 41), some (.int x), some (.int y), some (.int (nI (v + 1)))] (by rw [nI_1]; rfl) ?_
      refine se_goto (pc := 74) (tgt := 52) dR_tick_74 (by decide) ?_
      have e9 : st_tc S (n + 1) v y = st_tc S n (v + 1) (y) := by clear ih hR hO; (try simp only [st_b0] at *); simp_all [st_tc]
      rw [e9]
      exact ih (v + 1) _ (by omega)
    · refine se_iinc (pc := 68) 1 (by decide) rfl dR_tick_68 [some (.ref 41), some (.int x), some (.int (y + 1)), some (.int (nI v))] rfl ?_
      refine se_iinc (pc := 71) 1 (by decide) rfl dR_tick_71 [some (.ref 41), some (.int x), some (.int (y + 1)), some (.int (nI (v + 1)))] (by rw [nI_1]; rfl) ?_
      refine se_goto (pc := 74) (tgt := 52) dR_tick_74 (by decide) ?_
      have e9 : st_tc S (n + 1) v y = st_tc S n (v + 1) (y + 1) := by clear ih hR hO; (try simp only [st_b0] at *); simp_all [st_tc]
      rw [e9]
      exact ih (v + 1) _ (by omega)
set_option maxHeartbeats 1000000 in
set_option maxRecDepth 100000 in
theorem r_tick {n : Int32} (hd : 9 ≤ d) (hR : is_R S t h) (hI : st_I S) (hQ : st_Q N S) (hN : N < 2 ^ 31) : se_W (vG sc) l d mR_tick 0 (se_ent 4 [.ref 41, .int n]) [] h 0 0 (rPi h (sp_tick S n)) := by
  obtain ⟨d, rfl⟩ : ∃ e, d = e + 1 := ⟨d - 1, by omega⟩
  show se_W (vG sc) l (d + 1) mR_tick 0 [some (.ref 41), some (.int n), none, none] [] h 0 0 _
  have hn20 := hI.2.1
  have hd100 := hI.2.2.2.1
  have hO := hR.1
  rw [hI.1, hI.2.2.1] at hO
  refine se_aload_n (pc := 0) rfl dR_tick_0 ?_
  refine se_iload_n (pc := 1) rfl dR_tick_1 ?_
  refine se_iconst (pc := 2) 1 (by decide) dR_tick_2 ?_
  refine se_sipush (pc := 3) 5000 (by decide) dR_tick_3 ?_
  refine se_invS (pc := 6) (as := [.int n, .int 1, .int 5000]) (st := [.ref 41]) (vok sc) kR_in dR_tick_6 ⟨wd_652, wd_653, wd_3⟩ rfl (Nat.le_of_ble_eq_true rfl) (Nat.le_of_ble_eq_true rfl) (x_R_in) (C2 := 0) (S2 := 0) (by omega) (by omega) (fun v6 h6 _ q6 => ?_) (fun x hx => absurd hx List.not_mem_nil) (fun v6 h6 _ q6 => ?_)
  rotate_left
  · rcases q6.2 with ⟨_, e⟩ | ⟨_, e⟩ <;> cases e
  obtain ⟨h6e, q6⟩ := q6
  have h6f := h6e.symm
  subst h6f
  rcases q6 with ⟨hi6, q6⟩ | ⟨hi6, q6⟩
  · cases q6
    refine se_if_eq (pc := 9) (tgt := 27) dR_tick_9 (by decide) (fun q1 => absurd q1 (by decide)) (fun q1 => ?_)
    refine se_iload_n (pc := 12) rfl dR_tick_12 ?_
    refine se_ldc (pc := 13) 99999 dR_tick_13 wd_682 ?_
    refine se_aload_n (pc := 15) rfl dR_tick_15 ?_
    refine se_getf (pc := 16) clR 1 dR_tick_16 wd_554 rfl (by decide) hO rfl ?_
    refine se_isub (pc := 19) dR_tick_19 ?_
    refine se_icmp_gt (pc := 20) (tgt := 27) dR_tick_20 (by decide) (fun q2 => ?_) (fun q2 => ?_)
    · refine se_iconst (pc := 27) 0 (by decide) dR_tick_27 ?_
      refine se_iconst (pc := 28) 1 (by decide) dR_tick_28 ?_
      refine se_iconst (pc := 29) 1 (by decide) dR_tick_29 ?_
      refine se_invV (pc := 30) (as := [.int 0, .int 1, .int 1]) (st := []) (vok sc) kR_goes dR_tick_30 ⟨wd_655, wd_657, sl_10, wd_3⟩ rfl hO rfl (Nat.le_of_ble_eq_true rfl) (Nat.le_of_ble_eq_true rfl) (g_goes (r := 0) 1 hR (by decide) (by decide)) (C2 := 0) (S2 := 0) (by omega) (by omega) (fun v30 h30 _ q30 => ?_) (fun x hx => absurd hx List.not_mem_nil) (fun v30 h30 _ q30 => ?_)
      rotate_left
      · cases q30.2.2
      obtain ⟨hR9, hf9, q30⟩ := q30
      cases q30
      have hO9 := hR9.1
      rw [hI.1, hI.2.2.1] at hO9
      refine se_if_ne (pc := 33) (tgt := 38) dR_tick_33 (by decide) (fun q3 => absurd q3 (by decide)) (fun q3 => ?_)
      refine se_iconst (pc := 36) 0 (by decide) dR_tick_36 ?_
      exact se_iret (pc := 37) dR_tick_37 rfl (rPi_no 0 (by clear hR hO hR9 hO9 hf9; first | (simp_all [sp_tick]; done) | (have htk9 := (tk_iff hQ (by assumption)).1; simp_all [sp_tick])) hR9 hf9)
    · refine se_iconst (pc := 23) 1 (by decide) dR_tick_23 ?_
      refine se_goto (pc := 24) (tgt := 28) dR_tick_24 (by decide) ?_
      refine se_iconst (pc := 28) 1 (by decide) dR_tick_28 ?_
      refine se_iconst (pc := 29) 1 (by decide) dR_tick_29 ?_
      refine se_invV (pc := 30) (as := [.int 1, .int 1, .int 1]) (st := []) (vok sc) kR_goes dR_tick_30 ⟨wd_655, wd_657, sl_10, wd_3⟩ rfl hO rfl (Nat.le_of_ble_eq_true rfl) (Nat.le_of_ble_eq_true rfl) (g_goes (r := 1) 0 hR (by decide) (by decide)) (C2 := 0) (S2 := 0) (by omega) (by omega) (fun v30 h30 _ q30 => ?_) (fun x hx => absurd hx List.not_mem_nil) (fun v30 h30 _ q30 => ?_)
      rotate_left
      · cases q30.2.2
      obtain ⟨hR9, hf9, q30⟩ := q30
      cases q30
      have hO9 := hR9.1
      rw [hI.1, hI.2.2.1] at hO9
      refine se_if_ne (pc := 33) (tgt := 38) dR_tick_33 (by decide) (fun q4 => ?_) (fun q4 => absurd q4 (by decide))
      refine se_aload_n (pc := 38) rfl dR_tick_38 ?_
      refine se_aload_n (pc := 39) rfl dR_tick_39 ?_
      refine se_getf (pc := 40) clR 1 dR_tick_40 wd_554 rfl (by decide) hO9 rfl ?_
      refine se_iload_n (pc := 43) rfl dR_tick_43 ?_
      refine se_iadd (pc := 44) dR_tick_44 ?_
      refine se_putf (pc := 45) clR 1 dR_tick_45 wd_554 rfl (by decide) rfl (fun _ => ⟨rfl, rfl⟩) hO9 (Nat.le_of_ble_eq_true rfl) ?_
      refine se_iconst (pc := 48) 0 (by decide) dR_tick_48 ?_
      refine se_istore_n (pc := 49) dR_tick_49 (by decide) [some (.ref 41), some (.int n), some (.int 0), none] rfl ?_
      refine se_iconst (pc := 50) 0 (by decide) dR_tick_50 ?_
      refine se_istore_n (pc := 51) dR_tick_51 (by decide) [some (.ref 41), some (.int n), some (.int 0), some (.int 0)] rfl ?_
      have hin9 : st_in 0 99999 (S 26 0 0 + n) = true := by have htk9 := (tk_iff hQ (by assumption)).1; clear hR hO hR9 hO9 hf9; cases hb9 : st_in 0 99999 (S 26 0 0 + n) <;> simp_all
      obtain ⟨H9, hH9, eH9⟩ := (tk_iff hQ (by assumption)).2 hin9
      have hR2 : is_R (st_up S 26 0 0 (S 26 0 0 + n)) (nI 0) (h30.set 41 (.inr (3, [.int (nI 0), .int ((S 26 0 0) + n), .ref 42, .ref 43, .ref 44, .ref 45, .ref 46, .ref 47, .int (nI (st_nv S)), .ref 48, .ref 49, .ref 50, .ref 51, .ref 52, .ref 53, .ref 54, .ref 55, .ref 56, .ref 57, .ref 58, .ref 59, .ref 60, .ref 61, .ref 62, .ref 63, .int (nI (st_nd S)), .ref 64, .ref 65, .ref 66]))) := ⟨rf_O (st_eq hO9) (by simp (decide := true) only [up_ne, up_v, ← hI.1, ← hI.2.2.1]) (by simp (decide := true) only [up_ne, up_v, ← hI.1, ← hI.2.2.1]) (by simp (decide := true) only [up_ne, up_v, ← hI.1, ← hI.2.2.1]), rf_R (st_ne hR9.2.1 (by omega)) (by simp (decide := true) only [rf_l_ne, rf_v_ne, rf_an_ne, rf_at_ne, rf_by_ne, rf_ky_ne, up_ne, up_eq, up_v]), rf_R (st_ne hR9.2.2.1 (by omega)) (by simp (decide := true) only [rf_l_ne, rf_v_ne, rf_an_ne, rf_at_ne, rf_by_ne, rf_ky_ne, up_ne, up_eq, up_v]), rf_R (st_ne hR9.2.2.2.1 (by omega)) (by simp (decide := true) only [rf_l_ne, rf_v_ne, rf_an_ne, rf_at_ne, rf_by_ne, rf_ky_ne, up_ne, up_eq, up_v]), rf_R (st_ne hR9.2.2.2.2.1 (by omega)) (by simp (decide := true) only [rf_l_ne, rf_v_ne, rf_an_ne, rf_at_ne, rf_by_ne, rf_ky_ne, up_ne, up_eq, up_v]), rf_R (st_ne hR9.2.2.2.2.2.1 (by omega)) (by simp (decide := true) only [rf_l_ne, rf_v_ne, rf_an_ne, rf_at_ne, rf_by_ne, rf_ky_ne, up_ne, up_eq, up_v]), rf_R (st_ne hR9.2.2.2.2.2.2.1 (by omega)) (by simp (decide := true) only [rf_l_ne, rf_v_ne, rf_an_ne, rf_at_ne, rf_by_ne, rf_ky_ne, up_ne, up_eq, up_v]), rf_R (st_ne hR9.2.2.2.2.2.2.2.1 (by omega)) (by simp (decide := true) only [rf_l_ne, rf_v_ne, rf_an_ne, rf_at_ne, rf_by_ne, rf_ky_ne, up_ne, up_eq, up_v]), rf_R (st_ne hR9.2.2.2.2.2.2.2.2.1 (by omega)) (by simp (decide := true) only [rf_l_ne, rf_v_ne, rf_an_ne, rf_at_ne, rf_by_ne, rf_ky_ne, up_ne, up_eq, up_v]), rf_R (st_ne hR9.2.2.2.2.2.2.2.2.2.1 (by omega)) (by simp (decide := true) only [rf_l_ne, rf_v_ne, rf_an_ne, rf_at_ne, rf_by_ne, rf_ky_ne, up_ne, up_eq, up_v]), rf_R (st_ne hR9.2.2.2.2.2.2.2.2.2.2.1 (by omega)) (by simp (decide := true) only [rf_l_ne, rf_v_ne, rf_an_ne, rf_at_ne, rf_by_ne, rf_ky_ne, up_ne, up_eq, up_v]), rf_R (st_ne hR9.2.2.2.2.2.2.2.2.2.2.2.1 (by omega)) (by simp (decide := true) only [rf_l_ne, rf_v_ne, rf_an_ne, rf_at_ne, rf_by_ne, rf_ky_ne, up_ne, up_eq, up_v]), rf_R (st_ne hR9.2.2.2.2.2.2.2.2.2.2.2.2.1 (by omega)) (by simp (decide := true) only [rf_l_ne, rf_v_ne, rf_an_ne, rf_at_ne, rf_by_ne, rf_ky_ne, up_ne, up_eq, up_v]), rf_R (st_ne hR9.2.2.2.2.2.2.2.2.2.2.2.2.2.1 (by omega)) (by simp (decide := true) only [rf_l_ne, rf_v_ne, rf_an_ne, rf_at_ne, rf_by_ne, rf_ky_ne, up_ne, up_eq, up_v]), rf_R (st_ne hR9.2.2.2.2.2.2.2.2.2.2.2.2.2.2.1 (by omega)) (by simp (decide := true) only [rf_l_ne, rf_v_ne, rf_an_ne, rf_at_ne, rf_by_ne, rf_ky_ne, up_ne, up_eq, up_v]), rf_R (st_ne hR9.2.2.2.2.2.2.2.2.2.2.2.2.2.2.2.1 (by omega)) (by simp (decide := true) only [rf_l_ne, rf_v_ne, rf_an_ne, rf_at_ne, rf_by_ne, rf_ky_ne, up_ne, up_eq, up_v]), rf_R (st_ne hR9.2.2.2.2.2.2.2.2.2.2.2.2.2.2.2.2.1 (by omega)) (by simp (decide := true) only [rf_l_ne, rf_v_ne, rf_an_ne, rf_at_ne, rf_by_ne, rf_ky_ne, up_ne, up_eq, up_v]), rf_R (st_ne hR9.2.2.2.2.2.2.2.2.2.2.2.2.2.2.2.2.2.1 (by omega)) (by simp (decide := true) only [rf_l_ne, rf_v_ne, rf_an_ne, rf_at_ne, rf_by_ne, rf_ky_ne, up_ne, up_eq, up_v]), rf_R (st_ne hR9.2.2.2.2.2.2.2.2.2.2.2.2.2.2.2.2.2.2.1 (by omega)) (by simp (decide := true) only [rf_l_ne, rf_v_ne, rf_an_ne, rf_at_ne, rf_by_ne, rf_ky_ne, up_ne, up_eq, up_v]), rf_R (st_ne hR9.2.2.2.2.2.2.2.2.2.2.2.2.2.2.2.2.2.2.2.1 (by omega)) (by simp (decide := true) only [rf_l_ne, rf_v_ne, rf_an_ne, rf_at_ne, rf_by_ne, rf_ky_ne, up_ne, up_eq, up_v]), rf_R (st_ne hR9.2.2.2.2.2.2.2.2.2.2.2.2.2.2.2.2.2.2.2.2.1 (by omega)) (by simp (decide := true) only [rf_l_ne, rf_v_ne, rf_an_ne, rf_at_ne, rf_by_ne, rf_ky_ne, up_ne, up_eq, up_v]), rf_R (st_ne hR9.2.2.2.2.2.2.2.2.2.2.2.2.2.2.2.2.2.2.2.2.2.1 (by omega)) (by simp (decide := true) only [rf_l_ne, rf_v_ne, rf_an_ne, rf_at_ne, rf_by_ne, rf_ky_ne, up_ne, up_eq, up_v]), rf_R (st_ne hR9.2.2.2.2.2.2.2.2.2.2.2.2.2.2.2.2.2.2.2.2.2.2.1 (by omega)) (by simp (decide := true) only [rf_l_ne, rf_v_ne, rf_an_ne, rf_at_ne, rf_by_ne, rf_ky_ne, up_ne, up_eq, up_v]), rf_R (st_ne hR9.2.2.2.2.2.2.2.2.2.2.2.2.2.2.2.2.2.2.2.2.2.2.2.1 (by omega)) (by simp (decide := true) only [rf_l_ne, rf_v_ne, rf_an_ne, rf_at_ne, rf_by_ne, rf_ky_ne, up_ne, up_eq, up_v]), rf_R (st_ne hR9.2.2.2.2.2.2.2.2.2.2.2.2.2.2.2.2.2.2.2.2.2.2.2.2.1 (by omega)) (by simp (decide := true) only [rf_l_ne, rf_v_ne, rf_an_ne, rf_at_ne, rf_by_ne, rf_ky_ne, up_ne, up_eq, up_v]), rf_R (st_ne hR9.2.2.2.2.2.2.2.2.2.2.2.2.2.2.2.2.2.2.2.2.2.2.2.2.2 (by omega)) (by simp (decide := true) only [rf_l_ne, rf_v_ne, rf_an_ne, rf_at_ne, rf_by_ne, rf_ky_ne, up_ne, up_eq, up_v])⟩
      have hI2 := st_I_up (t := 26) (a := 0) (b := 0) (x := S 26 0 0 + n) hI (by decide) (by decide) (by decide)
      have hQ2 := q_26 (x := S 26 0 0 + n) hQ hH9 eH9
      exact se_mono (lp_R_tick (by omega) hR2 hI2 hQ2 hN (st_nv S) 0 _ (by rw [nv_up (by decide)]; omega)) (Nat.le_refl _) (Nat.le_refl _) (fun u h9 q => by obtain ⟨q1, rfl⟩ := q; subst q1; exact rPi_ok (S' := st_up S 26 0 0 (S 26 0 0 + n)) (by clear hR hO hR9 hO9 hf9 hR2; simp_all [sp_tick]) hR2 (fR_tr hf9 (fR_set (by decide) (by decide))))
  · cases q6
    refine se_if_eq (pc := 9) (tgt := 27) dR_tick_9 (by decide) (fun q5 => ?_) (fun q5 => absurd q5 (by decide))
    refine se_iconst (pc := 27) 0 (by decide) dR_tick_27 ?_
    refine se_iconst (pc := 28) 1 (by decide) dR_tick_28 ?_
    refine se_iconst (pc := 29) 1 (by decide) dR_tick_29 ?_
    refine se_invV (pc := 30) (as := [.int 0, .int 1, .int 1]) (st := []) (vok sc) kR_goes dR_tick_30 ⟨wd_655, wd_657, sl_10, wd_3⟩ rfl hO rfl (Nat.le_of_ble_eq_true rfl) (Nat.le_of_ble_eq_true rfl) (g_goes (r := 0) 1 hR (by decide) (by decide)) (C2 := 0) (S2 := 0) (by omega) (by omega) (fun v30 h30 _ q30 => ?_) (fun x hx => absurd hx List.not_mem_nil) (fun v30 h30 _ q30 => ?_)
    rotate_left
    · cases q30.2.2
    obtain ⟨hR9, hf9, q30⟩ := q30
    cases q30
    have hO9 := hR9.1
    rw [hI.1, hI.2.2.1] at hO9
    refine se_if_ne (pc := 33) (tgt := 38) dR_tick_33 (by decide) (fun q6 => absurd q6 (by decide)) (fun q6 => ?_)
    refine se_iconst (pc := 36) 0 (by decide) dR_tick_36 ?_
    exact se_iret (pc := 37) dR_tick_37 rfl (rPi_no 0 (by clear hR hO hR9 hO9 hf9; first | (simp_all [sp_tick]; done) | (have htk9 := (tk_iff hQ (by assumption)).1; simp_all [sp_tick])) hR9 hf9)
end RPUB
