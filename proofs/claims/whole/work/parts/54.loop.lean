/-! the loop; the law as a whole, in abstract cells -/
theorem st_sw22 (x : Int32) : (x.toInt < 0 ∨ 21 < x.toInt) ∨ x = 0 ∨ x = 1 ∨ x = 2 ∨ x = 3 ∨ x = 4 ∨ x = 5 ∨ x = 6 ∨ x = 7 ∨ x = 8 ∨ x = 9 ∨ x = 10 ∨ x = 11 ∨ x = 12 ∨ x = 13 ∨ x = 14 ∨ x = 15 ∨ x = 16 ∨ x = 17 ∨ x = 18 ∨ x = 19 ∨ x = 20 ∨ x = 21 := by
  rcases st_ix x (n := 22) (by decide) with (q | q) | ⟨j, hj, rfl⟩
  · exact Or.inl (Or.inl (by rw [Int32.lt_iff_toInt_lt] at q; exact q))
  · refine Or.inl (Or.inr ?_)
    rw [Int32.le_iff_toInt_le, nI_toInt (by decide)] at q
    omega
  · refine Or.inr ?_
    rcases j with _ | _ | _ | _ | _ | _ | _ | _ | _ | _ | _ | _ | _ | _ | _ | _ | _ | _ | _ | _ | _ | _ | j
    all_goals first | decide | omega
theorem lw_in {N0 i : Nat} (hN : N0 ≤ 3584) (hi : i ≤ 3584) : Int32.ofNat N0 - 7 < nI i ↔ ¬ i + 7 ≤ N0 := by
  have e : (Int32.ofNat N0 - 7 : Int32).toInt = (N0 : Int) - 7 := by
    rw [show Int32.ofNat N0 = nI N0 from rfl]
    rcases Nat.lt_or_ge N0 7 with h | h
    · rcases N0 with _ | _ | _ | _ | _ | _ | _ | N0
      all_goals first | decide | omega
    · rw [show nI N0 - 7 = nI (N0 - 7) by rw [Int32.sub_eq_iff_eq_add, show (7 : Int32) = nI 7 from rfl, nI_add, Nat.sub_add_cancel h], nI_toInt (by omega)]
      omega
  rw [Int32.lt_iff_toInt_lt, e, nI_toInt (by omega)]
  omega
section LOOP
variable {sc : List (Nat × Nat × (Nat → Int32))} {l : Launch} {d : Nat} {bb N0 : Nat} {xs : Nat → Int32}
set_option maxHeartbeats 1000000 in
set_option maxRecDepth 100000 in
theorem lp_law (hd : 10 ≤ d) (hb : (bb, N0, xs) ∈ (vG sc).2.2.2.2.2) (h35 : N0 ≤ 3584) : ∀ (n c : Nat) (S : st_S) (h : se_H) (z5 z6 z7 : Option Value), N0 ≤ 7 * c + 7 * n → c + n ≤ 512 → lI c S h → se_W (vG sc) l (d + 1) mL_law 23 [some (.retAddr bb), some (.ref 0), some (.ref 41), some (.ref 67), some (.int (nI (7 * c))), z5, z6, z7] [] h (8 * n) (78 * n) lZ := by
  intro n
  induction n with
  | zero =>
    intro c S h z5 z6 z7 h1 h2 hl
    refine se_iload (pc := 23) rfl dL_law_23 ?_
    refine se_aload_nR (pc := 25) rfl dL_law_25 ?_
    refine se_slen (pc := 26) dL_law_26 hb ?_
    refine se_bipush (pc := 27) 7 (by decide) dL_law_27 ?_
    refine se_isub (pc := 29) dL_law_29 ?_
    refine se_icmp_gt (pc := 30) (tgt := 1696) dL_law_30 (by decide) (fun q1 => ?_) (fun q1 => absurd q1 (fun z => z ((lw_in h35 (by omega)).mpr (by omega))))
    refine se_iconst (pc := 1696) 1 (by decide) dL_law_1696 ?_
    exact se_zret (pc := 1697) dL_law_1697 rfl (by decide) rfl
  | succ n ih =>
    intro c S h z5 z6 z7 h1 h2 hl
    have hk : ∀ (S' : st_S) (h' : se_H) (z5 z6 z7 : Option Value), lI (c + 1) S' h' → se_W (vG sc) l (d + 1) mL_law 1690 [some (.retAddr bb), some (.ref 0), some (.ref 41), some (.ref 67), some (.int (nI (7 * c))), z5, z6, z7] [] h' (8 * n) (78 * n) lZ := fun S' h' z5 z6 z7 hl' => by
      refine se_iinc (pc := 1690) 7 (by decide) rfl dL_law_1690 [some (.retAddr bb), some (.ref 0), some (.ref 41), some (.ref 67), some (.int ((nI (7 * c)) + 7)), z5, z6, z7] rfl ?_
      refine se_goto (pc := 1693) (tgt := 23) dL_law_1693 (by decide) ?_
      rw [show nI (7 * c) + 7 = nI (7 * (c + 1)) by rw [nI_p7]; rfl]
      exact ih (c + 1) S' h' _ _ _ (by omega) (by omega) hl'
    refine se_iload (pc := 23) rfl dL_law_23 ?_
    refine se_aload_nR (pc := 25) rfl dL_law_25 ?_
    refine se_slen (pc := 26) dL_law_26 hb ?_
    refine se_bipush (pc := 27) 7 (by decide) dL_law_27 ?_
    refine se_isub (pc := 29) dL_law_29 ?_
    refine se_icmp_gt (pc := 30) (tgt := 1696) dL_law_30 (by decide) (fun q1 => ?_) (fun q1 => ?_)
    · refine se_iconst (pc := 1696) 1 (by decide) dL_law_1696 ?_
      exact se_zret (pc := 1697) dL_law_1697 rfl (by decide) rfl
    · have hin0 : 7 * c + 7 ≤ N0 := Decidable.not_not.mp (fun z => absurd ((lw_in h35 (by omega)).mpr z) (by assumption))
      refine se_aload_nR (pc := 33) rfl dL_law_33 ?_
      refine se_iload (pc := 34) rfl dL_law_34 ?_
      refine se_sldN (pc := 36) dL_law_36 hb (by omega) (by omega) ?_
      refine se_bipush (pc := 37) 31 (by decide) dL_law_37 ?_
      refine se_iand (pc := 39) dL_law_39 ?_
      have hin : 7 * c + 7 ≤ N0 := Decidable.not_not.mp (fun z => absurd ((lw_in h35 (by omega)).mpr z) (by assumption))
      generalize xs (7 * c) &&& 31 = w9
      rw [Nat.mul_succ, Nat.mul_succ]
      rcases st_sw22 w9 with hsw | rfl | rfl | rfl | rfl | rfl | rfl | rfl | rfl | rfl | rfl | rfl | rfl | rfl | rfl | rfl | rfl | rfl | rfl | rfl | rfl | rfl | rfl
      · refine se_tableOut (pc := 40) (tgt := 1690) dL_law_40 hsw (by decide) ?_
        obtain ⟨β, g, t, a1, a2, a3, a4, a5, a6⟩ := hl
        exact se_mono (hk S h z5 z6 z7 ⟨β, g, t, a1, a2, a3, a4, a5, V_s a6⟩) (by omega) (by omega) (fun _ _ q => q)
      · refine se_tableIn (pc := 40) (tgt := 144) dL_law_40 (by decide) (by decide) rfl (by decide) ?_
        exact b_vehicle hd (by omega) hb h35 hin hl hk
      · refine se_tableIn (pc := 40) (tgt := 228) dL_law_40 (by decide) (by decide) rfl (by decide) ?_
        exact b_list hd (by omega) hb h35 hin hl hk
      · refine se_tableIn (pc := 40) (tgt := 326) dL_law_40 (by decide) (by decide) rfl (by decide) ?_
        exact b_unlist hd (by omega) hb h35 hin hl hk
      · refine se_tableIn (pc := 40) (tgt := 374) dL_law_40 (by decide) (by decide) rfl (by decide) ?_
        exact b_answer hd (by omega) hb h35 hin hl hk
      · refine se_tableIn (pc := 40) (tgt := 473) dL_law_40 (by decide) (by decide) rfl (by decide) ?_
        exact b_item hd (by omega) hb h35 hin hl hk
      · refine se_tableIn (pc := 40) (tgt := 553) dL_law_40 (by decide) (by decide) rfl (by decide) ?_
        exact b_use hd (by omega) hb h35 hin hl hk
      · refine se_tableIn (pc := 40) (tgt := 628) dL_law_40 (by decide) (by decide) rfl (by decide) ?_
        exact b_runs hd (by omega) hb h35 hin hl hk
      · refine se_tableIn (pc := 40) (tgt := 691) dL_law_40 (by decide) (by decide) rfl (by decide) ?_
        exact b_reason hd (by omega) hb h35 hin hl hk
      · refine se_tableIn (pc := 40) (tgt := 759) dL_law_40 (by decide) (by decide) rfl (by decide) ?_
        exact b_off hd (by omega) hb h35 hin hl hk
      · refine se_tableIn (pc := 40) (tgt := 847) dL_law_40 (by decide) (by decide) rfl (by decide) ?_
        exact b_damage hd (by omega) hb h35 hin hl hk
      · refine se_tableIn (pc := 40) (tgt := 915) dL_law_40 (by decide) (by decide) rfl (by decide) ?_
        exact b_proof hd (by omega) hb h35 hin hl hk
      · refine se_tableIn (pc := 40) (tgt := 963) dL_law_40 (by decide) (by decide) rfl (by decide) ?_
        exact b_need hd (by omega) hb h35 hin hl hk
      · refine se_tableIn (pc := 40) (tgt := 1023) dL_law_40 (by decide) (by decide) rfl (by decide) ?_
        exact b_put hd (by omega) hb h35 hin hl hk
      · refine se_tableIn (pc := 40) (tgt := 1103) dL_law_40 (by decide) (by decide) rfl (by decide) ?_
        exact b_swap hd (by omega) hb h35 hin hl hk
      · refine se_tableIn (pc := 40) (tgt := 1183) dL_law_40 (by decide) (by decide) rfl (by decide) ?_
        exact b_spare hd (by omega) hb h35 hin hl hk
      · refine se_tableIn (pc := 40) (tgt := 1239) dL_law_40 (by decide) (by decide) rfl (by decide) ?_
        exact b_fuel hd (by omega) hb h35 hin hl hk
      · refine se_tableIn (pc := 40) (tgt := 1307) dL_law_40 (by decide) (by decide) rfl (by decide) ?_
        exact b_using hd (by omega) hb h35 hin hl hk
      · refine se_tableIn (pc := 40) (tgt := 1374) dL_law_40 (by decide) (by decide) rfl (by decide) ?_
        exact b_key hd (by omega) hb h35 hin hl hk
      · refine se_tableIn (pc := 40) (tgt := 1442) dL_law_40 (by decide) (by decide) rfl (by decide) ?_
        exact b_cost hd (by omega) hb h35 hin hl hk
      · refine se_tableIn (pc := 40) (tgt := 1510) dL_law_40 (by decide) (by decide) rfl (by decide) ?_
        exact b_skipped hd (by omega) hb h35 hin hl hk
      · refine se_tableIn (pc := 40) (tgt := 1566) dL_law_40 (by decide) (by decide) rfl (by decide) ?_
        exact b_tick hd (by omega) hb h35 hin hl hk
      · refine se_tableIn (pc := 40) (tgt := 1622) dL_law_40 (by decide) (by decide) rfl (by decide) ?_
        exact b_vehicleAt hd (by omega) hb h35 hin hl hk
set_option maxHeartbeats 1000000 in
set_option maxRecDepth 100000 in
theorem law_run (hd : 10 ≤ d) (hb : (bb, N0, xs) ∈ (vG sc).2.2.2.2.2) (h35 : N0 ≤ 3584) : se_W (vG sc) l (d + 1) mL_law 0 (se_ent 8 [.retAddr bb]) [] [] 4164 42629 lZ := by
  show se_W (vG sc) l (d + 1) mL_law 0 [some (.retAddr bb), none, none, none, none, none, none, none] [] [] 4164 42629 lZ
  refine se_newN (pc := 0) (C' := 4163) (S' := 42621) rfl clC [.null, .null, .null, .null, .null, .int 0, .int 0, .int 0] dL_law_0 wd_13 wd_14 wd_1 (by decide) rfl (by omega) (by omega) ?_
  refine se_dup (pc := 3) rfl dL_law_3 ?_
  refine se_invI (pc := 4) (as := []) (st := [.ref 0]) (vok sc) kC_init dL_law_4 ⟨rfl, rfl⟩ ⟨wd_15, wd_16, wd_1⟩ rfl (Nat.le_of_ble_eq_true rfl) (Nat.le_of_ble_eq_true rfl) (c_C_init (by omega) rfl rfl) (fun E h9 z => by cases z.1) (C2 := 4123) (S2 := 41966) (by omega) (by omega) (fun v4 h4 _ q4 => ?_)
  obtain ⟨q4, hl1, hC1⟩ := q4
  cases q4
  refine se_astore_n (pc := 7) dL_law_7 (by decide) [some (.retAddr bb), some (.ref 0), none, none, none, none, none, none] rfl ?_
  refine se_newN (pc := 8) (C' := 4122) (S' := 41937) hl1 clR [.int 0, .int 0, .null, .null, .null, .null, .null, .null, .int 0, .null, .null, .null, .null, .null, .null, .null, .null, .null, .null, .null, .null, .null, .null, .null, .null, .int 0, .null, .null, .null] dL_law_8 wd_547 wd_548 wd_3 (by decide) rfl (by omega) (by omega) ?_
  refine se_dup (pc := 11) rfl dL_law_11 ?_
  refine se_invI (pc := 12) (as := []) (st := [.ref 41]) (vok sc) kR_init dL_law_12 ⟨rfl, rfl⟩ ⟨wd_549, wd_550, wd_3⟩ rfl (Nat.le_of_ble_eq_true rfl) (Nat.le_of_ble_eq_true rfl) (c_R_init (by omega) (st_al hl1) (st_la hl1)) (fun E h9 z => by cases z.1) (C2 := 4097) (S2 := 39937) (by omega) (by omega) (fun v12 h12 _ q12 => ?_)
  obtain ⟨q12, hl2, hR2, hf2⟩ := q12
  cases q12
  refine se_astore_n (pc := 15) dL_law_15 (by decide) [some (.retAddr bb), some (.ref 0), some (.ref 41), none, none, none, none, none] rfl ?_
  refine se_iconst (pc := 16) 1 (by decide) dL_law_16 ?_
  refine se_newaN (pc := 17) (atype := .long) (C' := 4096) (S' := 39936) 2 hl2 dL_law_17 rfl (by decide) rfl wd_786 (by decide) (N := 1) rfl (by decide) (by omega) (by omega) ?_
  refine se_astore_n (pc := 19) dL_law_19 (by decide) [some (.retAddr bb), some (.ref 0), some (.ref 41), some (.ref 67), none, none, none, none] rfl ?_
  refine se_iconst (pc := 20) 0 (by decide) dL_law_20 ?_
  refine se_istore (pc := 21) dL_law_21 (by decide) [some (.retAddr bb), some (.ref 0), some (.ref 41), some (.ref 67), some (.int 0), none, none, none] rfl ?_
  refine se_mono (lp_law (by omega) hb h35 512 0 st_0 _ none none none (by omega) (by omega) ?_) (by decide) (by decide) (fun _ _ q => q)
  have e0 : st_nv st_0 = 0 := by decide
  refine ⟨fun _ => 0, fun _ => 0, 0, is_C_mv (hC1 (fun _ => 0)) (fun v hv => by rw [e0] at hv; omega) (fun a ha => ?_), fun v hv => by rw [e0] at hv; omega, is_R_mv hR2 (fun a h1 h2 => by rw [List.getElem?_append_left (by omega)]), st_al hl2, by rw [List.length_append, hl2]; decide, V_0⟩
  rcases ha with ha | ha
  · rw [List.getElem?_append_left (by omega), hf2 a (by omega) (by omega), List.getElem?_append_left (by omega)]
  · rw [List.getElem?_eq_none (by rw [List.length_append, hl2]; exact ha), List.getElem?_eq_none (by omega)]
end LOOP
