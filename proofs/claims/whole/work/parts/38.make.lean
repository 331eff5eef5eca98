def sp_vehicle (S : st_S) (k s : Int32) : Nat × Option Value × st_S := match st_x 5 k with
  | some _ => if nI (st_nv S) < 20 then (0, some (.int (nI (st_nv S))), st_nV S k s) else (2, none, S)
  | none => (1, none, S)
section PUB
variable {sc : List (Nat × Nat × (Nat → Int32))} {l : Launch} {d : Nat} {h : se_H} {β : Nat → Nat} {S : st_S}
set_option maxHeartbeats 4000000 in
set_option maxRecDepth 100000 in
theorem lp_C_init (hd : 2 ≤ d) : ∀ (n k : Nat) (H : se_H), k + n = 5 → is_M k H → se_W (vG sc) l (d + 1) mC_init 14 [some (.ref 0), some (.int (nI k))] [] H (n * 7 + 4) (n * 66 + 320) (fun u h' => u = .inl none ∧ h'.length = 41 ∧ ∀ β, is_C 0 β st_0 h') := by
  intro n
  induction n with
  | zero =>
    intro k H hi hM
    obtain rfl : k = 5 := by omega
    have hM1 : H.length = 37 := hM.1
    show se_W (vG sc) l (d + 1) mC_init 14 [some (.ref 0), some (.int (nI 5))] [] H 4 320 _
    refine se_iload_n (pc := 14) rfl dC_init_14 ?_
    refine se_iconst (pc := 15) 5 (by decide) dC_init_15 ?_
    refine se_icmp_ge (pc := 16) (tgt := 38) dC_init_16 (by decide) (fun q1 => ?_) (fun q1 => absurd q1 (fun z => z (Int32.le_refl _)))
    refine se_aload_n (pc := 38) rfl dC_init_38 ?_
    refine se_bipush (pc := 39) 20 (by decide) dC_init_39 ?_
    refine se_newqN (pc := 41) (C' := 3) (S' := 300) 4 hM1 dC_init_41 rfl wd_56 (List.mem_append_left _ (by decide +kernel)) (by decide) (N := 20) rfl (by decide) (by omega) (by omega) ?_
    refine se_putF (pc := 44) clC 1 dC_init_44 wd_59 rfl (by decide) rfl rfl rfl (fun _ => ⟨rfl, rfl⟩) (st_ap hM.2.1) (Nat.le_of_ble_eq_true rfl) ?_
    refine se_aload_n (pc := 47) rfl dC_init_47 ?_
    refine se_bipush (pc := 48) 100 (by decide) dC_init_48 ?_
    refine se_newaN (pc := 50) (atype := .int) (C' := 2) (S' := 200) 0 (st_lt9 (st_la hM1)) dC_init_50 rfl (by decide) rfl wd_55 (by decide) (N := 100) rfl (by decide) (by omega) (by omega) ?_
    refine se_putF (pc := 52) clC 2 dC_init_52 wd_60 rfl (by decide) rfl rfl rfl (fun _ => ⟨rfl, rfl⟩) (st_ap (st_eq (st_ap hM.2.1))) (Nat.le_of_ble_eq_true rfl) ?_
    refine se_aload_n (pc := 55) rfl dC_init_55 ?_
    refine se_bipush (pc := 56) 100 (by decide) dC_init_56 ?_
    refine se_newaN (pc := 58) (atype := .int) (C' := 1) (S' := 100) 0 (st_lt9 (st_la (st_lt9 (st_la hM1)))) dC_init_58 rfl (by decide) rfl wd_55 (by decide) (N := 100) rfl (by decide) (by omega) (by omega) ?_
    refine se_putF (pc := 60) clC 3 dC_init_60 wd_61 rfl (by decide) rfl rfl rfl (fun _ => ⟨rfl, rfl⟩) (st_ap (st_eq (st_ap (st_eq (st_ap hM.2.1))))) (Nat.le_of_ble_eq_true rfl) ?_
    refine se_aload_n (pc := 63) rfl dC_init_63 ?_
    refine se_bipush (pc := 64) 100 (by decide) dC_init_64 ?_
    refine se_newaN (pc := 66) (atype := .int) (C' := 0) (S' := 0) 0 (st_lt9 (st_la (st_lt9 (st_la (st_lt9 (st_la hM1)))))) dC_init_66 rfl (by decide) rfl wd_55 (by decide) (N := 100) rfl (by decide) (by omega) (by omega) ?_
    refine se_putF (pc := 68) clC 4 dC_init_68 wd_62 rfl (by decide) rfl rfl rfl (fun _ => ⟨rfl, rfl⟩) (st_ap (st_eq (st_ap (st_eq (st_ap (st_eq (st_ap hM.2.1))))))) (Nat.le_of_ble_eq_true rfl) ?_
    exact se_vret (pc := 71) dC_init_71 rfl ⟨rfl, (st_lt9 (st_la (st_lt9 (st_la (st_lt9 (st_la (st_lt9 (st_la hM1)))))))), fun β => is_M_C hM (st_eq (st_ap (st_eq (st_ap (st_eq (st_ap (st_eq (st_ap hM.2.1)))))))) (st_ne (st_ap (st_ne (st_ap (st_ne (st_ap (st_ne (st_al hM1) (by omega))) (by omega))) (by omega))) (by omega)) (st_ne (st_ap (st_ne (st_ap (st_ne (st_al (st_lt9 (st_la hM1))) (by omega))) (by omega))) (by omega)) (st_ne (st_ap (st_ne (st_al (st_lt9 (st_la (st_lt9 (st_la hM1))))) (by omega))) (by omega)) (st_ne (st_al (st_lt9 (st_la (st_lt9 (st_la (st_lt9 (st_la hM1))))))) (by omega)) (st_frs (st_fra (st_frs (st_fra (st_frs (st_fra (st_frs (st_fra (fun (b : Nat) (_ : b < 37) (_ : b ≠ 0) => (rfl : H[b]? = H[b]?)) (fun k => Nat.le_add_right _ k) hM1) (by omega)) (fun k => Nat.le_add_right _ k) (st_lt9 (st_la hM1))) (by omega)) (fun k => Nat.le_add_right _ k) (st_lt9 (st_la (st_lt9 (st_la hM1))))) (by omega)) (fun k => Nat.le_add_right _ k) (st_lt9 (st_la (st_lt9 (st_la (st_lt9 (st_la hM1))))))) (by omega))⟩
  | succ n ih =>
    intro k H hi hM
    have hk : k < 5 := by omega
    refine se_mono (C' := n * 7 + 11) (S' := n * 66 + 386) ?_ (by omega) (by omega) (fun _ _ q => q)
    refine se_iload_n (pc := 14) rfl dC_init_14 ?_
    refine se_iconst (pc := 15) 5 (by decide) dC_init_15 ?_
    refine se_icmp_ge (pc := 16) (tgt := 38) dC_init_16 (by decide) (fun q1 => absurd q1 (nI_ge (b := 5) hk (by decide))) (fun q1 => ?_)
    refine se_aload_n (pc := 19) rfl dC_init_19 ?_
    refine se_getf (pc := 20) clC 0 dC_init_20 wd_58 rfl (by decide) hM.2.1 rfl ?_
    refine se_iload_n (pc := 23) rfl dC_init_23 ?_
    refine se_newN (pc := 24) (C' := n * 7 + 10) (S' := n * 66 + 380) hM.1 clK [.null, .null, .null, .null, .null, .null] dC_init_24 wd_21 wd_23 wd_2 (by decide) rfl (by omega) (by omega) ?_
    refine se_dup (pc := 27) rfl dC_init_27 ?_
    refine se_invIN (pc := 28) (host := "VehicleChecks") (as := []) (st := [.ref (st_K 0 k), .int (nI k), .ref 1]) (vok sc) kK_init dC_init_28 ⟨rfl, rfl⟩ ⟨(List.mem_append_left _ (by decide +kernel)), wd_25, wd_2⟩ rfl (Nat.le_of_ble_eq_true rfl) (Nat.le_of_ble_eq_true rfl) (c_K_init (k := k) (by omega) (st_al hM.1) (st_la hM.1)) (fun E h9 z => by cases z.1) (C2 := n * 7 + 4) (S2 := n * 66 + 320) (by omega) (by omega) (fun v28 h28 _ q28 => ?_)
    obtain ⟨q28, hl2, hK2, hf2⟩ := q28
    cases q28
    refine se_aastN (pc := 31) (ci := 0) 3 dC_init_31 rfl rfl ((hf2 1 (by simp only [st_K]; omega) (by simp only [st_K]; omega)).trans (st_ap hM.2.2.1)) hK2.1 hk (by decide) ?_
    refine se_iinc (pc := 32) 1 (by decide) rfl dC_init_32 [some (.ref 0), some (.int (nI (k + 1)))] (by rw [nI_1]; rfl) ?_
    refine se_goto (pc := 35) (tgt := 14) dC_init_35 (by decide) ?_
    exact ih (k + 1) _ (by omega) (is_M_s hM hl2 hK2 hf2)
set_option maxHeartbeats 4000000 in
set_option maxRecDepth 100000 in
theorem c_C_init (hd : 3 ≤ d) (h0 : h[0]? = some (.inr (2, [.null, .null, .null, .null, .null, .int 0, .int 0, .int 0]))) (hl : h.length = 1) : se_W (vG sc) l d mC_init 0 (se_ent 2 [.ref 0]) [] h 40 655 (fun u h' => u = .inl none ∧ h'.length = 41 ∧ ∀ β, is_C 0 β st_0 h') := by
  obtain ⟨d, rfl⟩ : ∃ e, d = e + 1 := ⟨d - 1, by omega⟩
  show se_W (vG sc) l (d + 1) mC_init 0 [some (.ref 0), none] [] h 40 655 _
  refine se_aload_n (pc := 0) rfl dC_init_0 ?_
  refine se_objInit (pc := 1) (by omega) dC_init_1 ⟨wd_18, wd_19, wd_20⟩ (Nat.le_of_ble_eq_true rfl) ?_
  refine se_aload_n (pc := 4) rfl dC_init_4 ?_
  refine se_iconst (pc := 5) 5 (by decide) dC_init_5 ?_
  refine se_newqN (pc := 6) (C' := 39) (S' := 650) 3 hl dC_init_6 rfl wd_21 (List.mem_append_left _ (by decide +kernel)) (by decide) (N := 5) rfl (by decide) (by omega) (by omega) ?_
  refine se_putF (pc := 9) clC 0 dC_init_9 wd_58 rfl (by decide) rfl rfl rfl (fun _ => ⟨rfl, rfl⟩) (st_ap h0) (Nat.le_of_ble_eq_true rfl) ?_
  refine se_iconst (pc := 12) 0 (by decide) dC_init_12 ?_
  refine se_istore_n (pc := 13) dC_init_13 (by decide) [some (.ref 0), some (.int 0)] rfl ?_
  exact lp_C_init (by omega) 5 0 _ rfl ⟨(st_lt9 (st_la hl)), (st_eq (st_ap h0)), (show _ from (st_ne (st_al hl) (by omega))), fun j hj => absurd hj (Nat.not_lt_zero j)⟩
set_option maxHeartbeats 4000000 in
set_option maxRecDepth 100000 in
theorem p_vehicle {k s : Int32} {n : Nat} (hd : 7 ≤ d) (hC : is_C 0 β S h) (hI : st_I S) (hF : st_F S) (hs : s = 0 ∨ s = 1) (hn : h.length = n) (h68 : 68 ≤ n) : se_W (vG sc) l d mC_vehicle 0 (se_ent 5 [.ref 0, .int k, .int s]) [] h 8 78 (fun u h' => (sp_vehicle S k s = (0, some (.int (nI (st_nv S))), st_nV S k s) ∧ u = .inl (some (.int (nI (st_nv S)))) ∧ is_C 0 (va_up β (st_nv S) n) (st_nV S k s) h' ∧ h'.length = n + 6 ∧ ∀ a, 41 ≤ a → a < 68 → h'[a]? = h[a]?) ∨ (∃ E c, sp_vehicle S k s = (c, none, S) ∧ ["java/lang/IllegalArgumentException", "java/lang/UnsupportedOperationException"][c - 1]? = some E ∧ u = .inr E ∧ h' = h)) := by
  obtain ⟨d, rfl⟩ : ∃ e, d = e + 1 := ⟨d - 1, by omega⟩
  show se_W (vG sc) l (d + 1) mC_vehicle 0 [some (.ref 0), some (.int k), some (.int s), none, none] [] h 8 78 _
  have hCo := hC.1
  rw [hI.1] at hCo
  have hn20 := hI.2.1
  refine se_aload_n (pc := 0) rfl dC_vehicle_0 ?_
  refine se_iload_n (pc := 1) rfl dC_vehicle_1 ?_
  refine se_invV (pc := 2) (as := [.int k]) (st := []) (vok sc) kC_knownKind dC_vehicle_2 ⟨wd_92, wd_94, sl_0, wd_1⟩ rfl hCo rfl (Nat.le_of_ble_eq_true rfl) (Nat.le_of_ble_eq_true rfl) (x_knownKind (by omega) hC) (C2 := 7) (S2 := 72) (by omega) (by omega) (fun v2 h2 _ q2 => ?_) (fun x hx => absurd hx List.not_mem_nil) (fun v2 h2 _ q2 => ?_)
  rotate_left
  · obtain ⟨rfl, ⟨jk, xjk, hjk, rfl, q2⟩ | ⟨xN, q2⟩⟩ := q2 <;> cases q2; exact Or.inr ⟨_, 0 + 1, (by simp_all [sp_vehicle]), rfl, rfl, rfl⟩
  obtain ⟨rfl, ⟨jk, xjk, hjk, rfl, q2⟩ | ⟨xN, q2⟩⟩ := q2 <;> cases q2
  have hKjk := st_cK hC hjk
  refine se_astore_n (pc := 5) dC_vehicle_5 (by decide) [some (.ref 0), some (.int (nI jk)), some (.int s), some (.ref (st_K 0 jk)), none] rfl ?_
  refine se_aload_n (pc := 6) rfl dC_vehicle_6 ?_
  refine se_getf (pc := 7) clC 5 dC_vehicle_7 wd_63 rfl (by decide) hCo rfl ?_
  refine se_bipush (pc := 10) 20 (by decide) dC_vehicle_10 ?_
  refine se_icmp_lt (pc := 12) (tgt := 25) dC_vehicle_12 (by decide) (fun q1 => ?_) (fun q1 => ?_)
  · have hlt : st_nv S < 20 := (nI_ltI (b := 20) (by omega) (by decide)).mp (by exact ‹nI (st_nv S) < 20›)
    refine se_aload_n (pc := 25) rfl dC_vehicle_25 ?_
    refine se_getf (pc := 26) clC 5 dC_vehicle_26 wd_63 rfl (by decide) hCo rfl ?_
    refine se_istore (pc := 29) dC_vehicle_29 (by decide) [some (.ref 0), some (.int (nI jk)), some (.int s), some (.ref (st_K 0 jk)), some (.int (nI (st_nv S)))] rfl ?_
    refine se_aload_n (pc := 31) rfl dC_vehicle_31 ?_
    refine se_getf (pc := 32) clC 1 dC_vehicle_32 wd_59 rfl (by decide) hCo rfl ?_
    refine se_iload (pc := 35) rfl dC_vehicle_35 ?_
    refine se_newN (pc := 37) (C' := 6) (S' := 56) hn clV [.int 0, .null, .int 0, .int 0, .null, .null, .null, .null, .null, .int 0, .int 0, .int 0, .int 0, .int 0, .int 0, .int 0] dC_vehicle_37 wd_56 wd_181 wd_9 (by decide) rfl (by omega) (by omega) ?_
    refine se_dup (pc := 40) rfl dC_vehicle_40 ?_
    refine se_iload (pc := 41) rfl dC_vehicle_41 ?_
    refine se_aload_n (pc := 43) rfl dC_vehicle_43 ?_
    refine se_iload_n (pc := 44) rfl dC_vehicle_44 ?_
    refine se_aload_n (pc := 45) rfl dC_vehicle_45 ?_
    refine se_getf (pc := 46) clC 7 dC_vehicle_46 wd_65 rfl (by decide) (st_ap hCo) rfl ?_
    refine se_invI (pc := 49) (as := [.int (nI (st_nv S)), .ref (st_K 0 jk), .int s, .int (S 26 0 0)]) (st := [.ref n, .int (nI (st_nv S)), .ref (0 + 37)]) (vok sc) kV_init dC_vehicle_49 ⟨rfl, rfl⟩ ⟨wd_182, wd_183, wd_9⟩ rfl (Nat.le_of_ble_eq_true rfl) (Nat.le_of_ble_eq_true rfl) (c_V_init (by omega) hs (st_al hn) (st_la hn)) (fun E h9 z => by cases z.1) (C2 := 1) (S2 := 6) (by omega) (by omega) (fun v49 h49 _ q49 => ?_)
    obtain ⟨q49, hN⟩ := q49
    cases q49
    refine se_aastN (pc := 52) (ci := 1) 4 dC_vehicle_52 rfl rfl ((hN.2.2.2.2.2.2.2 37 (by omega) (by omega)).trans (st_ap hC.2.2.1)) hN.2.1 hlt (by decide) ?_
    refine se_aload_n (pc := 53) rfl dC_vehicle_53 ?_
    refine se_dup (pc := 54) rfl dC_vehicle_54 ?_
    refine se_getf (pc := 55) clC 5 dC_vehicle_55 wd_63 rfl (by decide) (st_ne ((hN.2.2.2.2.2.2.2 0 (by omega) (by omega)).trans (st_ap hCo)) (by omega)) rfl ?_
    refine se_iconst (pc := 58) 1 (by decide) dC_vehicle_58 ?_
    refine se_iadd (pc := 59) dC_vehicle_59 ?_
    refine se_putf (pc := 60) clC 5 dC_vehicle_60 wd_63 rfl (by decide) rfl (fun _ => ⟨rfl, rfl⟩) (st_ne ((hN.2.2.2.2.2.2.2 0 (by omega) (by omega)).trans (st_ap hCo)) (by omega)) (Nat.le_of_ble_eq_true rfl) ?_
    refine se_iload (pc := 63) rfl dC_vehicle_63 ?_
    exact se_iret (pc := 65) dC_vehicle_65 rfl (Or.inl ⟨(by simp_all [sp_vehicle]), rfl, uVehicle hC hF hlt hn (by omega) hjk hN, st_lt9 (st_lt9 hN.1), fun a h1 h2 => (by rw [List.getElem?_set, if_neg (by omega), List.getElem?_set, if_neg (by omega), hN.2.2.2.2.2.2.2 a (by omega) (by omega), List.getElem?_append_left (by omega)])⟩)
  · exact vth (pc := 15) (text := "no room for one more vehicle") exUnsupportedOperationException rfl rfl (by decide +kernel) dC_vehicle_15 dC_vehicle_18 dC_vehicle_19 dC_vehicle_21 dC_vehicle_24 (Nat.le_of_ble_eq_true rfl) (by omega) (by omega) (by omega) (Or.inr ⟨_, 1 + 1, (by (try simp only [Int32.not_lt] at *); simp_all [sp_vehicle]), rfl, rfl, rfl⟩)
end PUB
