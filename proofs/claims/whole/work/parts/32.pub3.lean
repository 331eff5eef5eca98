def sp_use (S : st_S) (v k : Int32) : Nat × Option Value × st_S := match st_x (st_nv S) v with
  | some v' => if st_in 0 1000000 k then (if st_ru S (st_kd S v') v' then (if k < S 15 v' 0 then (0, some (.int 0), st_up (st_up S 17 v' 0 (S 17 v' 0 + 1)) 16 v' 0 (S 16 v' 0 + 1)) else (0, some (.int 1), st_up (st_up S 17 v' 0 (S 17 v' 0 + 1)) 15 v' 0 k)) else (3, none, S)) else (2, none, S)
  | none => (1, none, S)
def sp_damage (S : st_S) (v g : Int32) : Nat × Option Value × st_S := match st_x (st_nv S) v with
  | some v' => if st_in 1 3 g then (if nI (st_nd S) < 100 then (0, some (.int (nI (st_nd S))), st_up (st_up (st_up S 21 0 (st_nd S) (nI v')) 22 0 (st_nd S) g) 25 0 0 (nI (st_nd S) + 1)) else (3, none, S)) else (2, none, S)
  | none => (1, none, S)
def sp_proof (S : st_S) (e p : Int32) : Nat × Option Value × st_S := match st_x (st_nd S) e with
  | some e' => if st_in 1 9999 p then (if S 23 0 e' = 0 then (0, none, st_up S 23 0 e' p) else (3, none, S)) else (2, none, S)
  | none => (1, none, S)
def sp_swap (S : st_S) (v w t : Int32) : Nat × Option Value × st_S := match st_x (st_nv S) v, st_x (st_nv S) w, st_x 10 t with
  | some v', some w', some t' => if v = w then (1, none, S) else if S 6 v' t' = S 6 w' t' then (2, none, S) else (0, some (.int (S 6 w' t')), st_up (st_up S 6 v' t' (S 6 w' t')) 6 w' t' (S 6 v' t'))
  | _, _, _ => (1, none, S)
def sp_spare (S : st_S) (v : Int32) : Nat × Option Value × st_S := match st_x (st_nv S) v with
  | some v' => (match st_bs S v' (st_nv S) 0 none with | none => (0, some (.int (-1)), S) | some w => if st_ll S (st_kd S w) w 10 0 = -1 then (0, some (.int (nI w)), S) else (0, some (.int (-2 - st_ll S (st_kd S w) w 10 0)), S))
  | none => (1, none, S)
theorem bs_lt {S : st_S} {v : Nat} : ∀ (n i : Nat) (r : Option Nat), i + n ≤ st_nv S → (∀ w, r = some w → w < st_nv S) → ∀ w, st_bs S v n i r = some w → w < st_nv S := by
  intro n
  induction n with
  | zero => intro i r _ hr w hw; exact hr w hw
  | succ n ih =>
    intro i r hi hr w hw
    refine ih (i + 1) _ (by omega) (fun u hu => ?_) w hw
    split at hu
    · cases r with
      | none => cases hu; omega
      | some w' =>
        simp only at hu
        split at hu
        · cases hu; omega
        · cases hu; exact hr _ rfl
    · exact hr u hu
section PUB
variable {sc : List (Nat × Nat × (Nat → Int32))} {l : Launch} {d : Nat} {h : se_H} {β : Nat → Nat} {S : st_S}
set_option maxHeartbeats 4000000 in
set_option maxRecDepth 100000 in
theorem p_use {v k : Int32} (hd : 8 ≤ d) (hC : is_C 0 β S h) (hI : st_I S) (hβ : ∀ v, v < st_nv S → 68 ≤ β v) : se_W (vG sc) l d mC_use 0 (se_ent 4 [.ref 0, .int v, .int k]) [] h 3 18 (cP β h ["java/lang/IllegalArgumentException", "java/lang/IndexOutOfBoundsException", "java/lang/IllegalStateException"] (sp_use S v k)) := by
  obtain ⟨d, rfl⟩ : ∃ e, d = e + 1 := ⟨d - 1, by omega⟩
  show se_W (vG sc) l (d + 1) mC_use 0 [some (.ref 0), some (.int v), some (.int k), none] [] h 3 18 _
  refine se_aload_n (pc := 0) rfl dC_use_0 ?_
  refine se_iload_n (pc := 1) rfl dC_use_1 ?_
  refine se_invV (pc := 2) (as := [.int v]) (st := []) (vok sc) kC_knownVehicle dC_use_2 ⟨wd_315, wd_317, sl_2, wd_1⟩ rfl hC.1 rfl (Nat.le_of_ble_eq_true rfl) (Nat.le_of_ble_eq_true rfl) (x_knownVehicle (by omega) hC hI) (C2 := 2) (S2 := 12) (by omega) (by omega) (fun v2 h2 _ q2 => ?_) (fun x hx => absurd hx List.not_mem_nil) (fun v2 h2 _ q2 => ?_)
  rotate_left
  · obtain ⟨rfl, ⟨jv, xjv, hjv, rfl, q2⟩ | ⟨xN, q2⟩⟩ := q2 <;> cases q2; exact cP_thr (S := S) 0 (by (try simp only [st_b0] at *); simp_all [sp_use, pk_us]) rfl
  obtain ⟨rfl, ⟨jv, xjv, hjv, rfl, q2⟩ | ⟨xN, q2⟩⟩ := q2 <;> cases q2
  have hVjv := st_cV hC hjv
  have hKjv := st_cK hC (hI.2.2.2.2 jv hjv)
  refine se_astore_n (pc := 5) dC_use_5 (by decide) [some (.ref 0), some (.int (nI jv)), some (.int k), some (.ref (β jv))] rfl ?_
  refine se_iload_n (pc := 6) rfl dC_use_6 ?_
  refine se_iconst (pc := 7) 0 (by decide) dC_use_7 ?_
  refine se_ldc (pc := 8) 1000000 dC_use_8 wd_361 ?_
  refine se_invS (pc := 10) (as := [.int k, .int 0, .int 1000000]) (st := []) (vok sc) kC_checkRange dC_use_10 ⟨wd_258, wd_259, wd_1⟩ rfl (Nat.le_of_ble_eq_true rfl) (Nat.le_of_ble_eq_true rfl) (x_checkRange (by omega)) (C2 := 1) (S2 := 6) (by omega) (by omega) (fun v10 h10 _ q10 => ?_) (fun x hx => absurd hx List.not_mem_nil) (fun v10 h10 _ q10 => ?_)
  rotate_left
  · obtain ⟨rfl, ⟨q10, r10⟩ | ⟨q10, r10⟩⟩ := q10 <;> cases q10; exact cP_thr (S := S) 1 (by (try simp only [st_b0] at *); simp_all [sp_use, pk_us]) rfl
  obtain ⟨rfl, ⟨q10, r10⟩ | ⟨q10, r10⟩⟩ := q10 <;> cases q10
  refine se_aload_n (pc := 13) rfl dC_use_13 ?_
  refine se_aload_n (pc := 14) rfl dC_use_14 ?_
  refine se_invV (pc := 15) (as := [.ref (β jv)]) (st := []) (vok sc) kC_canRun dC_use_15 ⟨wd_362, wd_364, sl_3, wd_1⟩ rfl hC.1 rfl (Nat.le_of_ble_eq_true rfl) (Nat.le_of_ble_eq_true rfl) (c_C_canRun (by omega) hC hVjv hKjv hI.2.2.1 hI.2.2.2.1) (C2 := 1) (S2 := 6) (by omega) (by omega) (fun v15 h15 _ q15 => ?_) (fun x hx => absurd hx List.not_mem_nil) (fun v15 h15 _ q15 => ?_)
  rotate_left
  · cases q15.2
  obtain ⟨rfl, q15⟩ := q15
  cases q15
  refine se_if_ne (pc := 18) (tgt := 31) dC_use_18 (by decide) (fun q1 => ?_) (fun q1 => ?_)
  · refine se_aload_n (pc := 31) rfl dC_use_31 ?_
    refine se_iload_n (pc := 32) rfl dC_use_32 ?_
    refine se_invV (pc := 33) (as := [.int k]) (st := []) (vok sc) kV_keepUse dC_use_33 ⟨wd_381, wd_382, wd_383, wd_9⟩ rfl hVjv.1 rfl (Nat.le_of_ble_eq_true rfl) (Nat.le_of_ble_eq_true rfl) (c_V_keepUse hVjv) (C2 := 1) (S2 := 6) (by omega) (by omega) (fun v33 h33 _ q33 => ?_) (fun x hx => absurd hx List.not_mem_nil) (fun v33 h33 _ q33 => ?_)
    rotate_left
    · rcases q33 with ⟨q33, _, _⟩ | ⟨q33, _, _⟩ <;> cases q33
    rcases q33 with ⟨q33, hlt, rfl⟩ | ⟨q33, hlt, rfl⟩ <;> cases q33
    · exact se_zret (pc := 36) dC_use_36 rfl (by decide) (cP_ret (by (try simp only [st_b0] at *); simp_all [sp_use, pk_us]) (uUse1 hC hjv) (fr_V (t := 0) hβ hjv))
    · exact se_zret (pc := 36) dC_use_36 rfl (by decide) (cP_ret (by (try simp only [st_b0] at *); simp_all [sp_use, pk_us]) (uUse2 hC hjv) (fr_V (t := 0) hβ hjv))
  · exact vth (pc := 21) (text := "the vehicle does not run") exIllegalStateException rfl rfl (by decide +kernel) dC_use_21 dC_use_24 dC_use_25 dC_use_27 dC_use_30 (Nat.le_of_ble_eq_true rfl) (by omega) (by omega) (by omega) (cP_thr (S := S) 2 (by (try simp only [st_b0] at *); simp_all [sp_use, pk_us]) rfl)
set_option maxHeartbeats 4000000 in
set_option maxRecDepth 100000 in
theorem p_damage {v g : Int32} (hd : 7 ≤ d) (hC : is_C 0 β S h) (hI : st_I S) (hβ : ∀ v, v < st_nv S → 68 ≤ β v) : se_W (vG sc) l d mC_damage 0 (se_ent 5 [.ref 0, .int v, .int g]) [] h 3 18 (cP β h ["java/lang/IllegalArgumentException", "java/lang/IndexOutOfBoundsException", "java/lang/UnsupportedOperationException"] (sp_damage S v g)) := by
  obtain ⟨d, rfl⟩ : ∃ e, d = e + 1 := ⟨d - 1, by omega⟩
  show se_W (vG sc) l (d + 1) mC_damage 0 [some (.ref 0), some (.int v), some (.int g), none, none] [] h 3 18 _
  have hCo := hC.1
  rw [hI.2.2.1] at hCo
  have hn100 := hI.2.2.2.1
  refine se_aload_n (pc := 0) rfl dC_damage_0 ?_
  refine se_iload_n (pc := 1) rfl dC_damage_1 ?_
  refine se_invV (pc := 2) (as := [.int v]) (st := []) (vok sc) kC_knownVehicle dC_damage_2 ⟨wd_315, wd_317, sl_2, wd_1⟩ rfl hCo rfl (Nat.le_of_ble_eq_true rfl) (Nat.le_of_ble_eq_true rfl) (x_knownVehicle (by omega) hC hI) (C2 := 2) (S2 := 12) (by omega) (by omega) (fun v2 h2 _ q2 => ?_) (fun x hx => absurd hx List.not_mem_nil) (fun v2 h2 _ q2 => ?_)
  rotate_left
  · obtain ⟨rfl, ⟨jv, xjv, hjv, rfl, q2⟩ | ⟨xN, q2⟩⟩ := q2 <;> cases q2; exact cP_thr (S := S) 0 (by (try simp only [Int32.not_le, Int32.not_lt] at *); simp_all [sp_damage]) rfl
  obtain ⟨rfl, ⟨jv, xjv, hjv, rfl, q2⟩ | ⟨xN, q2⟩⟩ := q2 <;> cases q2
  have hVjv := st_cV hC hjv
  have hKjv := st_cK hC (hI.2.2.2.2 jv hjv)
  refine se_astore_n (pc := 5) dC_damage_5 (by decide) [some (.ref 0), some (.int (nI jv)), some (.int g), some (.ref (β jv)), none] rfl ?_
  refine se_iload_n (pc := 6) rfl dC_damage_6 ?_
  refine se_iconst (pc := 7) 1 (by decide) dC_damage_7 ?_
  refine se_iconst (pc := 8) 3 (by decide) dC_damage_8 ?_
  refine se_invS (pc := 9) (as := [.int g, .int 1, .int 3]) (st := []) (vok sc) kC_checkRange dC_damage_9 ⟨wd_258, wd_259, wd_1⟩ rfl (Nat.le_of_ble_eq_true rfl) (Nat.le_of_ble_eq_true rfl) (x_checkRange (by omega)) (C2 := 1) (S2 := 6) (by omega) (by omega) (fun v9 h9 _ q9 => ?_) (fun x hx => absurd hx List.not_mem_nil) (fun v9 h9 _ q9 => ?_)
  rotate_left
  · obtain ⟨rfl, ⟨q9, r9⟩ | ⟨q9, r9⟩⟩ := q9 <;> cases q9; exact cP_thr (S := S) 1 (by (try simp only [Int32.not_le, Int32.not_lt] at *); simp_all [sp_damage]) rfl
  obtain ⟨rfl, ⟨q9, r9⟩ | ⟨q9, r9⟩⟩ := q9 <;> cases q9
  refine se_aload_n (pc := 12) rfl dC_damage_12 ?_
  refine se_getf (pc := 13) clC 6 dC_damage_13 wd_64 rfl (by decide) hCo rfl ?_
  refine se_bipush (pc := 16) 100 (by decide) dC_damage_16 ?_
  refine se_icmp_lt (pc := 18) (tgt := 31) dC_damage_18 (by decide) (fun q1 => ?_) (fun q1 => ?_)
  · have hlt : st_nd S < 100 := (nI_ltI (b := 100) (by omega) (by decide)).mp (by exact ‹nI (st_nd S) < 100›)
    refine se_aload_n (pc := 31) rfl dC_damage_31 ?_
    refine se_getf (pc := 32) clC 6 dC_damage_32 wd_64 rfl (by decide) hCo rfl ?_
    refine se_istore (pc := 35) dC_damage_35 (by decide) [some (.ref 0), some (.int (nI jv)), some (.int g), some (.ref (β jv)), some (.int (nI (st_nd S)))] rfl ?_
    refine se_aload_n (pc := 37) rfl dC_damage_37 ?_
    refine se_getf (pc := 38) clC 2 dC_damage_38 wd_60 rfl (by decide) hCo rfl ?_
    refine se_iload (pc := 41) rfl dC_damage_41 ?_
    refine se_aload_n (pc := 43) rfl dC_damage_43 ?_
    refine se_getf (pc := 44) clV 0 dC_damage_44 wd_187 rfl (by decide) hVjv.1 rfl ?_
    refine se_iastN (pc := 47) 0 dC_damage_47 rfl hC.2.2.2.1 hlt (by decide) ?_
    refine se_aload_n (pc := 48) rfl dC_damage_48 ?_
    refine se_getf (pc := 49) clC 3 dC_damage_49 wd_61 rfl (by decide) (st_ne hCo (by omega)) rfl ?_
    refine se_iload (pc := 52) rfl dC_damage_52 ?_
    refine se_iload_n (pc := 54) rfl dC_damage_54 ?_
    refine se_iastN (pc := 55) 0 dC_damage_55 rfl (st_ne hC.2.2.2.2.1 (by omega)) hlt (by decide) ?_
    refine se_aload_n (pc := 56) rfl dC_damage_56 ?_
    refine se_dup (pc := 57) rfl dC_damage_57 ?_
    refine se_getf (pc := 58) clC 6 dC_damage_58 wd_64 rfl (by decide) (st_ne (st_ne hCo (by omega)) (by omega)) rfl ?_
    refine se_iconst (pc := 61) 1 (by decide) dC_damage_61 ?_
    refine se_iadd (pc := 62) dC_damage_62 ?_
    refine se_putf (pc := 63) clC 6 dC_damage_63 wd_64 rfl (by decide) rfl (fun _ => ⟨rfl, rfl⟩) (st_ne (st_ne hCo (by omega)) (by omega)) (Nat.le_of_ble_eq_true rfl) ?_
    refine se_iload (pc := 66) rfl dC_damage_66 ?_
    exact se_iret (pc := 68) dC_damage_68 rfl (cP_ret (by (try simp only [Int32.not_le, Int32.not_lt] at *); simp_all [sp_damage]) (uDamage hC) (fr_tr (fr_tr (fr_set (Or.inl (by decide))) (fr_set (Or.inl (by decide)))) (fr_set (Or.inl (by decide)))))
  · exact vth (pc := 21) (text := "no room for one more damage") exUnsupportedOperationException rfl rfl (by decide +kernel) dC_damage_21 dC_damage_24 dC_damage_25 dC_damage_27 dC_damage_30 (Nat.le_of_ble_eq_true rfl) (by omega) (by omega) (by omega) (cP_thr (S := S) 2 (by (try simp only [Int32.not_le, Int32.not_lt] at *); simp_all [sp_damage]) rfl)
set_option maxHeartbeats 4000000 in
set_option maxRecDepth 100000 in
theorem p_proof {e p : Int32} (hd : 7 ≤ d) (hC : is_C 0 β S h) (hI : st_I S) (hβ : ∀ v, v < st_nv S → 68 ≤ β v) : se_W (vG sc) l d mC_proof 0 (se_ent 3 [.ref 0, .int e, .int p]) [] h 2 12 (cP β h ["java/lang/IllegalArgumentException", "java/lang/IndexOutOfBoundsException", "java/lang/IllegalStateException"] (sp_proof S e p)) := by
  obtain ⟨d, rfl⟩ : ∃ e, d = e + 1 := ⟨d - 1, by omega⟩
  show se_W (vG sc) l (d + 1) mC_proof 0 [some (.ref 0), some (.int e), some (.int p)] [] h 2 12 _
  have hCo := hC.1
  rw [hI.2.2.1] at hCo
  have hn100 := hI.2.2.2.1
  rcases st_ix e (n := st_nd S) (by omega) with (hx | hx) | ⟨je, hje, rfl⟩
  · have xN := st_x_none (Or.inl hx : e < 0 ∨ nI (st_nd S) ≤ e)
    refine se_iload_n (pc := 0) rfl dC_proof_0 ?_
    refine se_if_lt (pc := 1) (tgt := 18) dC_proof_1 (by decide) (fun q1 => ?_) (fun q1 => absurd q1 (fun z => z hx))
    exact vth (pc := 18) (text := "no such damage") exIllegalArgumentException rfl rfl (by decide +kernel) dC_proof_18 dC_proof_21 dC_proof_22 dC_proof_24 dC_proof_27 (Nat.le_of_ble_eq_true rfl) (by omega) (by omega) (by omega) (cP_thr (S := S) 0 (by simp_all [sp_proof]) rfl)
  · have xN := st_x_none (Or.inr hx : e < 0 ∨ nI (st_nd S) ≤ e)
    refine se_iload_n (pc := 0) rfl dC_proof_0 ?_
    refine se_if_lt (pc := 1) (tgt := 18) dC_proof_1 (by decide) (fun q1 => ?_) (fun q1 => ?_)
    · exact vth (pc := 18) (text := "no such damage") exIllegalArgumentException rfl rfl (by decide +kernel) dC_proof_18 dC_proof_21 dC_proof_22 dC_proof_24 dC_proof_27 (Nat.le_of_ble_eq_true rfl) (by omega) (by omega) (by omega) (cP_thr (S := S) 0 (by simp_all [sp_proof]) rfl)
    · refine se_iload_n (pc := 4) rfl dC_proof_4 ?_
      refine se_aload_n (pc := 5) rfl dC_proof_5 ?_
      refine se_getf (pc := 6) clC 6 dC_proof_6 wd_64 rfl (by decide) hCo rfl ?_
      refine se_icmp_ge (pc := 9) (tgt := 18) dC_proof_9 (by decide) (fun q2 => ?_) (fun q2 => absurd q2 (fun z => z hx))
      exact vth (pc := 18) (text := "no such damage") exIllegalArgumentException rfl rfl (by decide +kernel) dC_proof_18 dC_proof_21 dC_proof_22 dC_proof_24 dC_proof_27 (Nat.le_of_ble_eq_true rfl) (by omega) (by omega) (by omega) (cP_thr (S := S) 0 (by simp_all [sp_proof]) rfl)
  · have xje := st_x_some (n := st_nd S) (by omega) hje
    refine se_iload_n (pc := 0) rfl dC_proof_0 ?_
    refine se_if_lt (pc := 1) (tgt := 18) dC_proof_1 (by decide) (fun q1 => absurd q1 (nI_pos (by omega))) (fun q1 => ?_)
    refine se_iload_n (pc := 4) rfl dC_proof_4 ?_
    refine se_aload_n (pc := 5) rfl dC_proof_5 ?_
    refine se_getf (pc := 6) clC 6 dC_proof_6 wd_64 rfl (by decide) hCo rfl ?_
    refine se_icmp_ge (pc := 9) (tgt := 18) dC_proof_9 (by decide) (fun q2 => absurd q2 (nI_ge hje (by omega))) (fun q2 => ?_)
    refine se_iload_n (pc := 12) rfl dC_proof_12 ?_
    refine se_bipush (pc := 13) 100 (by decide) dC_proof_13 ?_
    refine se_icmp_lt (pc := 15) (tgt := 28) dC_proof_15 (by decide) (fun q3 => ?_) (fun q3 => absurd q3 (fun z => z (nI_lt (b := 100) (by omega) (by decide))))
    refine se_iload_n (pc := 28) rfl dC_proof_28 ?_
    refine se_iconst (pc := 29) 1 (by decide) dC_proof_29 ?_
    refine se_sipush (pc := 30) 9999 (by decide) dC_proof_30 ?_
    refine se_invS (pc := 33) (as := [.int p, .int 1, .int 9999]) (st := []) (vok sc) kC_checkRange dC_proof_33 ⟨wd_258, wd_259, wd_1⟩ rfl (Nat.le_of_ble_eq_true rfl) (Nat.le_of_ble_eq_true rfl) (x_checkRange (by omega)) (C2 := 1) (S2 := 6) (by omega) (by omega) (fun v33 h33 _ q33 => ?_) (fun x hx => absurd hx List.not_mem_nil) (fun v33 h33 _ q33 => ?_)
    rotate_left
    · obtain ⟨rfl, ⟨q33, r33⟩ | ⟨q33, r33⟩⟩ := q33 <;> cases q33; exact cP_thr (S := S) 1 (by simp_all [sp_proof, pk_us]) rfl
    obtain ⟨rfl, ⟨q33, r33⟩ | ⟨q33, r33⟩⟩ := q33 <;> cases q33
    refine se_aload_n (pc := 36) rfl dC_proof_36 ?_
    refine se_getf (pc := 37) clC 4 dC_proof_37 wd_62 rfl (by decide) hCo rfl ?_
    refine se_iload_n (pc := 40) rfl dC_proof_40 ?_
    refine se_ialdN (pc := 41) 0 dC_proof_41 rfl hC.2.2.2.2.2.1 (by omega) (by decide) ?_
    refine se_if_eq (pc := 42) (tgt := 55) dC_proof_42 (by decide) (fun q4 => ?_) (fun q4 => ?_)
    · refine se_aload_n (pc := 55) rfl dC_proof_55 ?_
      refine se_getf (pc := 56) clC 4 dC_proof_56 wd_62 rfl (by decide) hCo rfl ?_
      refine se_iload_n (pc := 59) rfl dC_proof_59 ?_
      refine se_iload_n (pc := 60) rfl dC_proof_60 ?_
      refine se_iastN (pc := 61) 0 dC_proof_61 rfl hC.2.2.2.2.2.1 (by omega) (by decide) ?_
      exact se_vret (pc := 62) dC_proof_62 rfl (cP_ret (by simp_all [sp_proof]) (uD23 hC) (fr_set (Or.inl (by decide))))
    · exact vth (pc := 45) (text := "the damage has a proof") exIllegalStateException rfl rfl (by decide +kernel) dC_proof_45 dC_proof_48 dC_proof_49 dC_proof_51 dC_proof_54 (Nat.le_of_ble_eq_true rfl) (by omega) (by omega) (by omega) (cP_thr (S := S) 2 (by simp_all [sp_proof]) rfl)
set_option maxHeartbeats 4000000 in
set_option maxRecDepth 100000 in
theorem p_swap {v w t : Int32} (hd : 7 ≤ d) (hC : is_C 0 β S h) (hI : st_I S) (hβ : ∀ v, v < st_nv S → 68 ≤ β v) : se_W (vG sc) l d mC_swap 0 (se_ent 7 [.ref 0, .int v, .int w, .int t]) [] h 4 24 (cP β h ["java/lang/IllegalArgumentException", "java/lang/IllegalStateException"] (sp_swap S v w t)) := by
  obtain ⟨d, rfl⟩ : ∃ e, d = e + 1 := ⟨d - 1, by omega⟩
  show se_W (vG sc) l (d + 1) mC_swap 0 [some (.ref 0), some (.int v), some (.int w), some (.int t), none, none, none] [] h 4 24 _
  refine se_aload_n (pc := 0) rfl dC_swap_0 ?_
  refine se_iload_n (pc := 1) rfl dC_swap_1 ?_
  refine se_invV (pc := 2) (as := [.int v]) (st := []) (vok sc) kC_knownVehicle dC_swap_2 ⟨wd_315, wd_317, sl_2, wd_1⟩ rfl hC.1 rfl (Nat.le_of_ble_eq_true rfl) (Nat.le_of_ble_eq_true rfl) (x_knownVehicle (by omega) hC hI) (C2 := 3) (S2 := 18) (by omega) (by omega) (fun v2 h2 _ q2 => ?_) (fun x hx => absurd hx List.not_mem_nil) (fun v2 h2 _ q2 => ?_)
  rotate_left
  · obtain ⟨rfl, ⟨jv, xjv, hjv, rfl, q2⟩ | ⟨xN, q2⟩⟩ := q2 <;> cases q2; exact cP_thr (S := S) 0 (by first | (simp_all [sp_swap, pk_us, pk_un]; done) | (simp_all [sp_swap]; split <;> rfl)) rfl
  obtain ⟨rfl, ⟨jv, xjv, hjv, rfl, q2⟩ | ⟨xN, q2⟩⟩ := q2 <;> cases q2
  have hVjv := st_cV hC hjv
  have hKjv := st_cK hC (hI.2.2.2.2 jv hjv)
  refine se_astore (pc := 5) dC_swap_5 (by decide) [some (.ref 0), some (.int (nI jv)), some (.int w), some (.int t), some (.ref (β jv)), none, none] rfl ?_
  refine se_aload_n (pc := 7) rfl dC_swap_7 ?_
  refine se_iload_n (pc := 8) rfl dC_swap_8 ?_
  refine se_invV (pc := 9) (as := [.int w]) (st := []) (vok sc) kC_knownVehicle dC_swap_9 ⟨wd_315, wd_317, sl_2, wd_1⟩ rfl hC.1 rfl (Nat.le_of_ble_eq_true rfl) (Nat.le_of_ble_eq_true rfl) (x_knownVehicle (by omega) hC hI) (C2 := 2) (S2 := 12) (by omega) (by omega) (fun v9 h9 _ q9 => ?_) (fun x hx => absurd hx List.not_mem_nil) (fun v9 h9 _ q9 => ?_)
  rotate_left
  · obtain ⟨rfl, ⟨jw, xjw, hjw, rfl, q9⟩ | ⟨xN, q9⟩⟩ := q9 <;> cases q9; exact cP_thr (S := S) 0 (by first | (simp_all [sp_swap, pk_us, pk_un]; done) | (simp_all [sp_swap]; split <;> rfl)) rfl
  obtain ⟨rfl, ⟨jw, xjw, hjw, rfl, q9⟩ | ⟨xN, q9⟩⟩ := q9 <;> cases q9
  have hVjw := st_cV hC hjw
  have hKjw := st_cK hC (hI.2.2.2.2 jw hjw)
  refine se_astore (pc := 12) dC_swap_12 (by decide) [some (.ref 0), some (.int (nI jv)), some (.int (nI jw)), some (.int t), some (.ref (β jv)), some (.ref (β jw)), none] rfl ?_
  refine se_iload_n (pc := 14) rfl dC_swap_14 ?_
  refine se_iload_n (pc := 15) rfl dC_swap_15 ?_
  refine se_icmp_ne (pc := 16) (tgt := 29) dC_swap_16 (by decide) (fun q1 => ?_) (fun q1 => ?_)
  · have hne : jv ≠ jw := fun z => absurd (congrArg nI z) ‹¬ nI jv = nI jw›
    have hdis : β jv + 6 ≤ β jw ∨ β jw + 6 ≤ β jv := by rcases Nat.lt_or_gt_of_ne hne with z | z; exact Or.inl (hC.2.2.2.2.2.2.2.2.2 jv jw z hjw); exact Or.inr (hC.2.2.2.2.2.2.2.2.2 jw jv z hjv)
    refine se_iload_n (pc := 29) rfl dC_swap_29 ?_
    refine se_invS (pc := 30) (as := [.int t]) (st := []) (vok sc) kC_checkThing dC_swap_30 ⟨wd_440, wd_441, wd_1⟩ rfl (Nat.le_of_ble_eq_true rfl) (Nat.le_of_ble_eq_true rfl) (x_checkThing (by omega)) (C2 := 1) (S2 := 6) (by omega) (by omega) (fun v30 h30 _ q30 => ?_) (fun x hx => absurd hx List.not_mem_nil) (fun v30 h30 _ q30 => ?_)
    rotate_left
    · obtain ⟨rfl, ⟨jt, xjt, hjt, rfl, q30⟩ | ⟨xN, q30⟩⟩ := q30 <;> cases q30; exact cP_thr (S := S) 0 (by first | (simp_all [sp_swap, pk_us, pk_un]; done) | (simp_all [sp_swap]; split <;> rfl)) rfl
    obtain ⟨rfl, ⟨jt, xjt, hjt, rfl, q30⟩ | ⟨xN, q30⟩⟩ := q30 <;> cases q30
    refine se_aload (pc := 33) rfl dC_swap_33 ?_
    refine se_getf (pc := 35) clV 4 dC_swap_35 wd_194 rfl (by decide) hVjv.1 rfl ?_
    refine se_iload_n (pc := 38) rfl dC_swap_38 ?_
    refine se_ialdN (pc := 39) 0 dC_swap_39 rfl hVjv.2.1 hjt (by decide) ?_
    refine se_istore (pc := 40) dC_swap_40 (by decide) [some (.ref 0), some (.int (nI jv)), some (.int (nI jw)), some (.int (nI jt)), some (.ref (β jv)), some (.ref (β jw)), some (.int (S 6 jv jt))] rfl ?_
    refine se_iload (pc := 42) rfl dC_swap_42 ?_
    refine se_aload (pc := 44) rfl dC_swap_44 ?_
    refine se_getf (pc := 46) clV 4 dC_swap_46 wd_194 rfl (by decide) hVjw.1 rfl ?_
    refine se_iload_n (pc := 49) rfl dC_swap_49 ?_
    refine se_ialdN (pc := 50) 0 dC_swap_50 rfl hVjw.2.1 hjt (by decide) ?_
    refine se_icmp_ne (pc := 51) (tgt := 64) dC_swap_51 (by decide) (fun q2 => ?_) (fun q2 => ?_)
    · refine se_aload (pc := 64) rfl dC_swap_64 ?_
      refine se_getf (pc := 66) clV 4 dC_swap_66 wd_194 rfl (by decide) hVjv.1 rfl ?_
      refine se_iload_n (pc := 69) rfl dC_swap_69 ?_
      refine se_aload (pc := 70) rfl dC_swap_70 ?_
      refine se_getf (pc := 72) clV 4 dC_swap_72 wd_194 rfl (by decide) hVjw.1 rfl ?_
      refine se_iload_n (pc := 75) rfl dC_swap_75 ?_
      refine se_ialdN (pc := 76) 0 dC_swap_76 rfl hVjw.2.1 hjt (by decide) ?_
      refine se_iastN (pc := 77) 0 dC_swap_77 rfl hVjv.2.1 hjt (by decide) ?_
      refine se_aload (pc := 78) rfl dC_swap_78 ?_
      refine se_getf (pc := 80) clV 4 dC_swap_80 wd_194 rfl (by decide) (st_ne hVjw.1 (by omega)) rfl ?_
      refine se_iload_n (pc := 83) rfl dC_swap_83 ?_
      refine se_iload (pc := 84) rfl dC_swap_84 ?_
      refine se_iastN (pc := 86) 0 dC_swap_86 rfl (st_ne hVjw.2.1 (by omega)) hjt (by decide) ?_
      refine se_aload (pc := 87) rfl dC_swap_87 ?_
      refine se_getf (pc := 89) clV 4 dC_swap_89 wd_194 rfl (by decide) (st_ne (st_ne hVjv.1 (by omega)) (by omega)) rfl ?_
      refine se_iload_n (pc := 92) rfl dC_swap_92 ?_
      refine se_ialdN (pc := 93) 0 dC_swap_93 rfl (st_ne (st_eq hVjv.2.1) (by omega)) hjt (by decide) ?_
      exact se_iret (pc := 94) dC_swap_94 rfl (cP_ret (by simp_all [sp_swap, pk_us, pk_un]) (uSwap hC hjv hjw hne.symm) (fr_tr (fr_V hβ hjv) (fr_V hβ hjw)))
    · exact vth (pc := 54) (text := "both have as many") exIllegalStateException rfl rfl (by decide +kernel) dC_swap_54 dC_swap_57 dC_swap_58 dC_swap_60 dC_swap_63 (Nat.le_of_ble_eq_true rfl) (by omega) (by omega) (by omega) (cP_thr (S := S) 1 (by first | (simp_all [sp_swap, pk_us, pk_un]; done) | (simp_all [sp_swap]; split <;> rfl)) rfl)
  · exact vth (pc := 19) (text := "the two vehicles are one") exIllegalArgumentException rfl rfl (by decide +kernel) dC_swap_19 dC_swap_22 dC_swap_23 dC_swap_25 dC_swap_28 (Nat.le_of_ble_eq_true rfl) (by omega) (by omega) (by omega) (cP_thr (S := S) 0 (by first | (simp_all [sp_swap, pk_us, pk_un]; done) | (simp_all [sp_swap]; split <;> rfl)) rfl)
set_option maxHeartbeats 4000000 in
set_option maxRecDepth 100000 in
theorem p_spare {v : Int32} (hd : 9 ≤ d) (hC : is_C 0 β S h) (hI : st_I S) (hβ : ∀ v, v < st_nv S → 68 ≤ β v) : se_W (vG sc) l d mC_spare 0 (se_ent 4 [.ref 0, .int v]) [] h 1 6 (cP β h ["java/lang/IllegalArgumentException"] (sp_spare S v)) := by
  obtain ⟨d, rfl⟩ : ∃ e, d = e + 1 := ⟨d - 1, by omega⟩
  show se_W (vG sc) l (d + 1) mC_spare 0 [some (.ref 0), some (.int v), none, none] [] h 1 6 _
  refine se_aload_n (pc := 0) rfl dC_spare_0 ?_
  refine se_aload_n (pc := 1) rfl dC_spare_1 ?_
  refine se_iload_n (pc := 2) rfl dC_spare_2 ?_
  refine se_invV (pc := 3) (as := [.int v]) (st := [.ref 0]) (vok sc) kC_knownVehicle dC_spare_3 ⟨wd_315, wd_317, sl_2, wd_1⟩ rfl hC.1 rfl (Nat.le_of_ble_eq_true rfl) (Nat.le_of_ble_eq_true rfl) (x_knownVehicle (by omega) hC hI) (C2 := 0) (S2 := 0) (by omega) (by omega) (fun v3 h3 _ q3 => ?_) (fun x hx => absurd hx List.not_mem_nil) (fun v3 h3 _ q3 => ?_)
  rotate_left
  · obtain ⟨rfl, ⟨jv, xjv, hjv, rfl, q3⟩ | ⟨xN, q3⟩⟩ := q3 <;> cases q3; exact cP_thr (S := S) 0 (by simp_all [sp_spare, pk_us]) rfl
  obtain ⟨rfl, ⟨jv, xjv, hjv, rfl, q3⟩ | ⟨xN, q3⟩⟩ := q3 <;> cases q3
  have hVjv := st_cV hC hjv
  have hKjv := st_cK hC (hI.2.2.2.2 jv hjv)
  refine se_invV (pc := 6) (as := [.ref (β jv)]) (st := []) (vok sc) kC_bestSpare dC_spare_6 ⟨wd_471, wd_473, sl_7, wd_1⟩ rfl hC.1 rfl (Nat.le_of_ble_eq_true rfl) (Nat.le_of_ble_eq_true rfl) (c_C_bestSpare (by omega) hC hI hjv) (C2 := 0) (S2 := 0) (by omega) (by omega) (fun v6 h6 _ q6 => ?_) (fun x hx => absurd hx List.not_mem_nil) (fun v6 h6 _ q6 => ?_)
  rotate_left
  · cases q6.2
  obtain ⟨rfl, q6⟩ := q6
  cases q6
  have hbs := bs_lt (S := S) (v := jv) (st_nv S) 0 none (by omega) (fun w z => by cases z)
  rcases hb : st_bs S jv (st_nv S) 0 none with _ | w
  · refine se_astore_nN (pc := 9) dC_spare_9 (by decide) [some (.ref 0), some (.int (nI jv)), some (.null), none] rfl ?_
    refine se_aload_nN (pc := 10) rfl dC_spare_10 ?_
    refine se_ifnonnullN (pc := 11) dC_spare_11 ?_
    refine se_iconst (pc := 14) (-1) (by decide) dC_spare_14 ?_
    exact se_iret (pc := 15) dC_spare_15 rfl (cP_ret (by simp_all [sp_spare]) hC (fr_rf _))
  · have hw := hbs w hb
    have hVw := st_cV hC hw
    have hKw := st_cK hC (hI.2.2.2.2 w hw)
    refine se_astore_n (pc := 9) dC_spare_9 (by decide) [some (.ref 0), some (.int (nI jv)), some (.ref (β w)), none] rfl ?_
    refine se_aload_n (pc := 10) rfl dC_spare_10 ?_
    refine se_ifnonnull (pc := 11) (tgt := 16) dC_spare_11 (by decide) ?_
    refine se_aload_n (pc := 16) rfl dC_spare_16 ?_
    refine se_invV (pc := 17) (as := []) (st := []) (vok sc) kV_lowestLacking dC_spare_17 ⟨wd_479, wd_480, wd_481, wd_9⟩ rfl hVw.1 rfl (Nat.le_of_ble_eq_true rfl) (Nat.le_of_ble_eq_true rfl) (c_V_lowestLacking hVw hKw) (C2 := 0) (S2 := 0) (by omega) (by omega) (fun v17 h17 _ q17 => ?_) (fun x hx => absurd hx List.not_mem_nil) (fun v17 h17 _ q17 => ?_)
    rotate_left
    · cases q17.2
    obtain ⟨rfl, q17⟩ := q17
    cases q17
    refine se_istore_n (pc := 20) dC_spare_20 (by decide) [some (.ref 0), some (.int (nI jv)), some (.ref (β w)), some (.int (st_ll S (st_kd S w) w 10 0))] rfl ?_
    refine se_iload_n (pc := 21) rfl dC_spare_21 ?_
    refine se_iconst (pc := 22) (-1) (by decide) dC_spare_22 ?_
    refine se_icmp_ne (pc := 23) (tgt := 33) dC_spare_23 (by decide) (fun q1 => ?_) (fun q1 => ?_)
    · refine se_bipush (pc := 33) (-2) (by decide) dC_spare_33 ?_
      refine se_iload_n (pc := 35) rfl dC_spare_35 ?_
      refine se_isub (pc := 36) dC_spare_36 ?_
      exact se_iret (pc := 37) dC_spare_37 rfl (cP_ret (by simp_all [sp_spare]) hC (fr_rf _))
    · refine se_aload_n (pc := 26) rfl dC_spare_26 ?_
      refine se_getf (pc := 27) clV 0 dC_spare_27 wd_187 rfl (by decide) hVw.1 rfl ?_
      refine se_goto (pc := 30) (tgt := 37) dC_spare_30 (by decide) ?_
      exact se_iret (pc := 37) dC_spare_37 rfl (cP_ret (by simp_all [sp_spare]) hC (fr_rf _))
end PUB
