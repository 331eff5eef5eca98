def sp_item (S : st_S) (v i w : Int32) : Nat × Option Value × st_S := match st_x (st_nv S) v, st_x 10 i with
  | some v', some i' => if w = 0 then (0, some (.int (if S 0 (st_kd S v') i' = 0 then 0 else 1)), S) else if w = 1 then (0, some (.int (S 7 v' i')), S) else if w = 2 then (0, some (.int (S 8 v' i')), S) else if w = 3 then (0, some (.int (S 9 v' i')), S) else if w = 4 then (0, some (.int (st_b (st_fa S (st_kd S v') v' i'))), S) else if w = 5 then (0, some (.int (st_b (st_sk S (st_kd S v') v' i' (S 26 0 0)))), S) else (1, none, S)
  | _, _ => (1, none, S)
def sp_off (S : st_S) (v b p q : Int32) : Nat × Option Value × st_S := match st_x (st_nv S) v, st_x 40 p, st_x 40 q with
  | some v', some _, some _ => if S 14 v' 0 = b then (2, none, S) else if p = q then (2, none, S) else (0, none, st_up S 14 v' 0 b)
  | _, _, _ => (1, none, S)
def sp_fuel (S : st_S) (v m : Int32) : Nat × Option Value × st_S := match st_x (st_nv S) v with
  | some v' => if st_in 1 1000000 m then (if st_rm (S 18 v' 0) m 1000000000 then (0, some (.int (S 18 v' 0 + m)), st_up S 18 v' 0 (S 18 v' 0 + m)) else (3, none, S)) else (2, none, S)
  | none => (1, none, S)
def sp_cost (S : st_S) (v m : Int32) : Nat × Option Value × st_S := match st_x (st_nv S) v with
  | some v' => if st_in 0 10000000 m then (if st_rm (S 19 v' 0) m 1000000000 then (0, some (.int (S 19 v' 0 + m)), st_up S 19 v' 0 (S 19 v' 0 + m)) else (3, none, S)) else (2, none, S)
  | none => (1, none, S)
def sp_key (S : st_S) (v p : Int32) : Nat × Option Value × st_S := match st_x (st_nv S) v with
  | some v' => if p = -1 then (if S 20 v' 0 = -1 then (2, none, S) else (0, some (.int (S 20 v' 0)), st_up S 20 v' 0 (-1))) else (match st_x 40 p with | some _ => if S 20 v' 0 = p then (2, none, S) else (0, some (.int (S 20 v' 0)), st_up S 20 v' 0 p) | none => (1, none, S))
  | none => (1, none, S)
def sp_vehicleAt (S : st_S) (v w : Int32) : Nat × Option Value × st_S := match st_x (st_nv S) v with
  | some v' => if w = 0 then (0, some (.int (S 15 v' 0)), S) else if w = 1 then (0, some (.int (if S 14 v' 0 = 0 then 1 else 0)), S) else if w = 2 then (0, some (.int (S 16 v' 0)), S) else if w = 3 then (0, some (.int (S 17 v' 0)), S) else if w = 4 then (0, some (.int (st_n2 S v' (st_nd S))), S) else if w = 5 then (0, some (.int (S 20 v' 0)), S) else (1, none, S)
  | none => (1, none, S)
section PUB
variable {sc : List (Nat × Nat × (Nat → Int32))} {l : Launch} {d : Nat} {h : se_H} {β : Nat → Nat} {S : st_S}
set_option maxHeartbeats 4000000 in
set_option maxRecDepth 100000 in
theorem p_list {k i a b g e : Int32} (hd : 7 ≤ d) (hC : is_C 0 β S h) (hI : st_I S) (hβ : ∀ v, v < st_nv S → 68 ≤ β v) : se_W (vG sc) l d mC_list 0 (se_ent 8 [.ref 0, .int k, .int i, .int a, .int b, .int g, .int e]) [] h 6 36 (cP β h ["java/lang/IllegalArgumentException", "java/lang/IndexOutOfBoundsException"] (sp_list S k i a b g e)) := by
  obtain ⟨d, rfl⟩ : ∃ e, d = e + 1 := ⟨d - 1, by omega⟩
  show se_W (vG sc) l (d + 1) mC_list 0 [some (.ref 0), some (.int k), some (.int i), some (.int a), some (.int b), some (.int g), some (.int e), none] [] h 6 36 _
  refine se_aload_n (pc := 0) rfl dC_list_0 ?_
  refine se_iload_n (pc := 1) rfl dC_list_1 ?_
  refine se_invV (pc := 2) (as := [.int k]) (st := []) (vok sc) kC_knownKind dC_list_2 ⟨wd_92, wd_94, sl_0, wd_1⟩ rfl hC.1 rfl (Nat.le_of_ble_eq_true rfl) (Nat.le_of_ble_eq_true rfl) (x_knownKind (by omega) hC) (C2 := 5) (S2 := 30) (by omega) (by omega) (fun v2 h2 _ q2 => ?_) (fun x hx => absurd hx List.not_mem_nil) (fun v2 h2 _ q2 => ?_)
  rotate_left
  · obtain ⟨rfl, ⟨jk, xjk, hjk, rfl, q2⟩ | ⟨xN, q2⟩⟩ := q2 <;> cases q2; exact cP_thr (S := S) 0 (by simp_all [sp_list, pk_us]) rfl
  obtain ⟨rfl, ⟨jk, xjk, hjk, rfl, q2⟩ | ⟨xN, q2⟩⟩ := q2 <;> cases q2
  have hKjk := st_cK hC hjk
  refine se_astore (pc := 5) dC_list_5 (by decide) [some (.ref 0), some (.int (nI jk)), some (.int i), some (.int a), some (.int b), some (.int g), some (.int e), some (.ref (st_K 0 jk))] rfl ?_
  refine se_iload_n (pc := 7) rfl dC_list_7 ?_
  refine se_invS (pc := 8) (as := [.int i]) (st := []) (vok sc) kC_checkItem dC_list_8 ⟨wd_254, wd_255, wd_1⟩ rfl (Nat.le_of_ble_eq_true rfl) (Nat.le_of_ble_eq_true rfl) (x_checkItem (by omega)) (C2 := 4) (S2 := 24) (by omega) (by omega) (fun v8 h8 _ q8 => ?_) (fun x hx => absurd hx List.not_mem_nil) (fun v8 h8 _ q8 => ?_)
  rotate_left
  · obtain ⟨rfl, ⟨ji, xji, hji, rfl, q8⟩ | ⟨xN, q8⟩⟩ := q8 <;> cases q8; exact cP_thr (S := S) 0 (by simp_all [sp_list, pk_us]) rfl
  obtain ⟨rfl, ⟨ji, xji, hji, rfl, q8⟩ | ⟨xN, q8⟩⟩ := q8 <;> cases q8
  refine se_iload_n (pc := 11) rfl dC_list_11 ?_
  refine se_sipush (pc := 12) (-9999) (by decide) dC_list_12 ?_
  refine se_sipush (pc := 15) 9999 (by decide) dC_list_15 ?_
  refine se_invS (pc := 18) (as := [.int a, .int (-9999), .int 9999]) (st := []) (vok sc) kC_checkRange dC_list_18 ⟨wd_258, wd_259, wd_1⟩ rfl (Nat.le_of_ble_eq_true rfl) (Nat.le_of_ble_eq_true rfl) (x_checkRange (by omega)) (C2 := 3) (S2 := 18) (by omega) (by omega) (fun v18 h18 _ q18 => ?_) (fun x hx => absurd hx List.not_mem_nil) (fun v18 h18 _ q18 => ?_)
  rotate_left
  · obtain ⟨rfl, ⟨q18, r18⟩ | ⟨q18, r18⟩⟩ := q18 <;> cases q18; exact cP_thr (S := S) 1 (by simp_all [sp_list, pk_us]) rfl
  obtain ⟨rfl, ⟨q18, r18⟩ | ⟨q18, r18⟩⟩ := q18 <;> cases q18
  refine se_iload (pc := 21) rfl dC_list_21 ?_
  refine se_iload_n (pc := 23) rfl dC_list_23 ?_
  refine se_sipush (pc := 24) 9999 (by decide) dC_list_24 ?_
  refine se_invS (pc := 27) (as := [.int b, .int a, .int 9999]) (st := []) (vok sc) kC_checkRange dC_list_27 ⟨wd_258, wd_259, wd_1⟩ rfl (Nat.le_of_ble_eq_true rfl) (Nat.le_of_ble_eq_true rfl) (x_checkRange (by omega)) (C2 := 2) (S2 := 12) (by omega) (by omega) (fun v27 h27 _ q27 => ?_) (fun x hx => absurd hx List.not_mem_nil) (fun v27 h27 _ q27 => ?_)
  rotate_left
  · obtain ⟨rfl, ⟨q27, r27⟩ | ⟨q27, r27⟩⟩ := q27 <;> cases q27; exact cP_thr (S := S) 1 (by simp_all [sp_list, pk_us]) rfl
  obtain ⟨rfl, ⟨q27, r27⟩ | ⟨q27, r27⟩⟩ := q27 <;> cases q27
  refine se_iload (pc := 30) rfl dC_list_30 ?_
  refine se_iconst (pc := 32) 1 (by decide) dC_list_32 ?_
  refine se_iconst (pc := 33) 3 (by decide) dC_list_33 ?_
  refine se_invS (pc := 34) (as := [.int g, .int 1, .int 3]) (st := []) (vok sc) kC_checkRange dC_list_34 ⟨wd_258, wd_259, wd_1⟩ rfl (Nat.le_of_ble_eq_true rfl) (Nat.le_of_ble_eq_true rfl) (x_checkRange (by omega)) (C2 := 1) (S2 := 6) (by omega) (by omega) (fun v34 h34 _ q34 => ?_) (fun x hx => absurd hx List.not_mem_nil) (fun v34 h34 _ q34 => ?_)
  rotate_left
  · obtain ⟨rfl, ⟨q34, r34⟩ | ⟨q34, r34⟩⟩ := q34 <;> cases q34; exact cP_thr (S := S) 1 (by simp_all [sp_list, pk_us]) rfl
  obtain ⟨rfl, ⟨q34, r34⟩ | ⟨q34, r34⟩⟩ := q34 <;> cases q34
  refine se_iload (pc := 37) rfl dC_list_37 ?_
  refine se_iconst (pc := 39) 0 (by decide) dC_list_39 ?_
  refine se_sipush (pc := 40) 5000 (by decide) dC_list_40 ?_
  refine se_invS (pc := 43) (as := [.int e, .int 0, .int 5000]) (st := []) (vok sc) kC_checkRange dC_list_43 ⟨wd_258, wd_259, wd_1⟩ rfl (Nat.le_of_ble_eq_true rfl) (Nat.le_of_ble_eq_true rfl) (x_checkRange (by omega)) (C2 := 0) (S2 := 0) (by omega) (by omega) (fun v43 h43 _ q43 => ?_) (fun x hx => absurd hx List.not_mem_nil) (fun v43 h43 _ q43 => ?_)
  rotate_left
  · obtain ⟨rfl, ⟨q43, r43⟩ | ⟨q43, r43⟩⟩ := q43 <;> cases q43; exact cP_thr (S := S) 1 (by simp_all [sp_list, pk_us]) rfl
  obtain ⟨rfl, ⟨q43, r43⟩ | ⟨q43, r43⟩⟩ := q43 <;> cases q43
  refine se_aload (pc := 46) rfl dC_list_46 ?_
  refine se_iload_n (pc := 48) rfl dC_list_48 ?_
  refine se_iload_n (pc := 49) rfl dC_list_49 ?_
  refine se_iload (pc := 50) rfl dC_list_50 ?_
  refine se_iload (pc := 52) rfl dC_list_52 ?_
  refine se_iload (pc := 54) rfl dC_list_54 ?_
  refine se_invV (pc := 56) (as := [.int (nI ji), .int a, .int b, .int g, .int e]) (st := []) (vok sc) kK_enter dC_list_56 ⟨wd_277, wd_278, wd_279, wd_2⟩ rfl hKjk.1 rfl (Nat.le_of_ble_eq_true rfl) (Nat.le_of_ble_eq_true rfl) (c_K_enter hKjk hji) (C2 := 0) (S2 := 0) (by omega) (by omega) (fun v56 h56 _ q56 => ?_) (fun x hx => absurd hx List.not_mem_nil) (fun v56 h56 _ q56 => ?_)
  rotate_left
  · cases q56.1
  obtain ⟨q56, rfl⟩ := q56
  cases q56
  exact se_vret (pc := 59) dC_list_59 rfl (cP_ret (by simp_all [sp_list, pk_us]) (uList hC hjk) (fr_tr (fr_tr (fr_tr (fr_tr (fr_K hjk (by decide)) (fr_K hjk (by decide))) (fr_K hjk (by decide))) (fr_K hjk (by decide))) (fr_K hjk (by decide))))
set_option maxHeartbeats 4000000 in
set_option maxRecDepth 100000 in
theorem p_answer {v i x p : Int32} (hd : 7 ≤ d) (hC : is_C 0 β S h) (hI : st_I S) (hβ : ∀ v, v < st_nv S → 68 ≤ β v) : se_W (vG sc) l d mC_answer 0 (se_ent 6 [.ref 0, .int v, .int i, .int x, .int p]) [] h 5 30 (cP β h ["java/lang/IllegalArgumentException", "java/lang/IndexOutOfBoundsException", "java/lang/IllegalStateException"] (sp_answer S v i x p)) := by
  obtain ⟨d, rfl⟩ : ∃ e, d = e + 1 := ⟨d - 1, by omega⟩
  show se_W (vG sc) l (d + 1) mC_answer 0 [some (.ref 0), some (.int v), some (.int i), some (.int x), some (.int p), none] [] h 5 30 _
  refine se_aload_n (pc := 0) rfl dC_answer_0 ?_
  refine se_iload_n (pc := 1) rfl dC_answer_1 ?_
  refine se_invV (pc := 2) (as := [.int v]) (st := []) (vok sc) kC_knownVehicle dC_answer_2 ⟨wd_315, wd_317, sl_2, wd_1⟩ rfl hC.1 rfl (Nat.le_of_ble_eq_true rfl) (Nat.le_of_ble_eq_true rfl) (x_knownVehicle (by omega) hC hI) (C2 := 4) (S2 := 24) (by omega) (by omega) (fun v2 h2 _ q2 => ?_) (fun x hx => absurd hx List.not_mem_nil) (fun v2 h2 _ q2 => ?_)
  rotate_left
  · obtain ⟨rfl, ⟨jv, xjv, hjv, rfl, q2⟩ | ⟨xN, q2⟩⟩ := q2 <;> cases q2; exact cP_thr (S := S) 0 (by simp_all [sp_answer, pk_us]) rfl
  obtain ⟨rfl, ⟨jv, xjv, hjv, rfl, q2⟩ | ⟨xN, q2⟩⟩ := q2 <;> cases q2
  have hVjv := st_cV hC hjv
  have hKjv := st_cK hC (hI.2.2.2.2 jv hjv)
  refine se_astore (pc := 5) dC_answer_5 (by decide) [some (.ref 0), some (.int (nI jv)), some (.int i), some (.int x), some (.int p), some (.ref (β jv))] rfl ?_
  refine se_iload_n (pc := 7) rfl dC_answer_7 ?_
  refine se_invS (pc := 8) (as := [.int i]) (st := []) (vok sc) kC_checkItem dC_answer_8 ⟨wd_254, wd_255, wd_1⟩ rfl (Nat.le_of_ble_eq_true rfl) (Nat.le_of_ble_eq_true rfl) (x_checkItem (by omega)) (C2 := 3) (S2 := 18) (by omega) (by omega) (fun v8 h8 _ q8 => ?_) (fun x hx => absurd hx List.not_mem_nil) (fun v8 h8 _ q8 => ?_)
  rotate_left
  · obtain ⟨rfl, ⟨ji, xji, hji, rfl, q8⟩ | ⟨xN, q8⟩⟩ := q8 <;> cases q8; exact cP_thr (S := S) 0 (by simp_all [sp_answer, pk_us]) rfl
  obtain ⟨rfl, ⟨ji, xji, hji, rfl, q8⟩ | ⟨xN, q8⟩⟩ := q8 <;> cases q8
  refine se_iload (pc := 11) rfl dC_answer_11 ?_
  refine se_invS (pc := 13) (as := [.int p]) (st := []) (vok sc) kC_checkPerson dC_answer_13 ⟨wd_320, wd_321, wd_1⟩ rfl (Nat.le_of_ble_eq_true rfl) (Nat.le_of_ble_eq_true rfl) (x_checkPerson (by omega)) (C2 := 2) (S2 := 12) (by omega) (by omega) (fun v13 h13 _ q13 => ?_) (fun x hx => absurd hx List.not_mem_nil) (fun v13 h13 _ q13 => ?_)
  rotate_left
  · obtain ⟨rfl, ⟨jp, xjp, hjp, rfl, q13⟩ | ⟨xN, q13⟩⟩ := q13 <;> cases q13; exact cP_thr (S := S) 0 (by simp_all [sp_answer, pk_us]) rfl
  obtain ⟨rfl, ⟨jp, xjp, hjp, rfl, q13⟩ | ⟨xN, q13⟩⟩ := q13 <;> cases q13
  refine se_iload_n (pc := 16) rfl dC_answer_16 ?_
  refine se_ldc (pc := 17) (-99999) dC_answer_17 wd_324 ?_
  refine se_ldc (pc := 19) 99999 dC_answer_19 wd_325 ?_
  refine se_invS (pc := 21) (as := [.int x, .int (-99999), .int 99999]) (st := []) (vok sc) kC_checkRange dC_answer_21 ⟨wd_258, wd_259, wd_1⟩ rfl (Nat.le_of_ble_eq_true rfl) (Nat.le_of_ble_eq_true rfl) (x_checkRange (by omega)) (C2 := 1) (S2 := 6) (by omega) (by omega) (fun v21 h21 _ q21 => ?_) (fun x hx => absurd hx List.not_mem_nil) (fun v21 h21 _ q21 => ?_)
  rotate_left
  · obtain ⟨rfl, ⟨q21, r21⟩ | ⟨q21, r21⟩⟩ := q21 <;> cases q21; exact cP_thr (S := S) 1 (by simp_all [sp_answer, pk_us]) rfl
  obtain ⟨rfl, ⟨q21, r21⟩ | ⟨q21, r21⟩⟩ := q21 <;> cases q21
  refine se_aload (pc := 24) rfl dC_answer_24 ?_
  refine se_getf (pc := 26) clV 1 dC_answer_26 wd_189 rfl (by decide) hVjv.1 rfl ?_
  refine se_iload_n (pc := 29) rfl dC_answer_29 ?_
  refine se_invS (pc := 30) (as := [.ref (st_K 0 (st_kd S jv)), .int (nI ji)]) (st := []) (vok sc) kC_checkListed dC_answer_30 ⟨wd_289, wd_290, wd_1⟩ rfl (Nat.le_of_ble_eq_true rfl) (Nat.le_of_ble_eq_true rfl) (c_C_checkListed (by omega) hKjv hji) (C2 := 0) (S2 := 0) (by omega) (by omega) (fun v30 h30 _ q30 => ?_) (fun x hx => absurd hx List.not_mem_nil) (fun v30 h30 _ q30 => ?_)
  rotate_left
  · obtain ⟨rfl, ⟨q30, r30⟩ | ⟨q30, r30⟩⟩ := q30 <;> cases q30; exact cP_thr (S := S) 2 (by simp_all [sp_answer, pk_us]) rfl
  obtain ⟨rfl, ⟨q30, r30⟩ | ⟨q30, r30⟩⟩ := q30 <;> cases q30
  refine se_aload (pc := 33) rfl dC_answer_33 ?_
  refine se_iload_n (pc := 35) rfl dC_answer_35 ?_
  refine se_iload_n (pc := 36) rfl dC_answer_36 ?_
  refine se_aload_n (pc := 37) rfl dC_answer_37 ?_
  refine se_getf (pc := 38) clC 7 dC_answer_38 wd_65 rfl (by decide) hC.1 rfl ?_
  refine se_iload (pc := 41) rfl dC_answer_41 ?_
  refine se_invV (pc := 43) (as := [.int (nI ji), .int x, .int (S 26 0 0), .int (nI jp)]) (st := []) (vok sc) kV_keepAnswer dC_answer_43 ⟨wd_326, wd_327, wd_328, wd_9⟩ rfl hVjv.1 rfl (Nat.le_of_ble_eq_true rfl) (Nat.le_of_ble_eq_true rfl) (c_V_keepAnswer hVjv hji) (C2 := 0) (S2 := 0) (by omega) (by omega) (fun v43 h43 _ q43 => ?_) (fun x hx => absurd hx List.not_mem_nil) (fun v43 h43 _ q43 => ?_)
  rotate_left
  · cases q43.1
  obtain ⟨q43, rfl⟩ := q43
  cases q43
  have hC2 := uAnswer (j := ji) (a := x) (b := S 26 0 0) (g := nI jp) hC hjv
  have hV2 := st_cV hC2 (v := jv) (by simp only [nv_up (show 24 ≠ 10 by decide), nv_up (show 24 ≠ 9 by decide), nv_up (show 24 ≠ 8 by decide), nv_up (show 24 ≠ 7 by decide)]; exact hjv)
  have hK2 := st_cK hC2 (hI.2.2.2.2 jv hjv)
  simp only [kd_up (show 11 ≠ 10 by decide), kd_up (show 11 ≠ 9 by decide), kd_up (show 11 ≠ 8 by decide), kd_up (show 11 ≠ 7 by decide)] at hV2
  refine se_aload (pc := 46) rfl dC_answer_46 ?_
  refine se_getf (pc := 48) clV 1 dC_answer_48 wd_189 rfl (by decide) hV2.1 rfl ?_
  refine se_iload_n (pc := 51) rfl dC_answer_51 ?_
  refine se_iload_n (pc := 52) rfl dC_answer_52 ?_
  refine se_invV (pc := 53) (as := [.int (nI ji), .int x]) (st := []) (vok sc) kK_isWithin dC_answer_53 ⟨wd_330, wd_331, wd_332, wd_2⟩ rfl hK2.1 rfl (Nat.le_of_ble_eq_true rfl) (Nat.le_of_ble_eq_true rfl) (c_K_isWithin hK2 hji) (C2 := 0) (S2 := 0) (by omega) (by omega) (fun v53 h53 _ q53 => ?_) (fun x hx => absurd hx List.not_mem_nil) (fun v53 h53 _ q53 => ?_)
  rotate_left
  · cases q53.2
  obtain ⟨rfl, q53⟩ := q53
  cases q53
  exact se_zret (pc := 56) dC_answer_56 rfl (st_b01 _) (cP_ret (by simp_all [sp_answer, st_wi, up_ne]) hC2 (fr_tr (fr_tr (fr_tr (fr_V hβ hjv) (fr_V hβ hjv)) (fr_V hβ hjv)) (fr_V hβ hjv)))
set_option maxHeartbeats 4000000 in
set_option maxRecDepth 100000 in
theorem p_item {v i w : Int32} (hd : 8 ≤ d) (hC : is_C 0 β S h) (hI : st_I S) (hβ : ∀ v, v < st_nv S → 68 ≤ β v) : se_W (vG sc) l d mC_item 0 (se_ent 5 [.ref 0, .int v, .int i, .int w]) [] h 3 18 (cP β h ["java/lang/IllegalArgumentException"] (sp_item S v i w)) := by
  obtain ⟨d, rfl⟩ : ∃ e, d = e + 1 := ⟨d - 1, by omega⟩
  show se_W (vG sc) l (d + 1) mC_item 0 [some (.ref 0), some (.int v), some (.int i), some (.int w), none] [] h 3 18 _
  refine se_aload_n (pc := 0) rfl dC_item_0 ?_
  refine se_iload_n (pc := 1) rfl dC_item_1 ?_
  refine se_invV (pc := 2) (as := [.int v]) (st := []) (vok sc) kC_knownVehicle dC_item_2 ⟨wd_315, wd_317, sl_2, wd_1⟩ rfl hC.1 rfl (Nat.le_of_ble_eq_true rfl) (Nat.le_of_ble_eq_true rfl) (x_knownVehicle (by omega) hC hI) (C2 := 2) (S2 := 12) (by omega) (by omega) (fun v2 h2 _ q2 => ?_) (fun x hx => absurd hx List.not_mem_nil) (fun v2 h2 _ q2 => ?_)
  rotate_left
  · obtain ⟨rfl, ⟨jv, xjv, hjv, rfl, q2⟩ | ⟨xN, q2⟩⟩ := q2 <;> cases q2; exact cP_thr (S := S) 0 (by simp_all [sp_item, pk_us]) rfl
  obtain ⟨rfl, ⟨jv, xjv, hjv, rfl, q2⟩ | ⟨xN, q2⟩⟩ := q2 <;> cases q2
  have hVjv := st_cV hC hjv
  have hKjv := st_cK hC (hI.2.2.2.2 jv hjv)
  refine se_astore (pc := 5) dC_item_5 (by decide) [some (.ref 0), some (.int (nI jv)), some (.int i), some (.int w), some (.ref (β jv))] rfl ?_
  refine se_iload_n (pc := 7) rfl dC_item_7 ?_
  refine se_invS (pc := 8) (as := [.int i]) (st := []) (vok sc) kC_checkItem dC_item_8 ⟨wd_254, wd_255, wd_1⟩ rfl (Nat.le_of_ble_eq_true rfl) (Nat.le_of_ble_eq_true rfl) (x_checkItem (by omega)) (C2 := 1) (S2 := 6) (by omega) (by omega) (fun v8 h8 _ q8 => ?_) (fun x hx => absurd hx List.not_mem_nil) (fun v8 h8 _ q8 => ?_)
  rotate_left
  · obtain ⟨rfl, ⟨ji, xji, hji, rfl, q8⟩ | ⟨xN, q8⟩⟩ := q8 <;> cases q8; exact cP_thr (S := S) 0 (by simp_all [sp_item, pk_us]) rfl
  obtain ⟨rfl, ⟨ji, xji, hji, rfl, q8⟩ | ⟨xN, q8⟩⟩ := q8 <;> cases q8
  refine se_iload_n (pc := 11) rfl dC_item_11 ?_
  rcases st_sw6 w with hsw | rfl | rfl | rfl | rfl | rfl | rfl
  · refine se_tableOut (pc := 12) (tgt := 114) dC_item_12 hsw.1 (by decide) ?_
    exact vth (pc := 114) (text := "no such what") exIllegalArgumentException rfl rfl (by decide +kernel) dC_item_114 dC_item_117 dC_item_118 dC_item_120 dC_item_123 (Nat.le_of_ble_eq_true rfl) (by omega) (by omega) (by omega) (cP_thr (S := S) 0 (by simp_all [sp_item, pk_us]) rfl)
  · refine se_tableIn (pc := 12) (tgt := 52) dC_item_12 (by decide) (by decide) rfl (by decide) ?_
    refine se_aload (pc := 52) rfl dC_item_52 ?_
    refine se_getf (pc := 54) clV 1 dC_item_54 wd_189 rfl (by decide) hVjv.1 rfl ?_
    refine se_getf (pc := 57) clK 0 dC_item_57 wd_30 rfl (by decide) hKjv.1 rfl ?_
    refine se_iload_n (pc := 60) rfl dC_item_60 ?_
    refine se_zaldN (pc := 61) 1 dC_item_61 rfl hKjv.2.1 hji (by decide) ?_
    refine se_invS (pc := 62) (as := [.int (S 0 (st_kd S jv) ji)]) (st := []) (vok sc) kC_oneOrZero dC_item_62 ⟨wd_341, wd_342, wd_1⟩ rfl (Nat.le_of_ble_eq_true rfl) (Nat.le_of_ble_eq_true rfl) (c_C_oneOrZero) (C2 := 1) (S2 := 6) (by omega) (by omega) (fun v62 h62 _ q62 => ?_) (fun x hx => absurd hx List.not_mem_nil) (fun v62 h62 _ q62 => ?_)
    rotate_left
    · cases q62.2
    obtain ⟨rfl, q62⟩ := q62
    cases q62
    exact se_iret (pc := 65) dC_item_65 rfl (cP_ret (by simp_all [sp_item, st_bb]) hC (fr_rf _))
  · refine se_tableIn (pc := 12) (tgt := 66) dC_item_12 (by decide) (by decide) rfl (by decide) ?_
    refine se_aload (pc := 66) rfl dC_item_66 ?_
    refine se_getf (pc := 68) clV 5 dC_item_68 wd_196 rfl (by decide) hVjv.1 rfl ?_
    refine se_iload_n (pc := 71) rfl dC_item_71 ?_
    refine se_ialdN (pc := 72) 0 dC_item_72 rfl hVjv.2.2.1 hji (by decide) ?_
    exact se_iret (pc := 73) dC_item_73 rfl (cP_ret (by simp_all [sp_item, st_bb]) hC (fr_rf _))
  · refine se_tableIn (pc := 12) (tgt := 74) dC_item_12 (by decide) (by decide) rfl (by decide) ?_
    refine se_aload (pc := 74) rfl dC_item_74 ?_
    refine se_getf (pc := 76) clV 6 dC_item_76 wd_198 rfl (by decide) hVjv.1 rfl ?_
    refine se_iload_n (pc := 79) rfl dC_item_79 ?_
    refine se_ialdN (pc := 80) 0 dC_item_80 rfl hVjv.2.2.2.1 hji (by decide) ?_
    exact se_iret (pc := 81) dC_item_81 rfl (cP_ret (by simp_all [sp_item, st_bb]) hC (fr_rf _))
  · refine se_tableIn (pc := 12) (tgt := 82) dC_item_12 (by decide) (by decide) rfl (by decide) ?_
    refine se_aload (pc := 82) rfl dC_item_82 ?_
    refine se_getf (pc := 84) clV 7 dC_item_84 wd_200 rfl (by decide) hVjv.1 rfl ?_
    refine se_iload_n (pc := 87) rfl dC_item_87 ?_
    refine se_ialdN (pc := 88) 0 dC_item_88 rfl hVjv.2.2.2.2.1 hji (by decide) ?_
    exact se_iret (pc := 89) dC_item_89 rfl (cP_ret (by simp_all [sp_item, st_bb]) hC (fr_rf _))
  · refine se_tableIn (pc := 12) (tgt := 90) dC_item_12 (by decide) (by decide) rfl (by decide) ?_
    refine se_aload (pc := 90) rfl dC_item_90 ?_
    refine se_iload_n (pc := 92) rfl dC_item_92 ?_
    refine se_invV (pc := 93) (as := [.int (nI ji)]) (st := []) (vok sc) kV_hasFailed dC_item_93 ⟨wd_344, wd_345, wd_346, wd_9⟩ rfl hVjv.1 rfl (Nat.le_of_ble_eq_true rfl) (Nat.le_of_ble_eq_true rfl) (c_V_hasFailed (by omega) hVjv hKjv hji) (C2 := 1) (S2 := 6) (by omega) (by omega) (fun v93 h93 _ q93 => ?_) (fun x hx => absurd hx List.not_mem_nil) (fun v93 h93 _ q93 => ?_)
    rotate_left
    · cases q93.2
    obtain ⟨rfl, q93⟩ := q93
    cases q93
    refine se_invS (pc := 96) (as := [.int (st_b (st_fa S (st_kd S jv) jv ji))]) (st := []) (vok sc) kC_oneOrZero dC_item_96 ⟨wd_341, wd_342, wd_1⟩ rfl (Nat.le_of_ble_eq_true rfl) (Nat.le_of_ble_eq_true rfl) (c_C_oneOrZero) (C2 := 1) (S2 := 6) (by omega) (by omega) (fun v96 h96 _ q96 => ?_) (fun x hx => absurd hx List.not_mem_nil) (fun v96 h96 _ q96 => ?_)
    rotate_left
    · cases q96.2
    obtain ⟨rfl, q96⟩ := q96
    cases q96
    exact se_iret (pc := 99) dC_item_99 rfl (cP_ret (by simp_all [sp_item, st_bb]) hC (fr_rf _))
  · refine se_tableIn (pc := 12) (tgt := 100) dC_item_12 (by decide) (by decide) rfl (by decide) ?_
    refine se_aload (pc := 100) rfl dC_item_100 ?_
    refine se_iload_n (pc := 102) rfl dC_item_102 ?_
    refine se_aload_n (pc := 103) rfl dC_item_103 ?_
    refine se_getf (pc := 104) clC 7 dC_item_104 wd_65 rfl (by decide) hC.1 rfl ?_
    refine se_invV (pc := 107) (as := [.int (nI ji), .int (S 26 0 0)]) (st := []) (vok sc) kV_hasSkipped dC_item_107 ⟨wd_349, wd_350, wd_351, wd_9⟩ rfl hVjv.1 rfl (Nat.le_of_ble_eq_true rfl) (Nat.le_of_ble_eq_true rfl) (c_V_hasSkipped hVjv hKjv hji) (C2 := 1) (S2 := 6) (by omega) (by omega) (fun v107 h107 _ q107 => ?_) (fun x hx => absurd hx List.not_mem_nil) (fun v107 h107 _ q107 => ?_)
    rotate_left
    · cases q107.2
    obtain ⟨rfl, q107⟩ := q107
    cases q107
    refine se_invS (pc := 110) (as := [.int (st_b (st_sk S (st_kd S jv) jv ji (S 26 0 0)))]) (st := []) (vok sc) kC_oneOrZero dC_item_110 ⟨wd_341, wd_342, wd_1⟩ rfl (Nat.le_of_ble_eq_true rfl) (Nat.le_of_ble_eq_true rfl) (c_C_oneOrZero) (C2 := 1) (S2 := 6) (by omega) (by omega) (fun v110 h110 _ q110 => ?_) (fun x hx => absurd hx List.not_mem_nil) (fun v110 h110 _ q110 => ?_)
    rotate_left
    · cases q110.2
    obtain ⟨rfl, q110⟩ := q110
    cases q110
    exact se_iret (pc := 113) dC_item_113 rfl (cP_ret (by simp_all [sp_item, st_bb]) hC (fr_rf _))
set_option maxHeartbeats 4000000 in
set_option maxRecDepth 100000 in
theorem p_off {v b p q : Int32} (hd : 7 ≤ d) (hC : is_C 0 β S h) (hI : st_I S) (hβ : ∀ v, v < st_nv S → 68 ≤ β v) (hb : b = 0 ∨ b = 1) : se_W (vG sc) l d mC_off 0 (se_ent 6 [.ref 0, .int v, .int b, .int p, .int q]) [] h 4 24 (cP β h ["java/lang/IllegalArgumentException", "java/lang/IllegalStateException"] (sp_off S v b p q)) := by
  obtain ⟨d, rfl⟩ : ∃ e, d = e + 1 := ⟨d - 1, by omega⟩
  show se_W (vG sc) l (d + 1) mC_off 0 [some (.ref 0), some (.int v), some (.int b), some (.int p), some (.int q), none] [] h 4 24 _
  refine se_aload_n (pc := 0) rfl dC_off_0 ?_
  refine se_iload_n (pc := 1) rfl dC_off_1 ?_
  refine se_invV (pc := 2) (as := [.int v]) (st := []) (vok sc) kC_knownVehicle dC_off_2 ⟨wd_315, wd_317, sl_2, wd_1⟩ rfl hC.1 rfl (Nat.le_of_ble_eq_true rfl) (Nat.le_of_ble_eq_true rfl) (x_knownVehicle (by omega) hC hI) (C2 := 3) (S2 := 18) (by omega) (by omega) (fun v2 h2 _ q2 => ?_) (fun x hx => absurd hx List.not_mem_nil) (fun v2 h2 _ q2 => ?_)
  rotate_left
  · obtain ⟨rfl, ⟨jv, xjv, hjv, rfl, q2⟩ | ⟨xN, q2⟩⟩ := q2 <;> cases q2; exact cP_thr (S := S) 0 (by simp_all [sp_off, pk_us]) rfl
  obtain ⟨rfl, ⟨jv, xjv, hjv, rfl, q2⟩ | ⟨xN, q2⟩⟩ := q2 <;> cases q2
  have hVjv := st_cV hC hjv
  have hKjv := st_cK hC (hI.2.2.2.2 jv hjv)
  refine se_astore (pc := 5) dC_off_5 (by decide) [some (.ref 0), some (.int (nI jv)), some (.int b), some (.int p), some (.int q), some (.ref (β jv))] rfl ?_
  refine se_iload_n (pc := 7) rfl dC_off_7 ?_
  refine se_invS (pc := 8) (as := [.int p]) (st := []) (vok sc) kC_checkPerson dC_off_8 ⟨wd_320, wd_321, wd_1⟩ rfl (Nat.le_of_ble_eq_true rfl) (Nat.le_of_ble_eq_true rfl) (x_checkPerson (by omega)) (C2 := 2) (S2 := 12) (by omega) (by omega) (fun v8 h8 _ q8 => ?_) (fun x hx => absurd hx List.not_mem_nil) (fun v8 h8 _ q8 => ?_)
  rotate_left
  · obtain ⟨rfl, ⟨jp, xjp, hjp, rfl, q8⟩ | ⟨xN, q8⟩⟩ := q8 <;> cases q8; exact cP_thr (S := S) 0 (by simp_all [sp_off, pk_us]) rfl
  obtain ⟨rfl, ⟨jp, xjp, hjp, rfl, q8⟩ | ⟨xN, q8⟩⟩ := q8 <;> cases q8
  refine se_iload (pc := 11) rfl dC_off_11 ?_
  refine se_invS (pc := 13) (as := [.int q]) (st := []) (vok sc) kC_checkPerson dC_off_13 ⟨wd_320, wd_321, wd_1⟩ rfl (Nat.le_of_ble_eq_true rfl) (Nat.le_of_ble_eq_true rfl) (x_checkPerson (by omega)) (C2 := 1) (S2 := 6) (by omega) (by omega) (fun v13 h13 _ q13 => ?_) (fun x hx => absurd hx List.not_mem_nil) (fun v13 h13 _ q13 => ?_)
  rotate_left
  · obtain ⟨rfl, ⟨jq, xjq, hjq, rfl, q13⟩ | ⟨xN, q13⟩⟩ := q13 <;> cases q13; exact cP_thr (S := S) 0 (by simp_all [sp_off, pk_us]) rfl
  obtain ⟨rfl, ⟨jq, xjq, hjq, rfl, q13⟩ | ⟨xN, q13⟩⟩ := q13 <;> cases q13
  refine se_aload (pc := 16) rfl dC_off_16 ?_
  refine se_getf (pc := 18) clV 9 dC_off_18 wd_202 rfl (by decide) hVjv.1 rfl ?_
  refine se_iload_n (pc := 21) rfl dC_off_21 ?_
  refine se_icmp_ne (pc := 22) (tgt := 35) dC_off_22 (by decide) (fun q1 => ?_) (fun q1 => ?_)
  · refine se_iload_n (pc := 35) rfl dC_off_35 ?_
    refine se_iload (pc := 36) rfl dC_off_36 ?_
    refine se_icmp_ne (pc := 38) (tgt := 51) dC_off_38 (by decide) (fun q2 => ?_) (fun q2 => ?_)
    · refine se_aload (pc := 51) rfl dC_off_51 ?_
      refine se_iload_n (pc := 53) rfl dC_off_53 ?_
      refine se_putf (pc := 54) clV 9 dC_off_54 wd_202 rfl (by decide) rfl (st_nz hb) hVjv.1 (Nat.le_of_ble_eq_true rfl) ?_
      exact se_vret (pc := 57) dC_off_57 rfl (cP_ret (by simp_all [sp_off, pk_us]) (uV14 hC hjv) (fr_V (t := 0) hβ hjv))
    · exact vth (pc := 41) (text := "the two persons are one") exIllegalStateException rfl rfl (by decide +kernel) dC_off_41 dC_off_44 dC_off_45 dC_off_47 dC_off_50 (Nat.le_of_ble_eq_true rfl) (by omega) (by omega) (by omega) (cP_thr (S := S) 1 (by simp_all [sp_off, pk_us]) rfl)
  · exact vth (pc := 25) (text := "the vehicle is so already") exIllegalStateException rfl rfl (by decide +kernel) dC_off_25 dC_off_28 dC_off_29 dC_off_31 dC_off_34 (Nat.le_of_ble_eq_true rfl) (by omega) (by omega) (by omega) (cP_thr (S := S) 1 (by simp_all [sp_off, pk_us]) rfl)
set_option maxHeartbeats 4000000 in
set_option maxRecDepth 100000 in
theorem p_fuel {v m : Int32} (hd : 7 ≤ d) (hC : is_C 0 β S h) (hI : st_I S) (hβ : ∀ v, v < st_nv S → 68 ≤ β v) : se_W (vG sc) l d mC_fuel 0 (se_ent 4 [.ref 0, .int v, .int m]) [] h 3 18 (cP β h ["java/lang/IllegalArgumentException", "java/lang/IndexOutOfBoundsException", "java/lang/UnsupportedOperationException"] (sp_fuel S v m)) := by
  obtain ⟨d, rfl⟩ : ∃ e, d = e + 1 := ⟨d - 1, by omega⟩
  show se_W (vG sc) l (d + 1) mC_fuel 0 [some (.ref 0), some (.int v), some (.int m), none] [] h 3 18 _
  refine se_aload_n (pc := 0) rfl dC_fuel_0 ?_
  refine se_iload_n (pc := 1) rfl dC_fuel_1 ?_
  refine se_invV (pc := 2) (as := [.int v]) (st := []) (vok sc) kC_knownVehicle dC_fuel_2 ⟨wd_315, wd_317, sl_2, wd_1⟩ rfl hC.1 rfl (Nat.le_of_ble_eq_true rfl) (Nat.le_of_ble_eq_true rfl) (x_knownVehicle (by omega) hC hI) (C2 := 2) (S2 := 12) (by omega) (by omega) (fun v2 h2 _ q2 => ?_) (fun x hx => absurd hx List.not_mem_nil) (fun v2 h2 _ q2 => ?_)
  rotate_left
  · obtain ⟨rfl, ⟨jv, xjv, hjv, rfl, q2⟩ | ⟨xN, q2⟩⟩ := q2 <;> cases q2; exact cP_thr (S := S) 0 (by simp_all [sp_fuel, pk_us]) rfl
  obtain ⟨rfl, ⟨jv, xjv, hjv, rfl, q2⟩ | ⟨xN, q2⟩⟩ := q2 <;> cases q2
  have hVjv := st_cV hC hjv
  have hKjv := st_cK hC (hI.2.2.2.2 jv hjv)
  refine se_astore_n (pc := 5) dC_fuel_5 (by decide) [some (.ref 0), some (.int (nI jv)), some (.int m), some (.ref (β jv))] rfl ?_
  refine se_iload_n (pc := 6) rfl dC_fuel_6 ?_
  refine se_iconst (pc := 7) 1 (by decide) dC_fuel_7 ?_
  refine se_ldc (pc := 8) 1000000 dC_fuel_8 wd_361 ?_
  refine se_invS (pc := 10) (as := [.int m, .int 1, .int 1000000]) (st := []) (vok sc) kC_checkRange dC_fuel_10 ⟨wd_258, wd_259, wd_1⟩ rfl (Nat.le_of_ble_eq_true rfl) (Nat.le_of_ble_eq_true rfl) (x_checkRange (by omega)) (C2 := 1) (S2 := 6) (by omega) (by omega) (fun v10 h10 _ q10 => ?_) (fun x hx => absurd hx List.not_mem_nil) (fun v10 h10 _ q10 => ?_)
  rotate_left
  · obtain ⟨rfl, ⟨q10, r10⟩ | ⟨q10, r10⟩⟩ := q10 <;> cases q10; exact cP_thr (S := S) 1 (by simp_all [sp_fuel, pk_us]) rfl
  obtain ⟨rfl, ⟨q10, r10⟩ | ⟨q10, r10⟩⟩ := q10 <;> cases q10
  refine se_aload_n (pc := 13) rfl dC_fuel_13 ?_
  refine se_getf (pc := 14) clV 13 dC_fuel_14 wd_209 rfl (by decide) hVjv.1 rfl ?_
  refine se_iload_n (pc := 17) rfl dC_fuel_17 ?_
  refine se_ldc (pc := 18) 1000000000 dC_fuel_18 wd_490 ?_
  refine se_invS (pc := 20) (as := [.int (S 18 jv 0), .int m, .int 1000000000]) (st := []) (vok sc) kC_checkRoom dC_fuel_20 ⟨wd_451, wd_452, wd_1⟩ rfl (Nat.le_of_ble_eq_true rfl) (Nat.le_of_ble_eq_true rfl) (x_checkRoom (by omega)) (C2 := 0) (S2 := 0) (by omega) (by omega) (fun v20 h20 _ q20 => ?_) (fun x hx => absurd hx List.not_mem_nil) (fun v20 h20 _ q20 => ?_)
  rotate_left
  · obtain ⟨rfl, ⟨q20, r20⟩ | ⟨q20, r20⟩⟩ := q20 <;> cases q20; exact cP_thr (S := S) 2 (by simp_all [sp_fuel, pk_us]) rfl
  obtain ⟨rfl, ⟨q20, r20⟩ | ⟨q20, r20⟩⟩ := q20 <;> cases q20
  refine se_aload_n (pc := 23) rfl dC_fuel_23 ?_
  refine se_dup (pc := 24) rfl dC_fuel_24 ?_
  refine se_getf (pc := 25) clV 13 dC_fuel_25 wd_209 rfl (by decide) hVjv.1 rfl ?_
  refine se_iload_n (pc := 28) rfl dC_fuel_28 ?_
  refine se_iadd (pc := 29) dC_fuel_29 ?_
  refine se_putf (pc := 30) clV 13 dC_fuel_30 wd_209 rfl (by decide) rfl (fun _ => ⟨rfl, rfl⟩) hVjv.1 (Nat.le_of_ble_eq_true rfl) ?_
  refine se_aload_n (pc := 33) rfl dC_fuel_33 ?_
  refine se_getf (pc := 34) clV 13 dC_fuel_34 wd_209 rfl (by decide) (st_eq hVjv.1) rfl ?_
  exact se_iret (pc := 37) dC_fuel_37 rfl (cP_ret (by simp_all [sp_fuel, pk_us]) (uV18 hC hjv) (fr_V (t := 0) hβ hjv))
set_option maxHeartbeats 4000000 in
set_option maxRecDepth 100000 in
theorem p_cost {v m : Int32} (hd : 7 ≤ d) (hC : is_C 0 β S h) (hI : st_I S) (hβ : ∀ v, v < st_nv S → 68 ≤ β v) : se_W (vG sc) l d mC_cost 0 (se_ent 4 [.ref 0, .int v, .int m]) [] h 3 18 (cP β h ["java/lang/IllegalArgumentException", "java/lang/IndexOutOfBoundsException", "java/lang/UnsupportedOperationException"] (sp_cost S v m)) := by
  obtain ⟨d, rfl⟩ : ∃ e, d = e + 1 := ⟨d - 1, by omega⟩
  show se_W (vG sc) l (d + 1) mC_cost 0 [some (.ref 0), some (.int v), some (.int m), none] [] h 3 18 _
  refine se_aload_n (pc := 0) rfl dC_cost_0 ?_
  refine se_iload_n (pc := 1) rfl dC_cost_1 ?_
  refine se_invV (pc := 2) (as := [.int v]) (st := []) (vok sc) kC_knownVehicle dC_cost_2 ⟨wd_315, wd_317, sl_2, wd_1⟩ rfl hC.1 rfl (Nat.le_of_ble_eq_true rfl) (Nat.le_of_ble_eq_true rfl) (x_knownVehicle (by omega) hC hI) (C2 := 2) (S2 := 12) (by omega) (by omega) (fun v2 h2 _ q2 => ?_) (fun x hx => absurd hx List.not_mem_nil) (fun v2 h2 _ q2 => ?_)
  rotate_left
  · obtain ⟨rfl, ⟨jv, xjv, hjv, rfl, q2⟩ | ⟨xN, q2⟩⟩ := q2 <;> cases q2; exact cP_thr (S := S) 0 (by simp_all [sp_cost, pk_us]) rfl
  obtain ⟨rfl, ⟨jv, xjv, hjv, rfl, q2⟩ | ⟨xN, q2⟩⟩ := q2 <;> cases q2
  have hVjv := st_cV hC hjv
  have hKjv := st_cK hC (hI.2.2.2.2 jv hjv)
  refine se_astore_n (pc := 5) dC_cost_5 (by decide) [some (.ref 0), some (.int (nI jv)), some (.int m), some (.ref (β jv))] rfl ?_
  refine se_iload_n (pc := 6) rfl dC_cost_6 ?_
  refine se_iconst (pc := 7) 0 (by decide) dC_cost_7 ?_
  refine se_ldc (pc := 8) 10000000 dC_cost_8 wd_521 ?_
  refine se_invS (pc := 10) (as := [.int m, .int 0, .int 10000000]) (st := []) (vok sc) kC_checkRange dC_cost_10 ⟨wd_258, wd_259, wd_1⟩ rfl (Nat.le_of_ble_eq_true rfl) (Nat.le_of_ble_eq_true rfl) (x_checkRange (by omega)) (C2 := 1) (S2 := 6) (by omega) (by omega) (fun v10 h10 _ q10 => ?_) (fun x hx => absurd hx List.not_mem_nil) (fun v10 h10 _ q10 => ?_)
  rotate_left
  · obtain ⟨rfl, ⟨q10, r10⟩ | ⟨q10, r10⟩⟩ := q10 <;> cases q10; exact cP_thr (S := S) 1 (by simp_all [sp_cost, pk_us]) rfl
  obtain ⟨rfl, ⟨q10, r10⟩ | ⟨q10, r10⟩⟩ := q10 <;> cases q10
  refine se_aload_n (pc := 13) rfl dC_cost_13 ?_
  refine se_getf (pc := 14) clV 14 dC_cost_14 wd_210 rfl (by decide) hVjv.1 rfl ?_
  refine se_iload_n (pc := 17) rfl dC_cost_17 ?_
  refine se_ldc (pc := 18) 1000000000 dC_cost_18 wd_490 ?_
  refine se_invS (pc := 20) (as := [.int (S 19 jv 0), .int m, .int 1000000000]) (st := []) (vok sc) kC_checkRoom dC_cost_20 ⟨wd_451, wd_452, wd_1⟩ rfl (Nat.le_of_ble_eq_true rfl) (Nat.le_of_ble_eq_true rfl) (x_checkRoom (by omega)) (C2 := 0) (S2 := 0) (by omega) (by omega) (fun v20 h20 _ q20 => ?_) (fun x hx => absurd hx List.not_mem_nil) (fun v20 h20 _ q20 => ?_)
  rotate_left
  · obtain ⟨rfl, ⟨q20, r20⟩ | ⟨q20, r20⟩⟩ := q20 <;> cases q20; exact cP_thr (S := S) 2 (by simp_all [sp_cost, pk_us]) rfl
  obtain ⟨rfl, ⟨q20, r20⟩ | ⟨q20, r20⟩⟩ := q20 <;> cases q20
  refine se_aload_n (pc := 23) rfl dC_cost_23 ?_
  refine se_dup (pc := 24) rfl dC_cost_24 ?_
  refine se_getf (pc := 25) clV 14 dC_cost_25 wd_210 rfl (by decide) hVjv.1 rfl ?_
  refine se_iload_n (pc := 28) rfl dC_cost_28 ?_
  refine se_iadd (pc := 29) dC_cost_29 ?_
  refine se_putf (pc := 30) clV 14 dC_cost_30 wd_210 rfl (by decide) rfl (fun _ => ⟨rfl, rfl⟩) hVjv.1 (Nat.le_of_ble_eq_true rfl) ?_
  refine se_aload_n (pc := 33) rfl dC_cost_33 ?_
  refine se_getf (pc := 34) clV 14 dC_cost_34 wd_210 rfl (by decide) (st_eq hVjv.1) rfl ?_
  exact se_iret (pc := 37) dC_cost_37 rfl (cP_ret (by simp_all [sp_cost, pk_us]) (uV19 hC hjv) (fr_V (t := 0) hβ hjv))
set_option maxHeartbeats 4000000 in
set_option maxRecDepth 100000 in
theorem p_key {v p : Int32} (hd : 7 ≤ d) (hC : is_C 0 β S h) (hI : st_I S) (hβ : ∀ v, v < st_nv S → 68 ≤ β v) : se_W (vG sc) l d mC_key 0 (se_ent 5 [.ref 0, .int v, .int p]) [] h 3 18 (cP β h ["java/lang/IllegalArgumentException", "java/lang/IllegalStateException"] (sp_key S v p)) := by
  obtain ⟨d, rfl⟩ : ∃ e, d = e + 1 := ⟨d - 1, by omega⟩
  show se_W (vG sc) l (d + 1) mC_key 0 [some (.ref 0), some (.int v), some (.int p), none, none] [] h 3 18 _
  refine se_aload_n (pc := 0) rfl dC_key_0 ?_
  refine se_iload_n (pc := 1) rfl dC_key_1 ?_
  refine se_invV (pc := 2) (as := [.int v]) (st := []) (vok sc) kC_knownVehicle dC_key_2 ⟨wd_315, wd_317, sl_2, wd_1⟩ rfl hC.1 rfl (Nat.le_of_ble_eq_true rfl) (Nat.le_of_ble_eq_true rfl) (x_knownVehicle (by omega) hC hI) (C2 := 2) (S2 := 12) (by omega) (by omega) (fun v2 h2 _ q2 => ?_) (fun x hx => absurd hx List.not_mem_nil) (fun v2 h2 _ q2 => ?_)
  rotate_left
  · obtain ⟨rfl, ⟨jv, xjv, hjv, rfl, q2⟩ | ⟨xN, q2⟩⟩ := q2 <;> cases q2; exact cP_thr (S := S) 0 (by simp_all [sp_key, pk_us]) rfl
  obtain ⟨rfl, ⟨jv, xjv, hjv, rfl, q2⟩ | ⟨xN, q2⟩⟩ := q2 <;> cases q2
  have hVjv := st_cV hC hjv
  have hKjv := st_cK hC (hI.2.2.2.2 jv hjv)
  refine se_astore_n (pc := 5) dC_key_5 (by decide) [some (.ref 0), some (.int (nI jv)), some (.int p), some (.ref (β jv)), none] rfl ?_
  refine se_iload_n (pc := 6) rfl dC_key_6 ?_
  refine se_iconst (pc := 7) (-1) (by decide) dC_key_7 ?_
  refine se_icmp_eq (pc := 8) (tgt := 15) dC_key_8 (by decide) (fun q1 => ?_) (fun q1 => ?_)
  · refine se_aload_n (pc := 15) rfl dC_key_15 ?_
    refine se_getf (pc := 16) clV 15 dC_key_16 wd_212 rfl (by decide) hVjv.1 rfl ?_
    refine se_istore (pc := 19) dC_key_19 (by decide) [some (.ref 0), some (.int (nI jv)), some (.int p), some (.ref (β jv)), some (.int (S 20 jv 0))] rfl ?_
    refine se_iload (pc := 21) rfl dC_key_21 ?_
    refine se_iload_n (pc := 23) rfl dC_key_23 ?_
    refine se_icmp_ne (pc := 24) (tgt := 37) dC_key_24 (by decide) (fun q2 => ?_) (fun q2 => ?_)
    · refine se_aload_n (pc := 37) rfl dC_key_37 ?_
      refine se_iload_n (pc := 38) rfl dC_key_38 ?_
      refine se_putf (pc := 39) clV 15 dC_key_39 wd_212 rfl (by decide) rfl (fun _ => ⟨rfl, rfl⟩) hVjv.1 (Nat.le_of_ble_eq_true rfl) ?_
      refine se_iload (pc := 42) rfl dC_key_42 ?_
      exact se_iret (pc := 44) dC_key_44 rfl (cP_ret (by simp_all [sp_key, pk_us]) (uV20 hC hjv) (fr_V (t := 0) hβ hjv))
    · exact vth (pc := 27) (text := "that one has the key") exIllegalStateException rfl rfl (by decide +kernel) dC_key_27 dC_key_30 dC_key_31 dC_key_33 dC_key_36 (Nat.le_of_ble_eq_true rfl) (by omega) (by omega) (by omega) (cP_thr (S := S) 1 (by simp_all [sp_key, pk_us]) rfl)
  · refine se_iload_n (pc := 11) rfl dC_key_11 ?_
    refine se_invS (pc := 12) (as := [.int p]) (st := []) (vok sc) kC_checkPerson dC_key_12 ⟨wd_320, wd_321, wd_1⟩ rfl (Nat.le_of_ble_eq_true rfl) (Nat.le_of_ble_eq_true rfl) (x_checkPerson (by omega)) (C2 := 1) (S2 := 6) (by omega) (by omega) (fun v12 h12 _ q12 => ?_) (fun x hx => absurd hx List.not_mem_nil) (fun v12 h12 _ q12 => ?_)
    rotate_left
    · obtain ⟨rfl, ⟨jp, xjp, hjp, rfl, q12⟩ | ⟨xN, q12⟩⟩ := q12 <;> cases q12; exact cP_thr (S := S) 0 (by simp_all [sp_key, pk_us]) rfl
    obtain ⟨rfl, ⟨jp, xjp, hjp, rfl, q12⟩ | ⟨xN, q12⟩⟩ := q12 <;> cases q12
    refine se_aload_n (pc := 15) rfl dC_key_15 ?_
    refine se_getf (pc := 16) clV 15 dC_key_16 wd_212 rfl (by decide) hVjv.1 rfl ?_
    refine se_istore (pc := 19) dC_key_19 (by decide) [some (.ref 0), some (.int (nI jv)), some (.int (nI jp)), some (.ref (β jv)), some (.int (S 20 jv 0))] rfl ?_
    refine se_iload (pc := 21) rfl dC_key_21 ?_
    refine se_iload_n (pc := 23) rfl dC_key_23 ?_
    refine se_icmp_ne (pc := 24) (tgt := 37) dC_key_24 (by decide) (fun q3 => ?_) (fun q3 => ?_)
    · refine se_aload_n (pc := 37) rfl dC_key_37 ?_
      refine se_iload_n (pc := 38) rfl dC_key_38 ?_
      refine se_putf (pc := 39) clV 15 dC_key_39 wd_212 rfl (by decide) rfl (fun _ => ⟨rfl, rfl⟩) hVjv.1 (Nat.le_of_ble_eq_true rfl) ?_
      refine se_iload (pc := 42) rfl dC_key_42 ?_
      exact se_iret (pc := 44) dC_key_44 rfl (cP_ret (by simp_all [sp_key, pk_us]) (uV20 hC hjv) (fr_V (t := 0) hβ hjv))
    · exact vth (pc := 27) (text := "that one has the key") exIllegalStateException rfl rfl (by decide +kernel) dC_key_27 dC_key_30 dC_key_31 dC_key_33 dC_key_36 (Nat.le_of_ble_eq_true rfl) (by omega) (by omega) (by omega) (cP_thr (S := S) 1 (by simp_all [sp_key, pk_us]) rfl)
set_option maxHeartbeats 4000000 in
set_option maxRecDepth 100000 in
theorem p_vehicleAt {v w : Int32} (hd : 8 ≤ d) (hC : is_C 0 β S h) (hI : st_I S) (hβ : ∀ v, v < st_nv S → 68 ≤ β v) : se_W (vG sc) l d mC_vehicleAt 0 (se_ent 4 [.ref 0, .int v, .int w]) [] h 2 12 (cP β h ["java/lang/IllegalArgumentException"] (sp_vehicleAt S v w)) := by
  obtain ⟨d, rfl⟩ : ∃ e, d = e + 1 := ⟨d - 1, by omega⟩
  show se_W (vG sc) l (d + 1) mC_vehicleAt 0 [some (.ref 0), some (.int v), some (.int w), none] [] h 2 12 _
  refine se_aload_n (pc := 0) rfl dC_vehicleAt_0 ?_
  refine se_iload_n (pc := 1) rfl dC_vehicleAt_1 ?_
  refine se_invV (pc := 2) (as := [.int v]) (st := []) (vok sc) kC_knownVehicle dC_vehicleAt_2 ⟨wd_315, wd_317, sl_2, wd_1⟩ rfl hC.1 rfl (Nat.le_of_ble_eq_true rfl) (Nat.le_of_ble_eq_true rfl) (x_knownVehicle (by omega) hC hI) (C2 := 1) (S2 := 6) (by omega) (by omega) (fun v2 h2 _ q2 => ?_) (fun x hx => absurd hx List.not_mem_nil) (fun v2 h2 _ q2 => ?_)
  rotate_left
  · obtain ⟨rfl, ⟨jv, xjv, hjv, rfl, q2⟩ | ⟨xN, q2⟩⟩ := q2 <;> cases q2; exact cP_thr (S := S) 0 (by simp_all [sp_vehicleAt, pk_us]) rfl
  obtain ⟨rfl, ⟨jv, xjv, hjv, rfl, q2⟩ | ⟨xN, q2⟩⟩ := q2 <;> cases q2
  have hVjv := st_cV hC hjv
  have hKjv := st_cK hC (hI.2.2.2.2 jv hjv)
  refine se_astore_n (pc := 5) dC_vehicleAt_5 (by decide) [some (.ref 0), some (.int (nI jv)), some (.int w), some (.ref (β jv))] rfl ?_
  refine se_iload_n (pc := 6) rfl dC_vehicleAt_6 ?_
  rcases st_sw6 w with hsw | rfl | rfl | rfl | rfl | rfl | rfl
  · refine se_tableOut (pc := 7) (tgt := 86) dC_vehicleAt_7 hsw.1 (by decide) ?_
    exact vth (pc := 86) (text := "no such what") exIllegalArgumentException rfl rfl (by decide +kernel) dC_vehicleAt_86 dC_vehicleAt_89 dC_vehicleAt_90 dC_vehicleAt_92 dC_vehicleAt_95 (Nat.le_of_ble_eq_true rfl) (by omega) (by omega) (by omega) (cP_thr (S := S) 0 (by simp_all [sp_vehicleAt, pk_us]) rfl)
  · refine se_tableIn (pc := 7) (tgt := 44) dC_vehicleAt_7 (by decide) (by decide) rfl (by decide) ?_
    refine se_aload_n (pc := 44) rfl dC_vehicleAt_44 ?_
    refine se_getf (pc := 45) clV 10 dC_vehicleAt_45 wd_204 rfl (by decide) hVjv.1 rfl ?_
    exact se_iret (pc := 48) dC_vehicleAt_48 rfl (cP_ret (by simp_all [sp_vehicleAt]) hC (fr_rf _))
  · refine se_tableIn (pc := 7) (tgt := 49) dC_vehicleAt_7 (by decide) (by decide) rfl (by decide) ?_
    refine se_aload_n (pc := 49) rfl dC_vehicleAt_49 ?_
    refine se_getf (pc := 50) clV 9 dC_vehicleAt_50 wd_202 rfl (by decide) hVjv.1 rfl ?_
    refine se_if_ne (pc := 53) (tgt := 60) dC_vehicleAt_53 (by decide) (fun q1 => ?_) (fun q1 => ?_)
    · refine se_iconst (pc := 60) 0 (by decide) dC_vehicleAt_60 ?_
      refine se_invS (pc := 61) (as := [.int 0]) (st := []) (vok sc) kC_oneOrZero dC_vehicleAt_61 ⟨wd_341, wd_342, wd_1⟩ rfl (Nat.le_of_ble_eq_true rfl) (Nat.le_of_ble_eq_true rfl) (c_C_oneOrZero) (C2 := 1) (S2 := 6) (by omega) (by omega) (fun v61 h61 _ q61 => ?_) (fun x hx => absurd hx List.not_mem_nil) (fun v61 h61 _ q61 => ?_)
      rotate_left
      · cases q61.2
      obtain ⟨rfl, q61⟩ := q61
      cases q61
      exact se_iret (pc := 64) dC_vehicleAt_64 rfl (cP_ret (by simp_all [sp_vehicleAt]) hC (fr_rf _))
    · refine se_iconst (pc := 56) 1 (by decide) dC_vehicleAt_56 ?_
      refine se_goto (pc := 57) (tgt := 61) dC_vehicleAt_57 (by decide) ?_
      refine se_invS (pc := 61) (as := [.int 1]) (st := []) (vok sc) kC_oneOrZero dC_vehicleAt_61 ⟨wd_341, wd_342, wd_1⟩ rfl (Nat.le_of_ble_eq_true rfl) (Nat.le_of_ble_eq_true rfl) (c_C_oneOrZero) (C2 := 1) (S2 := 6) (by omega) (by omega) (fun v61 h61 _ q61 => ?_) (fun x hx => absurd hx List.not_mem_nil) (fun v61 h61 _ q61 => ?_)
      rotate_left
      · cases q61.2
      obtain ⟨rfl, q61⟩ := q61
      cases q61
      exact se_iret (pc := 64) dC_vehicleAt_64 rfl (cP_ret (by simp_all [sp_vehicleAt]) hC (fr_rf _))
  · refine se_tableIn (pc := 7) (tgt := 65) dC_vehicleAt_7 (by decide) (by decide) rfl (by decide) ?_
    refine se_aload_n (pc := 65) rfl dC_vehicleAt_65 ?_
    refine se_getf (pc := 66) clV 11 dC_vehicleAt_66 wd_206 rfl (by decide) hVjv.1 rfl ?_
    exact se_iret (pc := 69) dC_vehicleAt_69 rfl (cP_ret (by simp_all [sp_vehicleAt]) hC (fr_rf _))
  · refine se_tableIn (pc := 7) (tgt := 70) dC_vehicleAt_7 (by decide) (by decide) rfl (by decide) ?_
    refine se_aload_n (pc := 70) rfl dC_vehicleAt_70 ?_
    refine se_getf (pc := 71) clV 12 dC_vehicleAt_71 wd_208 rfl (by decide) hVjv.1 rfl ?_
    exact se_iret (pc := 74) dC_vehicleAt_74 rfl (cP_ret (by simp_all [sp_vehicleAt]) hC (fr_rf _))
  · refine se_tableIn (pc := 7) (tgt := 75) dC_vehicleAt_7 (by decide) (by decide) rfl (by decide) ?_
    refine se_aload_n (pc := 75) rfl dC_vehicleAt_75 ?_
    refine se_aload_n (pc := 76) rfl dC_vehicleAt_76 ?_
    refine se_invV (pc := 77) (as := [.ref (β jv)]) (st := []) (vok sc) kC_openDamages dC_vehicleAt_77 ⟨wd_543, wd_545, sl_9, wd_1⟩ rfl hC.1 rfl (Nat.le_of_ble_eq_true rfl) (Nat.le_of_ble_eq_true rfl) (c_C_openDamages (by omega) hC hVjv hI.2.2.1 hI.2.2.2.1) (C2 := 1) (S2 := 6) (by omega) (by omega) (fun v77 h77 _ q77 => ?_) (fun x hx => absurd hx List.not_mem_nil) (fun v77 h77 _ q77 => ?_)
    rotate_left
    · cases q77.2
    obtain ⟨rfl, q77⟩ := q77
    cases q77
    exact se_iret (pc := 80) dC_vehicleAt_80 rfl (cP_ret (by simp_all [sp_vehicleAt]) hC (fr_rf _))
  · refine se_tableIn (pc := 7) (tgt := 81) dC_vehicleAt_7 (by decide) (by decide) rfl (by decide) ?_
    refine se_aload_n (pc := 81) rfl dC_vehicleAt_81 ?_
    refine se_getf (pc := 82) clV 15 dC_vehicleAt_82 wd_212 rfl (by decide) hVjv.1 rfl ?_
    exact se_iret (pc := 85) dC_vehicleAt_85 rfl (cP_ret (by simp_all [sp_vehicleAt]) hC (fr_rf _))
end PUB
