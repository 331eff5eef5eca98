/-! the calls: refusal's number, answer, state behind it -/
def sp_unlist (S : st_S) (k i : Int32) : Nat × Option Value × st_S := match st_x 5 k, st_x 10 i with
  | some k', some i' => if S 0 k' i' = 0 then (2, none, S) else (0, none, st_up S 0 k' i' 0)
  | _, _ => (1, none, S)
def sp_list (S : st_S) (k i a b g e : Int32) : Nat × Option Value × st_S := match st_x 5 k, st_x 10 i with
  | some k', some i' => if st_in (-9999) 9999 a && (st_in a 9999 b && (st_in 1 3 g && st_in 0 5000 e)) then (0, none, st_up (st_up (st_up (st_up (st_up S 0 k' i' 1) 1 k' i' a) 2 k' i' b) 3 k' i' g) 4 k' i' e) else (2, none, S)
  | _, _ => (1, none, S)
def sp_need (S : st_S) (k t n : Int32) : Nat × Option Value × st_S := match st_x 5 k, st_x 10 t with
  | some k', some t' => if st_in 0 9 n then (0, none, st_up S 5 k' t' n) else (2, none, S)
  | _, _ => (1, none, S)
def sp_runs (S : st_S) (v : Int32) : Nat × Option Value × st_S := match st_x (st_nv S) v with
  | some v' => (0, some (.int (st_b (st_ru S (st_kd S v') v'))), S)
  | none => (1, none, S)
def sp_put (S : st_S) (v t n : Int32) : Nat × Option Value × st_S := match st_x (st_nv S) v, st_x 10 t with
  | some v', some t' => if st_in 1 9 n then (if st_rm (S 6 v' t') n 99 then (0, some (.int (S 6 v' t' + n)), st_up S 6 v' t' (S 6 v' t' + n)) else (3, none, S)) else (2, none, S)
  | _, _ => (1, none, S)
def sp_answer (S : st_S) (v i x p : Int32) : Nat × Option Value × st_S := match st_x (st_nv S) v, st_x 10 i, st_x 40 p with
  | some v', some i', some _ => if !st_in (-99999) 99999 x then (2, none, S) else if S 0 (st_kd S v') i' = 0 then (3, none, S) else (0, some (.int (st_b (st_wi S (st_kd S v') i' x))), st_up (st_up (st_up (st_up S 7 v' i' x) 8 v' i' (S 26 0 0)) 9 v' i' p) 10 v' i' (S 17 v' 0))
  | _, _, _ => (1, none, S)
section PUB
variable {sc : List (Nat × Nat × (Nat → Int32))} {l : Launch} {d : Nat} {h : se_H} {β : Nat → Nat} {S : st_S}
theorem fr_K {k t : Nat} {x : se_E} (hk : k < 5) (ht : t ≤ 6) : st_fr h (h.set (st_K 0 k + t) x) := fr_set (Or.inl (by simp only [st_K]; omega))
theorem fr_V {v t : Nat} {x : se_E} (hβ : ∀ v, v < st_nv S → 68 ≤ β v) (hv : v < st_nv S) : st_fr h (h.set (β v + t) x) := fr_set (Or.inr (by have := hβ v hv; omega))
set_option maxHeartbeats 4000000 in
set_option maxRecDepth 100000 in
theorem p_unlist {k i : Int32} (hd : 7 ≤ d) (hC : is_C 0 β S h) (hI : st_I S) (hβ : ∀ v, v < st_nv S → 68 ≤ β v) : se_W (vG sc) l d mC_unlist 0 (se_ent 4 [.ref 0, .int k, .int i]) [] h 3 18 (cP β h ["java/lang/IllegalArgumentException", "java/lang/IllegalStateException"] (sp_unlist S k i)) := by
  obtain ⟨d, rfl⟩ : ∃ e, d = e + 1 := ⟨d - 1, by omega⟩
  show se_W (vG sc) l (d + 1) mC_unlist 0 [some (.ref 0), some (.int k), some (.int i), none] [] h 3 18 _
  refine se_aload_n (pc := 0) rfl dC_unlist_0 ?_
  refine se_iload_n (pc := 1) rfl dC_unlist_1 ?_
  refine se_invV (pc := 2) (as := [.int k]) (st := []) (vok sc) kC_knownKind dC_unlist_2 ⟨wd_92, wd_94, sl_0, wd_1⟩ rfl hC.1 rfl (Nat.le_of_ble_eq_true rfl) (Nat.le_of_ble_eq_true rfl) (x_knownKind (by omega) hC) (C2 := 2) (S2 := 12) (by omega) (by omega) (fun v2 h2 _ q2 => ?_) (fun x hx => absurd hx List.not_mem_nil) (fun v2 h2 _ q2 => ?_)
  rotate_left
  · obtain ⟨rfl, ⟨jk, xjk, hjk, rfl, q2⟩ | ⟨xN, q2⟩⟩ := q2 <;> cases q2; exact cP_thr (S := S) 0 (by simp_all [sp_unlist, pk_us]) rfl
  obtain ⟨rfl, ⟨jk, xjk, hjk, rfl, q2⟩ | ⟨xN, q2⟩⟩ := q2 <;> cases q2
  have hKjk := st_cK hC hjk
  refine se_astore_n (pc := 5) dC_unlist_5 (by decide) [some (.ref 0), some (.int (nI jk)), some (.int i), some (.ref (st_K 0 jk))] rfl ?_
  refine se_iload_n (pc := 6) rfl dC_unlist_6 ?_
  refine se_invS (pc := 7) (as := [.int i]) (st := []) (vok sc) kC_checkItem dC_unlist_7 ⟨wd_254, wd_255, wd_1⟩ rfl (Nat.le_of_ble_eq_true rfl) (Nat.le_of_ble_eq_true rfl) (x_checkItem (by omega)) (C2 := 1) (S2 := 6) (by omega) (by omega) (fun v7 h7 _ q7 => ?_) (fun x hx => absurd hx List.not_mem_nil) (fun v7 h7 _ q7 => ?_)
  rotate_left
  · obtain ⟨rfl, ⟨ji, xji, hji, rfl, q7⟩ | ⟨xN, q7⟩⟩ := q7 <;> cases q7; exact cP_thr (S := S) 0 (by simp_all [sp_unlist, pk_us]) rfl
  obtain ⟨rfl, ⟨ji, xji, hji, rfl, q7⟩ | ⟨xN, q7⟩⟩ := q7 <;> cases q7
  refine se_aload_n (pc := 10) rfl dC_unlist_10 ?_
  refine se_iload_n (pc := 11) rfl dC_unlist_11 ?_
  refine se_invS (pc := 12) (as := [.ref (st_K 0 jk), .int (nI ji)]) (st := []) (vok sc) kC_checkListed dC_unlist_12 ⟨wd_289, wd_290, wd_1⟩ rfl (Nat.le_of_ble_eq_true rfl) (Nat.le_of_ble_eq_true rfl) (c_C_checkListed (by omega) hKjk hji) (C2 := 0) (S2 := 0) (by omega) (by omega) (fun v12 h12 _ q12 => ?_) (fun x hx => absurd hx List.not_mem_nil) (fun v12 h12 _ q12 => ?_)
  rotate_left
  · obtain ⟨rfl, ⟨q12, r12⟩ | ⟨q12, r12⟩⟩ := q12 <;> cases q12; exact cP_thr (S := S) 1 (by simp_all [sp_unlist, pk_us]) rfl
  obtain ⟨rfl, ⟨q12, r12⟩ | ⟨q12, r12⟩⟩ := q12 <;> cases q12
  refine se_aload_n (pc := 15) rfl dC_unlist_15 ?_
  refine se_getf (pc := 16) clK 0 dC_unlist_16 wd_30 rfl (by decide) hKjk.1 rfl ?_
  refine se_iload_n (pc := 19) rfl dC_unlist_19 ?_
  refine se_iconst (pc := 20) 0 (by decide) dC_unlist_20 ?_
  refine se_zastN (pc := 21) 1 dC_unlist_21 rfl hKjk.2.1 hji (by decide) (Or.inl rfl) ?_
  exact se_vret (pc := 22) dC_unlist_22 rfl (cP_ret (by simp_all [sp_unlist, pk_us]) (uK0 hC hjk) (fr_K hjk (by decide)))
set_option maxHeartbeats 4000000 in
set_option maxRecDepth 100000 in
theorem p_need {k t n : Int32} (hd : 7 ≤ d) (hC : is_C 0 β S h) (hI : st_I S) (hβ : ∀ v, v < st_nv S → 68 ≤ β v) : se_W (vG sc) l d mC_need 0 (se_ent 5 [.ref 0, .int k, .int t, .int n]) [] h 3 18 (cP β h ["java/lang/IllegalArgumentException", "java/lang/IndexOutOfBoundsException"] (sp_need S k t n)) := by
  obtain ⟨d, rfl⟩ : ∃ e, d = e + 1 := ⟨d - 1, by omega⟩
  show se_W (vG sc) l (d + 1) mC_need 0 [some (.ref 0), some (.int k), some (.int t), some (.int n), none] [] h 3 18 _
  refine se_aload_n (pc := 0) rfl dC_need_0 ?_
  refine se_iload_n (pc := 1) rfl dC_need_1 ?_
  refine se_invV (pc := 2) (as := [.int k]) (st := []) (vok sc) kC_knownKind dC_need_2 ⟨wd_92, wd_94, sl_0, wd_1⟩ rfl hC.1 rfl (Nat.le_of_ble_eq_true rfl) (Nat.le_of_ble_eq_true rfl) (x_knownKind (by omega) hC) (C2 := 2) (S2 := 12) (by omega) (by omega) (fun v2 h2 _ q2 => ?_) (fun x hx => absurd hx List.not_mem_nil) (fun v2 h2 _ q2 => ?_)
  rotate_left
  · obtain ⟨rfl, ⟨jk, xjk, hjk, rfl, q2⟩ | ⟨xN, q2⟩⟩ := q2 <;> cases q2; exact cP_thr (S := S) 0 (by simp_all [sp_need, pk_us]) rfl
  obtain ⟨rfl, ⟨jk, xjk, hjk, rfl, q2⟩ | ⟨xN, q2⟩⟩ := q2 <;> cases q2
  have hKjk := st_cK hC hjk
  refine se_astore (pc := 5) dC_need_5 (by decide) [some (.ref 0), some (.int (nI jk)), some (.int t), some (.int n), some (.ref (st_K 0 jk))] rfl ?_
  refine se_iload_n (pc := 7) rfl dC_need_7 ?_
  refine se_invS (pc := 8) (as := [.int t]) (st := []) (vok sc) kC_checkThing dC_need_8 ⟨wd_440, wd_441, wd_1⟩ rfl (Nat.le_of_ble_eq_true rfl) (Nat.le_of_ble_eq_true rfl) (x_checkThing (by omega)) (C2 := 1) (S2 := 6) (by omega) (by omega) (fun v8 h8 _ q8 => ?_) (fun x hx => absurd hx List.not_mem_nil) (fun v8 h8 _ q8 => ?_)
  rotate_left
  · obtain ⟨rfl, ⟨jt, xjt, hjt, rfl, q8⟩ | ⟨xN, q8⟩⟩ := q8 <;> cases q8; exact cP_thr (S := S) 0 (by simp_all [sp_need, pk_us]) rfl
  obtain ⟨rfl, ⟨jt, xjt, hjt, rfl, q8⟩ | ⟨xN, q8⟩⟩ := q8 <;> cases q8
  refine se_iload_n (pc := 11) rfl dC_need_11 ?_
  refine se_iconst (pc := 12) 0 (by decide) dC_need_12 ?_
  refine se_bipush (pc := 13) 9 (by decide) dC_need_13 ?_
  refine se_invS (pc := 15) (as := [.int n, .int 0, .int 9]) (st := []) (vok sc) kC_checkRange dC_need_15 ⟨wd_258, wd_259, wd_1⟩ rfl (Nat.le_of_ble_eq_true rfl) (Nat.le_of_ble_eq_true rfl) (x_checkRange (by omega)) (C2 := 0) (S2 := 0) (by omega) (by omega) (fun v15 h15 _ q15 => ?_) (fun x hx => absurd hx List.not_mem_nil) (fun v15 h15 _ q15 => ?_)
  rotate_left
  · obtain ⟨rfl, ⟨q15, r15⟩ | ⟨q15, r15⟩⟩ := q15 <;> cases q15; exact cP_thr (S := S) 1 (by simp_all [sp_need, pk_us]) rfl
  obtain ⟨rfl, ⟨q15, r15⟩ | ⟨q15, r15⟩⟩ := q15 <;> cases q15
  refine se_aload (pc := 18) rfl dC_need_18 ?_
  refine se_getf (pc := 20) clK 5 dC_need_20 wd_40 rfl (by decide) hKjk.1 rfl ?_
  refine se_iload_n (pc := 23) rfl dC_need_23 ?_
  refine se_iload_n (pc := 24) rfl dC_need_24 ?_
  refine se_iastN (pc := 25) 0 dC_need_25 rfl hKjk.2.2.2.2.2.2 hjt (by decide) ?_
  exact se_vret (pc := 26) dC_need_26 rfl (cP_ret (by simp_all [sp_need, pk_us]) (uK5 hC hjk) (fr_K hjk (by decide)))
set_option maxHeartbeats 4000000 in
set_option maxRecDepth 100000 in
theorem p_runs {v : Int32} (hd : 7 ≤ d) (hC : is_C 0 β S h) (hI : st_I S) (hβ : ∀ v, v < st_nv S → 68 ≤ β v) : se_W (vG sc) l d mC_runs 0 (se_ent 2 [.ref 0, .int v]) [] h 1 6 (cP β h ["java/lang/IllegalArgumentException"] (sp_runs S v)) := by
  obtain ⟨d, rfl⟩ : ∃ e, d = e + 1 := ⟨d - 1, by omega⟩
  show se_W (vG sc) l (d + 1) mC_runs 0 [some (.ref 0), some (.int v)] [] h 1 6 _
  refine se_aload_n (pc := 0) rfl dC_runs_0 ?_
  refine se_aload_n (pc := 1) rfl dC_runs_1 ?_
  refine se_iload_n (pc := 2) rfl dC_runs_2 ?_
  refine se_invV (pc := 3) (as := [.int v]) (st := [.ref 0]) (vok sc) kC_knownVehicle dC_runs_3 ⟨wd_315, wd_317, sl_2, wd_1⟩ rfl hC.1 rfl (Nat.le_of_ble_eq_true rfl) (Nat.le_of_ble_eq_true rfl) (x_knownVehicle (by omega) hC hI) (C2 := 0) (S2 := 0) (by omega) (by omega) (fun v3 h3 _ q3 => ?_) (fun x hx => absurd hx List.not_mem_nil) (fun v3 h3 _ q3 => ?_)
  rotate_left
  · obtain ⟨rfl, ⟨jv, xjv, hjv, rfl, q3⟩ | ⟨xN, q3⟩⟩ := q3 <;> cases q3; exact cP_thr (S := S) 0 (by simp_all [sp_runs, pk_us]) rfl
  obtain ⟨rfl, ⟨jv, xjv, hjv, rfl, q3⟩ | ⟨xN, q3⟩⟩ := q3 <;> cases q3
  have hVjv := st_cV hC hjv
  have hKjv := st_cK hC (hI.2.2.2.2 jv hjv)
  refine se_invV (pc := 6) (as := [.ref (β jv)]) (st := []) (vok sc) kC_canRun dC_runs_6 ⟨wd_362, wd_364, sl_3, wd_1⟩ rfl hC.1 rfl (Nat.le_of_ble_eq_true rfl) (Nat.le_of_ble_eq_true rfl) (c_C_canRun (by omega) hC hVjv hKjv hI.2.2.1 hI.2.2.2.1) (C2 := 0) (S2 := 0) (by omega) (by omega) (fun v6 h6 _ q6 => ?_) (fun x hx => absurd hx List.not_mem_nil) (fun v6 h6 _ q6 => ?_)
  rotate_left
  · cases q6.2
  obtain ⟨rfl, q6⟩ := q6
  cases q6
  exact se_zret (pc := 9) dC_runs_9 rfl (st_b01 _) (cP_ret (by simp_all [sp_runs, pk_us]) hC (fr_rf _))
set_option maxHeartbeats 4000000 in
set_option maxRecDepth 100000 in
theorem p_put {v t n : Int32} (hd : 7 ≤ d) (hC : is_C 0 β S h) (hI : st_I S) (hβ : ∀ v, v < st_nv S → 68 ≤ β v) : se_W (vG sc) l d mC_put 0 (se_ent 5 [.ref 0, .int v, .int t, .int n]) [] h 4 24 (cP β h ["java/lang/IllegalArgumentException", "java/lang/IndexOutOfBoundsException", "java/lang/UnsupportedOperationException"] (sp_put S v t n)) := by
  obtain ⟨d, rfl⟩ : ∃ e, d = e + 1 := ⟨d - 1, by omega⟩
  show se_W (vG sc) l (d + 1) mC_put 0 [some (.ref 0), some (.int v), some (.int t), some (.int n), none] [] h 4 24 _
  refine se_aload_n (pc := 0) rfl dC_put_0 ?_
  refine se_iload_n (pc := 1) rfl dC_put_1 ?_
  refine se_invV (pc := 2) (as := [.int v]) (st := []) (vok sc) kC_knownVehicle dC_put_2 ⟨wd_315, wd_317, sl_2, wd_1⟩ rfl hC.1 rfl (Nat.le_of_ble_eq_true rfl) (Nat.le_of_ble_eq_true rfl) (x_knownVehicle (by omega) hC hI) (C2 := 3) (S2 := 18) (by omega) (by omega) (fun v2 h2 _ q2 => ?_) (fun x hx => absurd hx List.not_mem_nil) (fun v2 h2 _ q2 => ?_)
  rotate_left
  · obtain ⟨rfl, ⟨jv, xjv, hjv, rfl, q2⟩ | ⟨xN, q2⟩⟩ := q2 <;> cases q2; exact cP_thr (S := S) 0 (by simp_all [sp_put, pk_us]) rfl
  obtain ⟨rfl, ⟨jv, xjv, hjv, rfl, q2⟩ | ⟨xN, q2⟩⟩ := q2 <;> cases q2
  have hVjv := st_cV hC hjv
  have hKjv := st_cK hC (hI.2.2.2.2 jv hjv)
  refine se_astore (pc := 5) dC_put_5 (by decide) [some (.ref 0), some (.int (nI jv)), some (.int t), some (.int n), some (.ref (β jv))] rfl ?_
  refine se_iload_n (pc := 7) rfl dC_put_7 ?_
  refine se_invS (pc := 8) (as := [.int t]) (st := []) (vok sc) kC_checkThing dC_put_8 ⟨wd_440, wd_441, wd_1⟩ rfl (Nat.le_of_ble_eq_true rfl) (Nat.le_of_ble_eq_true rfl) (x_checkThing (by omega)) (C2 := 2) (S2 := 12) (by omega) (by omega) (fun v8 h8 _ q8 => ?_) (fun x hx => absurd hx List.not_mem_nil) (fun v8 h8 _ q8 => ?_)
  rotate_left
  · obtain ⟨rfl, ⟨jt, xjt, hjt, rfl, q8⟩ | ⟨xN, q8⟩⟩ := q8 <;> cases q8; exact cP_thr (S := S) 0 (by simp_all [sp_put, pk_us]) rfl
  obtain ⟨rfl, ⟨jt, xjt, hjt, rfl, q8⟩ | ⟨xN, q8⟩⟩ := q8 <;> cases q8
  refine se_iload_n (pc := 11) rfl dC_put_11 ?_
  refine se_iconst (pc := 12) 1 (by decide) dC_put_12 ?_
  refine se_bipush (pc := 13) 9 (by decide) dC_put_13 ?_
  refine se_invS (pc := 15) (as := [.int n, .int 1, .int 9]) (st := []) (vok sc) kC_checkRange dC_put_15 ⟨wd_258, wd_259, wd_1⟩ rfl (Nat.le_of_ble_eq_true rfl) (Nat.le_of_ble_eq_true rfl) (x_checkRange (by omega)) (C2 := 1) (S2 := 6) (by omega) (by omega) (fun v15 h15 _ q15 => ?_) (fun x hx => absurd hx List.not_mem_nil) (fun v15 h15 _ q15 => ?_)
  rotate_left
  · obtain ⟨rfl, ⟨q15, r15⟩ | ⟨q15, r15⟩⟩ := q15 <;> cases q15; exact cP_thr (S := S) 1 (by simp_all [sp_put, pk_us]) rfl
  obtain ⟨rfl, ⟨q15, r15⟩ | ⟨q15, r15⟩⟩ := q15 <;> cases q15
  refine se_aload (pc := 18) rfl dC_put_18 ?_
  refine se_getf (pc := 20) clV 4 dC_put_20 wd_194 rfl (by decide) hVjv.1 rfl ?_
  refine se_iload_n (pc := 23) rfl dC_put_23 ?_
  refine se_ialdN (pc := 24) 0 dC_put_24 rfl hVjv.2.1 hjt (by decide) ?_
  refine se_iload_n (pc := 25) rfl dC_put_25 ?_
  refine se_bipush (pc := 26) 99 (by decide) dC_put_26 ?_
  refine se_invS (pc := 28) (as := [.int (S 6 jv jt), .int n, .int 99]) (st := []) (vok sc) kC_checkRoom dC_put_28 ⟨wd_451, wd_452, wd_1⟩ rfl (Nat.le_of_ble_eq_true rfl) (Nat.le_of_ble_eq_true rfl) (x_checkRoom (by omega)) (C2 := 0) (S2 := 0) (by omega) (by omega) (fun v28 h28 _ q28 => ?_) (fun x hx => absurd hx List.not_mem_nil) (fun v28 h28 _ q28 => ?_)
  rotate_left
  · obtain ⟨rfl, ⟨q28, r28⟩ | ⟨q28, r28⟩⟩ := q28 <;> cases q28; exact cP_thr (S := S) 2 (by simp_all [sp_put, pk_us]) rfl
  obtain ⟨rfl, ⟨q28, r28⟩ | ⟨q28, r28⟩⟩ := q28 <;> cases q28
  refine se_aload (pc := 31) rfl dC_put_31 ?_
  refine se_getf (pc := 33) clV 4 dC_put_33 wd_194 rfl (by decide) hVjv.1 rfl ?_
  refine se_iload_n (pc := 36) rfl dC_put_36 ?_
  refine se_dup2 (pc := 37) rfl rfl dC_put_37 ?_
  refine se_ialdN (pc := 38) 0 dC_put_38 rfl hVjv.2.1 hjt (by decide) ?_
  refine se_iload_n (pc := 39) rfl dC_put_39 ?_
  refine se_iadd (pc := 40) dC_put_40 ?_
  refine se_iastN (pc := 41) 0 dC_put_41 rfl hVjv.2.1 hjt (by decide) ?_
  refine se_aload (pc := 42) rfl dC_put_42 ?_
  refine se_getf (pc := 44) clV 4 dC_put_44 wd_194 rfl (by decide) (st_ne hVjv.1 (by omega)) rfl ?_
  refine se_iload_n (pc := 47) rfl dC_put_47 ?_
  refine se_ialdN (pc := 48) 0 dC_put_48 rfl (st_eq hVjv.2.1) hjt (by decide) ?_
  exact se_iret (pc := 49) dC_put_49 rfl (cP_ret (by simp_all [sp_put, pk_us]) (uV6 hC hjv) (fr_V hβ hjv))
end PUB
