/-- reasons; skipped items; how many run -/
def st_rF (S : st_S) (k v : Nat) (K : Int32 → Int32) : Nat → Nat → Int32 → Int32
  | 0, _, b => K b
  | n + 1, e, b => if st_fa S k v e then (if b = 0 then 10000 * S 3 k e + nI e else st_rF S k v K n (e + 1) (b + (-1))) else st_rF S k v K n (e + 1) b
def st_rK (S : st_S) (k v : Nat) (K : Int32 → Int32) : Nat → Nat → Int32 → Int32
  | 0, _, b => K b
  | n + 1, e, b => if st_sk S k v e (S 26 0 0) then (if b = 0 then 10000 * S 3 k e + 100 + nI e else st_rK S k v K n (e + 1) (b + (-1))) else st_rK S k v K n (e + 1) b
def st_re (S : st_S) (k v : Nat) (b : Int32) : Int32 := st_rF S k v (fun b => st_rK S k v (fun b => st_dr S v (st_nd S) 0 b) 10 0 b) 10 0 b
def st_si (S : st_S) (v : Nat) (K : Int32 → Int32) : Nat → Nat → Int32 → Int32
  | 0, _, b => K b
  | n + 1, e, b => if S 14 v 0 = 0 then (if st_sk S (st_kd S v) v e (S 26 0 0) then (if b = 0 then 10 * nI v + nI e else st_si S v K n (e + 1) (b + (-1))) else st_si S v K n (e + 1) b) else K b
def st_so (S : st_S) : Nat → Nat → Int32 → Int32
  | 0, _, _ => -1
  | n + 1, v, b => st_si S v (fun b => st_so S n (v + 1) b) 10 0 b
def st_tc (S : st_S) : Nat → Nat → Int32 → Int32
  | 0, _, c => c
  | n + 1, v, c => st_tc S n (v + 1) (if st_ru S (st_kd S v) v then c + 1 else c)
def sp_reason (S : st_S) (v i : Int32) : Nat × Option Value × st_S := match st_x (st_nv S) v with
  | some v' => if st_g0 i then (0, some (.int (st_re S (st_kd S v') v' i)), S) else (2, none, S)
  | none => (1, none, S)
def sp_skipped (S : st_S) (i : Int32) : Nat × Option Value × st_S := if st_g0 i then (0, some (.int (st_so S (st_nv S) 0 i)), S) else (1, none, S)
def sp_tick (S : st_S) (n : Int32) : Nat × Option Value × st_S := if st_in 1 5000 n && st_in 0 99999 (S 26 0 0 + n) then (0, some (.int (st_tc (st_up S 26 0 0 (S 26 0 0 + n)) (st_nv S) 0 0)), st_up S 26 0 0 (S 26 0 0 + n)) else (1, none, S)
theorem st_I_up {S : st_S} {t a b : Nat} {x : Int32} (h : st_I S) (h1 : 24 ≠ t) (h2 : 25 ≠ t) (h3 : 11 ≠ t) : st_I (st_up S t a b x) := by
  simp only [st_I, nv_up h1, nd_up h2, kd_up h3, up_ne h1, up_ne h2]
  exact h
section PUB
variable {sc : List (Nat × Nat × (Nat → Int32))} {l : Launch} {d : Nat} {h : se_H} {β : Nat → Nat} {S : st_S}
set_option maxHeartbeats 4000000 in
set_option maxRecDepth 100000 in
theorem lp_reason2 {v : Nat} {x1 x2 : Int32} (hd : 2 ≤ d) (hC : is_C 0 β S h) (hI : st_I S) (hv : v < st_nv S) : ∀ (n e : Nat) (y : Int32), e + n = 10 → se_W (vG sc) l (d + 1) mC_reason 67 [some (.ref 0), some (.int x1), some (.int x2), some (.ref (β v)), some (.int y), some (.int (nI e))] [] h 0 0 (fun u h' => h' = h ∧ u = .inl (some (.int (st_rK S (st_kd S v) v (fun b => st_dr S v (st_nd S) 0 b) n e y)))) := by
  intro n
  induction n with
  | zero =>
    intro e y he
    have hV := st_cV hC hv
    have hK := st_cK hC (hI.2.2.2.2 v hv)
    obtain rfl : e = 10 := by omega
    refine se_iload (pc := 67) rfl dC_reason_67 ?_
    refine se_bipush (pc := 69) 10 (by decide) dC_reason_69 ?_
    refine se_icmp_ge (pc := 71) (tgt := 122) dC_reason_71 (by decide) (fun q1 => ?_) (fun q1 => absurd q1 (fun z => z (Int32.le_refl _)))
    refine se_aload_n (pc := 122) rfl dC_reason_122 ?_
    refine se_aload_n (pc := 123) rfl dC_reason_123 ?_
    refine se_iload (pc := 124) rfl dC_reason_124 ?_
    refine se_invV (pc := 126) (as := [.ref (β v), .int y]) (st := []) (vok sc) kC_damageReason dC_reason_126 ⟨wd_403, wd_405, sl_6, wd_1⟩ rfl hC.1 rfl (Nat.le_of_ble_eq_true rfl) (Nat.le_of_ble_eq_true rfl) (c_C_damageReason (by omega) hC hV hI.2.2.1 hI.2.2.2.1) (C2 := 0) (S2 := 0) (by omega) (by omega) (fun v126 h126 _ q126 => ?_) (fun x hx => absurd hx List.not_mem_nil) (fun v126 h126 _ q126 => ?_)
    rotate_left
    · cases q126.2
    obtain ⟨rfl, q126⟩ := q126
    cases q126
    exact se_iret (pc := 129) dC_reason_129 rfl ⟨rfl, rfl⟩
  | succ n ih =>
    intro e y he
    have hV := st_cV hC hv
    have hK := st_cK hC (hI.2.2.2.2 v hv)
    have hj : e < 10 := by omega
    refine se_iload (pc := 67) rfl dC_reason_67 ?_
    refine se_bipush (pc := 69) 10 (by decide) dC_reason_69 ?_
    refine se_icmp_ge (pc := 71) (tgt := 122) dC_reason_71 (by decide) (fun q1 => absurd q1 (nI_ge (b := 10) hj (by decide))) (fun q1 => ?_)
    refine se_aload_n (pc := 74) rfl dC_reason_74 ?_
    refine se_iload (pc := 75) rfl dC_reason_75 ?_
    refine se_aload_n (pc := 77) rfl dC_reason_77 ?_
    refine se_getf (pc := 78) clC 7 dC_reason_78 wd_65 rfl (by decide) hC.1 rfl ?_
    refine se_invV (pc := 81) (as := [.int (nI e), .int (S 26 0 0)]) (st := []) (vok sc) kV_hasSkipped dC_reason_81 ⟨wd_349, wd_350, wd_351, wd_9⟩ rfl hV.1 rfl (Nat.le_of_ble_eq_true rfl) (Nat.le_of_ble_eq_true rfl) (c_V_hasSkipped hV hK hj) (C2 := 0) (S2 := 0) (by omega) (by omega) (fun v81 h81 _ q81 => ?_) (fun x hx => absurd hx List.not_mem_nil) (fun v81 h81 _ q81 => ?_)
    rotate_left
    · cases q81.2
    obtain ⟨rfl, q81⟩ := q81
    cases q81
    refine se_if_eq (pc := 84) (tgt := 116) dC_reason_84 (by decide) (fun q2 => ?_) (fun q2 => ?_)
    · refine se_iinc (pc := 116) 1 (by decide) rfl dC_reason_116 [some (.ref 0), some (.int x1), some (.int x2), some (.ref (β v)), some (.int y), some (.int (nI (e + 1)))] (by rw [nI_1]; rfl) ?_
      refine se_goto (pc := 119) (tgt := 67) dC_reason_119 (by decide) ?_
      have e9 : st_rK S (st_kd S v) v (fun b => st_dr S v (st_nd S) 0 b) (n + 1) e y = st_rK S (st_kd S v) v (fun b => st_dr S v (st_nd S) 0 b) n (e + 1) (y) := by clear ih hC hV hK; (try simp only [st_b0] at *); simp_all [st_rK]
      rw [e9]
      exact ih (e + 1) _ (by omega)
    · refine se_iload (pc := 87) rfl dC_reason_87 ?_
      refine se_if_ne (pc := 89) (tgt := 113) dC_reason_89 (by decide) (fun q3 => ?_) (fun q3 => ?_)
      · refine se_iinc (pc := 113) (-1) (by decide) rfl dC_reason_113 [some (.ref 0), some (.int x1), some (.int x2), some (.ref (β v)), some (.int (y + (-1))), some (.int (nI e))] rfl ?_
        refine se_iinc (pc := 116) 1 (by decide) rfl dC_reason_116 [some (.ref 0), some (.int x1), some (.int x2), some (.ref (β v)), some (.int (y + (-1))), some (.int (nI (e + 1)))] (by rw [nI_1]; rfl) ?_
        refine se_goto (pc := 119) (tgt := 67) dC_reason_119 (by decide) ?_
        have e9 : st_rK S (st_kd S v) v (fun b => st_dr S v (st_nd S) 0 b) (n + 1) e y = st_rK S (st_kd S v) v (fun b => st_dr S v (st_nd S) 0 b) n (e + 1) (y + (-1)) := by clear ih hC hV hK; (try simp only [st_b0] at *); simp_all [st_rK]
        rw [e9]
        exact ih (e + 1) _ (by omega)
      · refine se_sipush (pc := 92) 10000 (by decide) dC_reason_92 ?_
        refine se_aload_n (pc := 95) rfl dC_reason_95 ?_
        refine se_getf (pc := 96) clV 1 dC_reason_96 wd_189 rfl (by decide) hV.1 rfl ?_
        refine se_getf (pc := 99) clK 3 dC_reason_99 wd_35 rfl (by decide) hK.1 rfl ?_
        refine se_iload (pc := 102) rfl dC_reason_102 ?_
        refine se_ialdN (pc := 104) 0 dC_reason_104 rfl hK.2.2.2.2.1 hj (by decide) ?_
        refine se_imul (pc := 105) dC_reason_105 ?_
        refine se_bipush (pc := 106) 100 (by decide) dC_reason_106 ?_
        refine se_iadd (pc := 108) dC_reason_108 ?_
        refine se_iload (pc := 109) rfl dC_reason_109 ?_
        refine se_iadd (pc := 111) dC_reason_111 ?_
        exact se_iret (pc := 112) dC_reason_112 rfl ⟨rfl, by (try simp only [st_b0] at *); simp_all [st_rK]⟩
set_option maxHeartbeats 4000000 in
set_option maxRecDepth 100000 in
theorem lp_reason1 {v : Nat} {x1 x2 : Int32} (hd : 2 ≤ d) (hC : is_C 0 β S h) (hI : st_I S) (hv : v < st_nv S) : ∀ (n e : Nat) (y : Int32), e + n = 10 → se_W (vG sc) l (d + 1) mC_reason 16 [some (.ref 0), some (.int x1), some (.int x2), some (.ref (β v)), some (.int y), some (.int (nI e))] [] h 0 0 (fun u h' => h' = h ∧ u = .inl (some (.int (st_rF S (st_kd S v) v (fun b => st_rK S (st_kd S v) v (fun b => st_dr S v (st_nd S) 0 b) 10 0 b) n e y)))) := by
  intro n
  induction n with
  | zero =>
    intro e y he
    have hV := st_cV hC hv
    have hK := st_cK hC (hI.2.2.2.2 v hv)
    obtain rfl : e = 10 := by omega
    refine se_iload (pc := 16) rfl dC_reason_16 ?_
    refine se_bipush (pc := 18) 10 (by decide) dC_reason_18 ?_
    refine se_icmp_ge (pc := 20) (tgt := 64) dC_reason_20 (by decide) (fun q1 => ?_) (fun q1 => absurd q1 (fun z => z (Int32.le_refl _)))
    refine se_iconst (pc := 64) 0 (by decide) dC_reason_64 ?_
    refine se_istore (pc := 65) dC_reason_65 (by decide) [some (.ref 0), some (.int x1), some (.int x2), some (.ref (β v)), some (.int y), some (.int 0)] rfl ?_
    exact lp_reason2 hd hC hI hv 10 0 y rfl
  | succ n ih =>
    intro e y he
    have hV := st_cV hC hv
    have hK := st_cK hC (hI.2.2.2.2 v hv)
    have hj : e < 10 := by omega
    refine se_iload (pc := 16) rfl dC_reason_16 ?_
    refine se_bipush (pc := 18) 10 (by decide) dC_reason_18 ?_
    refine se_icmp_ge (pc := 20) (tgt := 64) dC_reason_20 (by decide) (fun q1 => absurd q1 (nI_ge (b := 10) hj (by decide))) (fun q1 => ?_)
    refine se_aload_n (pc := 23) rfl dC_reason_23 ?_
    refine se_iload (pc := 24) rfl dC_reason_24 ?_
    refine se_invV (pc := 26) (as := [.int (nI e)]) (st := []) (vok sc) kV_hasFailed dC_reason_26 ⟨wd_344, wd_345, wd_346, wd_9⟩ rfl hV.1 rfl (Nat.le_of_ble_eq_true rfl) (Nat.le_of_ble_eq_true rfl) (c_V_hasFailed (by omega) hV hK hj) (C2 := 0) (S2 := 0) (by omega) (by omega) (fun v26 h26 _ q26 => ?_) (fun x hx => absurd hx List.not_mem_nil) (fun v26 h26 _ q26 => ?_)
    rotate_left
    · cases q26.2
    obtain ⟨rfl, q26⟩ := q26
    cases q26
    refine se_if_eq (pc := 29) (tgt := 58) dC_reason_29 (by decide) (fun q2 => ?_) (fun q2 => ?_)
    · refine se_iinc (pc := 58) 1 (by decide) rfl dC_reason_58 [some (.ref 0), some (.int x1), some (.int x2), some (.ref (β v)), some (.int y), some (.int (nI (e + 1)))] (by rw [nI_1]; rfl) ?_
      refine se_goto (pc := 61) (tgt := 16) dC_reason_61 (by decide) ?_
      have e9 : st_rF S (st_kd S v) v (fun b => st_rK S (st_kd S v) v (fun b => st_dr S v (st_nd S) 0 b) 10 0 b) (n + 1) e y = st_rF S (st_kd S v) v (fun b => st_rK S (st_kd S v) v (fun b => st_dr S v (st_nd S) 0 b) 10 0 b) n (e + 1) (y) := by clear ih hC hV hK; (try simp only [st_b0] at *); simp_all [st_rF]
      rw [e9]
      exact ih (e + 1) _ (by omega)
    · refine se_iload (pc := 32) rfl dC_reason_32 ?_
      refine se_if_ne (pc := 34) (tgt := 55) dC_reason_34 (by decide) (fun q3 => ?_) (fun q3 => ?_)
      · refine se_iinc (pc := 55) (-1) (by decide) rfl dC_reason_55 [some (.ref 0), some (.int x1), some (.int x2), some (.ref (β v)), some (.int (y + (-1))), some (.int (nI e))] rfl ?_
        refine se_iinc (pc := 58) 1 (by decide) rfl dC_reason_58 [some (.ref 0), some (.int x1), some (.int x2), some (.ref (β v)), some (.int (y + (-1))), some (.int (nI (e + 1)))] (by rw [nI_1]; rfl) ?_
        refine se_goto (pc := 61) (tgt := 16) dC_reason_61 (by decide) ?_
        have e9 : st_rF S (st_kd S v) v (fun b => st_rK S (st_kd S v) v (fun b => st_dr S v (st_nd S) 0 b) 10 0 b) (n + 1) e y = st_rF S (st_kd S v) v (fun b => st_rK S (st_kd S v) v (fun b => st_dr S v (st_nd S) 0 b) 10 0 b) n (e + 1) (y + (-1)) := by clear ih hC hV hK; (try simp only [st_b0] at *); simp_all [st_rF]
        rw [e9]
        exact ih (e + 1) _ (by omega)
      · refine se_sipush (pc := 37) 10000 (by decide) dC_reason_37 ?_
        refine se_aload_n (pc := 40) rfl dC_reason_40 ?_
        refine se_getf (pc := 41) clV 1 dC_reason_41 wd_189 rfl (by decide) hV.1 rfl ?_
        refine se_getf (pc := 44) clK 3 dC_reason_44 wd_35 rfl (by decide) hK.1 rfl ?_
        refine se_iload (pc := 47) rfl dC_reason_47 ?_
        refine se_ialdN (pc := 49) 0 dC_reason_49 rfl hK.2.2.2.2.1 hj (by decide) ?_
        refine se_imul (pc := 50) dC_reason_50 ?_
        refine se_iload (pc := 51) rfl dC_reason_51 ?_
        refine se_iadd (pc := 53) dC_reason_53 ?_
        exact se_iret (pc := 54) dC_reason_54 rfl ⟨rfl, by (try simp only [st_b0] at *); simp_all [st_rF]⟩
set_option maxHeartbeats 4000000 in
set_option maxRecDepth 100000 in
theorem p_reason {v i : Int32} (hd : 7 ≤ d) (hC : is_C 0 β S h) (hI : st_I S) (hβ : ∀ v, v < st_nv S → 68 ≤ β v) : se_W (vG sc) l d mC_reason 0 (se_ent 6 [.ref 0, .int v, .int i]) [] h 2 12 (cP β h ["java/lang/IllegalArgumentException", "java/lang/IndexOutOfBoundsException"] (sp_reason S v i)) := by
  obtain ⟨d, rfl⟩ : ∃ e, d = e + 1 := ⟨d - 1, by omega⟩
  show se_W (vG sc) l (d + 1) mC_reason 0 [some (.ref 0), some (.int v), some (.int i), none, none, none] [] h 2 12 _
  refine se_aload_n (pc := 0) rfl dC_reason_0 ?_
  refine se_iload_n (pc := 1) rfl dC_reason_1 ?_
  refine se_invV (pc := 2) (as := [.int v]) (st := []) (vok sc) kC_knownVehicle dC_reason_2 ⟨wd_315, wd_317, sl_2, wd_1⟩ rfl hC.1 rfl (Nat.le_of_ble_eq_true rfl) (Nat.le_of_ble_eq_true rfl) (x_knownVehicle (by omega) hC hI) (C2 := 1) (S2 := 6) (by omega) (by omega) (fun v2 h2 _ q2 => ?_) (fun x hx => absurd hx List.not_mem_nil) (fun v2 h2 _ q2 => ?_)
  rotate_left
  · obtain ⟨rfl, ⟨jv, xjv, hjv, rfl, q2⟩ | ⟨xN, q2⟩⟩ := q2 <;> cases q2; exact cP_thr (S := S) 0 (by simp_all [sp_reason, pk_us]) rfl
  obtain ⟨rfl, ⟨jv, xjv, hjv, rfl, q2⟩ | ⟨xN, q2⟩⟩ := q2 <;> cases q2
  have hVjv := st_cV hC hjv
  have hKjv := st_cK hC (hI.2.2.2.2 jv hjv)
  refine se_astore_n (pc := 5) dC_reason_5 (by decide) [some (.ref 0), some (.int (nI jv)), some (.int i), some (.ref (β jv)), none, none] rfl ?_
  refine se_iload_n (pc := 6) rfl dC_reason_6 ?_
  refine se_invS (pc := 7) (as := [.int i]) (st := []) (vok sc) kC_checkPlace dC_reason_7 ⟨wd_399, wd_400, wd_1⟩ rfl (Nat.le_of_ble_eq_true rfl) (Nat.le_of_ble_eq_true rfl) (x_checkPlace (by omega)) (C2 := 0) (S2 := 0) (by omega) (by omega) (fun v7 h7 _ q7 => ?_) (fun x hx => absurd hx List.not_mem_nil) (fun v7 h7 _ q7 => ?_)
  rotate_left
  · obtain ⟨rfl, ⟨q7, r7⟩ | ⟨q7, r7⟩⟩ := q7 <;> cases q7; exact cP_thr (S := S) 1 (by simp_all [sp_reason, pk_us]) rfl
  obtain ⟨rfl, ⟨q7, r7⟩ | ⟨q7, r7⟩⟩ := q7 <;> cases q7
  refine se_iload_n (pc := 10) rfl dC_reason_10 ?_
  refine se_istore (pc := 11) dC_reason_11 (by decide) [some (.ref 0), some (.int (nI jv)), some (.int i), some (.ref (β jv)), some (.int i), none] rfl ?_
  refine se_iconst (pc := 13) 0 (by decide) dC_reason_13 ?_
  refine se_istore (pc := 14) dC_reason_14 (by decide) [some (.ref 0), some (.int (nI jv)), some (.int i), some (.ref (β jv)), some (.int i), some (.int 0)] rfl ?_
  exact se_mono (lp_reason1 (by omega) hC hI hjv 10 0 _ rfl) (Nat.le_refl _) (Nat.le_refl _) (fun u h9 q => by obtain ⟨rfl, rfl⟩ := q; exact cP_ret (by simp_all [sp_reason, st_re]) hC (fr_rf _))
set_option maxHeartbeats 4000000 in
set_option maxRecDepth 100000 in
theorem lp_skipped1 {v : Nat} {x1 : Int32} {K : Int32 → Int32} (hd : 2 ≤ d) (hC : is_C 0 β S h) (hI : st_I S) (hv : v < st_nv S) (hk : ∀ (y : Int32) (z : Option Value), se_W (vG sc) l (d + 1) mC_skipped 84 [some (.ref 0), some (.int x1), some (.int y), some (.int (nI v)), z] [] h 0 0 (fun u h' => h' = h ∧ u = .inl (some (.int (K y))))) : ∀ (n e : Nat) (y : Int32), e + n = 10 → se_W (vG sc) l (d + 1) mC_skipped 26 [some (.ref 0), some (.int x1), some (.int y), some (.int (nI v)), some (.int (nI e))] [] h 0 0 (fun u h' => h' = h ∧ u = .inl (some (.int (st_si S v K n e y)))) := by
  intro n
  induction n with
  | zero =>
    intro e y he
    have hV := st_cV hC hv
    have hK := st_cK hC (hI.2.2.2.2 v hv)
    have hv20 : v < 20 := by have := hI.2.1; omega
    obtain rfl : e = 10 := by omega
    refine se_iload (pc := 26) rfl dC_skipped_26 ?_
    refine se_bipush (pc := 28) 10 (by decide) dC_skipped_28 ?_
    refine se_icmp_ge (pc := 30) (tgt := 84) dC_skipped_30 (by decide) (fun q1 => ?_) (fun q1 => absurd q1 (fun z => z (Int32.le_refl _)))
    exact hk y _
  | succ n ih =>
    intro e y he
    have hV := st_cV hC hv
    have hK := st_cK hC (hI.2.2.2.2 v hv)
    have hv20 : v < 20 := by have := hI.2.1; omega
    have hj : e < 10 := by omega
    refine se_iload (pc := 26) rfl dC_skipped_26 ?_
    refine se_bipush (pc := 28) 10 (by decide) dC_skipped_28 ?_
    refine se_icmp_ge (pc := 30) (tgt := 84) dC_skipped_30 (by decide) (fun q1 => absurd q1 (nI_ge (b := 10) hj (by decide))) (fun q1 => ?_)
    refine se_aload_n (pc := 33) rfl dC_skipped_33 ?_
    refine se_getf (pc := 34) clC 1 dC_skipped_34 wd_59 rfl (by decide) hC.1 rfl ?_
    refine se_iload_n (pc := 37) rfl dC_skipped_37 ?_
    refine se_aaldN (pc := 38) 4 dC_skipped_38 rfl hC.2.2.1 hv20 (by decide) (some (β v)) (if_pos hv) ?_
    refine se_getf (pc := 39) clV 9 dC_skipped_39 wd_202 rfl (by decide) hV.1 rfl ?_
    refine se_if_ne (pc := 42) (tgt := 84) dC_skipped_42 (by decide) (fun q2 => ?_) (fun q2 => ?_)
    · have e9 : st_si S v K (n + 1) e y = K y := by clear ih hC hV hK hk; simp_all [st_si]
      rw [e9]
      exact hk y _
    · refine se_aload_n (pc := 45) rfl dC_skipped_45 ?_
      refine se_getf (pc := 46) clC 1 dC_skipped_46 wd_59 rfl (by decide) hC.1 rfl ?_
      refine se_iload_n (pc := 49) rfl dC_skipped_49 ?_
      refine se_aaldN (pc := 50) 4 dC_skipped_50 rfl hC.2.2.1 hv20 (by decide) (some (β v)) (if_pos hv) ?_
      refine se_iload (pc := 51) rfl dC_skipped_51 ?_
      refine se_aload_n (pc := 53) rfl dC_skipped_53 ?_
      refine se_getf (pc := 54) clC 7 dC_skipped_54 wd_65 rfl (by decide) hC.1 rfl ?_
      refine se_invV (pc := 57) (as := [.int (nI e), .int (S 26 0 0)]) (st := []) (vok sc) kV_hasSkipped dC_skipped_57 ⟨wd_349, wd_350, wd_351, wd_9⟩ rfl hV.1 rfl (Nat.le_of_ble_eq_true rfl) (Nat.le_of_ble_eq_true rfl) (c_V_hasSkipped hV hK hj) (C2 := 0) (S2 := 0) (by omega) (by omega) (fun v57 h57 _ q57 => ?_) (fun x hx => absurd hx List.not_mem_nil) (fun v57 h57 _ q57 => ?_)
      rotate_left
      · cases q57.2
      obtain ⟨rfl, q57⟩ := q57
      cases q57
      refine se_if_eq (pc := 60) (tgt := 78) dC_skipped_60 (by decide) (fun q3 => ?_) (fun q3 => ?_)
      · refine se_iinc (pc := 78) 1 (by decide) rfl dC_skipped_78 [some (.ref 0), some (.int x1), some (.int y), some (.int (nI v)), some (.int (nI (e + 1)))] (by rw [nI_1]; rfl) ?_
        refine se_goto (pc := 81) (tgt := 26) dC_skipped_81 (by decide) ?_
        have e9 : st_si S v K (n + 1) e y = st_si S v K n (e + 1) (y) := by clear ih hC hV hK hk; (try simp only [st_b0] at *); simp_all [st_si]
        rw [e9]
        exact ih (e + 1) _ (by omega)
      · refine se_iload_n (pc := 63) rfl dC_skipped_63 ?_
        refine se_if_ne (pc := 64) (tgt := 75) dC_skipped_64 (by decide) (fun q4 => ?_) (fun q4 => ?_)
        · refine se_iinc (pc := 75) (-1) (by decide) rfl dC_skipped_75 [some (.ref 0), some (.int x1), some (.int (y + (-1))), some (.int (nI v)), some (.int (nI e))] rfl ?_
          refine se_iinc (pc := 78) 1 (by decide) rfl dC_skipped_78 [some (.ref 0), some (.int x1), some (.int (y + (-1))), some (.int (nI v)), some (.int (nI (e + 1)))] (by rw [nI_1]; rfl) ?_
          refine se_goto (pc := 81) (tgt := 26) dC_skipped_81 (by decide) ?_
          have e9 : st_si S v K (n + 1) e y = st_si S v K n (e + 1) (y + (-1)) := by clear ih hC hV hK hk; (try simp only [st_b0] at *); simp_all [st_si]
          rw [e9]
          exact ih (e + 1) _ (by omega)
        · refine se_bipush (pc := 67) 10 (by decide) dC_skipped_67 ?_
          refine se_iload_n (pc := 69) rfl dC_skipped_69 ?_
          refine se_imul (pc := 70) dC_skipped_70 ?_
          refine se_iload (pc := 71) rfl dC_skipped_71 ?_
          refine se_iadd (pc := 73) dC_skipped_73 ?_
          exact se_iret (pc := 74) dC_skipped_74 rfl ⟨rfl, by clear ih hk hC hV hK; (try simp only [st_b0] at *); simp_all [st_si]⟩
set_option maxHeartbeats 4000000 in
set_option maxRecDepth 100000 in
theorem lp_skipped2 {x1 : Int32} (hd : 2 ≤ d) (hC : is_C 0 β S h) (hI : st_I S) : ∀ (n v : Nat) (y : Int32) (z : Option Value), v + n = st_nv S → se_W (vG sc) l (d + 1) mC_skipped 8 [some (.ref 0), some (.int x1), some (.int y), some (.int (nI v)), z] [] h 0 0 (fun u h' => h' = h ∧ u = .inl (some (.int (st_so S n v y)))) := by
  intro n
  induction n with
  | zero =>
    intro v y z hi
    obtain rfl : v = st_nv S := by omega
    by_cases h20 : st_nv S = 20
    · refine se_iload_n (pc := 8) rfl dC_skipped_8 ?_
      refine se_bipush (pc := 9) 20 (by decide) dC_skipped_9 ?_
      refine se_icmp_ge (pc := 11) (tgt := 90) dC_skipped_11 (by decide) (fun q1 => ?_) (fun q1 => absurd q1 (fun z => z (by rw [h20]; exact Int32.le_refl _)))
      refine se_iconst (pc := 90) (-1) (by decide) dC_skipped_90 ?_
      exact se_iret (pc := 91) dC_skipped_91 rfl ⟨rfl, rfl⟩
    · refine se_iload_n (pc := 8) rfl dC_skipped_8 ?_
      refine se_bipush (pc := 9) 20 (by decide) dC_skipped_9 ?_
      refine se_icmp_ge (pc := 11) (tgt := 90) dC_skipped_11 (by decide) (fun q1 => absurd q1 (nI_ge (b := 20) (by have := hI.2.1; omega) (by decide))) (fun q1 => ?_)
      refine se_aload_n (pc := 14) rfl dC_skipped_14 ?_
      refine se_getf (pc := 15) clC 1 dC_skipped_15 wd_59 rfl (by decide) hC.1 rfl ?_
      refine se_iload_n (pc := 18) rfl dC_skipped_18 ?_
      refine se_aaldN (pc := 19) 4 dC_skipped_19 rfl hC.2.2.1 (by have := hI.2.1; omega) (by decide) none (if_neg (Nat.lt_irrefl _)) ?_
      refine se_ifnullN (pc := 20) (tgt := 90) dC_skipped_20 (by decide) ?_
      refine se_iconst (pc := 90) (-1) (by decide) dC_skipped_90 ?_
      exact se_iret (pc := 91) dC_skipped_91 rfl ⟨rfl, rfl⟩
  | succ n ih =>
    intro v y z hi
    have hv : v < st_nv S := by omega
    have hV := st_cV hC hv
    have hK := st_cK hC (hI.2.2.2.2 v hv)
    have hv20 : v < 20 := by have := hI.2.1; omega
    refine se_iload_n (pc := 8) rfl dC_skipped_8 ?_
    refine se_bipush (pc := 9) 20 (by decide) dC_skipped_9 ?_
    refine se_icmp_ge (pc := 11) (tgt := 90) dC_skipped_11 (by decide) (fun q1 => absurd q1 (nI_ge (b := 20) hv20 (by decide))) (fun q1 => ?_)
    refine se_aload_n (pc := 14) rfl dC_skipped_14 ?_
    refine se_getf (pc := 15) clC 1 dC_skipped_15 wd_59 rfl (by decide) hC.1 rfl ?_
    refine se_iload_n (pc := 18) rfl dC_skipped_18 ?_
    refine se_aaldN (pc := 19) 4 dC_skipped_19 rfl hC.2.2.1 hv20 (by decide) (some (β v)) (if_pos hv) ?_
    refine se_ifnull (pc := 20) dC_skipped_20 ?_
    refine se_iconst (pc := 23) 0 (by decide) dC_skipped_23 ?_
    refine se_istore (pc := 24) dC_skipped_24 (by decide) [some (.ref 0), some (.int x1), some (.int y), some (.int (nI v)), some (.int 0)] rfl ?_
    refine lp_skipped1 (K := fun b => st_so S n (v + 1) b) hd hC hI hv (fun y z => ?_) 10 0 y rfl
    refine se_iinc (pc := 84) 1 (by decide) rfl dC_skipped_84 [some (.ref 0), some (.int x1), some (.int y), some (.int (nI (v + 1))), z] (by rw [nI_1]; rfl) ?_
    refine se_goto (pc := 87) (tgt := 8) dC_skipped_87 (by decide) ?_
    exact ih (v + 1) y _ (by omega)
set_option maxHeartbeats 4000000 in
set_option maxRecDepth 100000 in
theorem p_skipped {i : Int32} (hd : 7 ≤ d) (hC : is_C 0 β S h) (hI : st_I S) (hβ : ∀ v, v < st_nv S → 68 ≤ β v) : se_W (vG sc) l d mC_skipped 0 (se_ent 5 [.ref 0, .int i]) [] h 1 6 (cP β h ["java/lang/IndexOutOfBoundsException"] (sp_skipped S i)) := by
  obtain ⟨d, rfl⟩ : ∃ e, d = e + 1 := ⟨d - 1, by omega⟩
  show se_W (vG sc) l (d + 1) mC_skipped 0 [some (.ref 0), some (.int i), none, none, none] [] h 1 6 _
  refine se_iload_n (pc := 0) rfl dC_skipped_0 ?_
  refine se_invS (pc := 1) (as := [.int i]) (st := []) (vok sc) kC_checkPlace dC_skipped_1 ⟨wd_399, wd_400, wd_1⟩ rfl (Nat.le_of_ble_eq_true rfl) (Nat.le_of_ble_eq_true rfl) (x_checkPlace (by omega)) (C2 := 0) (S2 := 0) (by omega) (by omega) (fun v1 h1 _ q1 => ?_) (fun x hx => absurd hx List.not_mem_nil) (fun v1 h1 _ q1 => ?_)
  rotate_left
  · obtain ⟨rfl, ⟨q1, r1⟩ | ⟨q1, r1⟩⟩ := q1 <;> cases q1; exact cP_thr (S := S) 0 (by simp_all [sp_skipped, pk_us]) rfl
  obtain ⟨rfl, ⟨q1, r1⟩ | ⟨q1, r1⟩⟩ := q1 <;> cases q1
  refine se_iload_n (pc := 4) rfl dC_skipped_4 ?_
  refine se_istore_n (pc := 5) dC_skipped_5 (by decide) [some (.ref 0), some (.int i), some (.int i), none, none] rfl ?_
  refine se_iconst (pc := 6) 0 (by decide) dC_skipped_6 ?_
  refine se_istore_n (pc := 7) dC_skipped_7 (by decide) [some (.ref 0), some (.int i), some (.int i), some (.int 0), none] rfl ?_
  exact se_mono (lp_skipped2 (by omega) hC hI (st_nv S) 0 _ _ (by omega)) (Nat.le_refl _) (Nat.le_refl _) (fun u h9 q => by obtain ⟨rfl, rfl⟩ := q; exact cP_ret (by simp_all [sp_skipped]) hC (fr_rf _))
set_option maxHeartbeats 4000000 in
set_option maxRecDepth 100000 in
theorem lp_tick {x1 : Int32} (hd : 3 ≤ d) (hC : is_C 0 β S h) (hI : st_I S) : ∀ (n v : Nat) (y : Int32), v + n = st_nv S → se_W (vG sc) l (d + 1) mC_tick 34 [some (.ref 0), some (.int x1), some (.int y), some (.int (nI v))] [] h 0 0 (fun u h' => h' = h ∧ u = .inl (some (.int (st_tc S n v y)))) := by
  intro n
  induction n with
  | zero =>
    intro v y hi
    obtain rfl : v = st_nv S := by omega
    by_cases h20 : st_nv S = 20
    · refine se_iload_n (pc := 34) rfl dC_tick_34 ?_
      refine se_bipush (pc := 35) 20 (by decide) dC_tick_35 ?_
      refine se_icmp_ge (pc := 37) (tgt := 71) dC_tick_37 (by decide) (fun q1 => ?_) (fun q1 => absurd q1 (fun z => z (by rw [h20]; exact Int32.le_refl _)))
      refine se_iload_n (pc := 71) rfl dC_tick_71 ?_
      exact se_iret (pc := 72) dC_tick_72 rfl ⟨rfl, rfl⟩
    · refine se_iload_n (pc := 34) rfl dC_tick_34 ?_
      refine se_bipush (pc := 35) 20 (by decide) dC_tick_35 ?_
      refine se_icmp_ge (pc := 37) (tgt := 71) dC_tick_37 (by decide) (fun q1 => absurd q1 (nI_ge (b := 20) (by have := hI.2.1; omega) (by decide))) (fun q1 => ?_)
      refine se_aload_n (pc := 40) rfl dC_tick_40 ?_
      refine se_getf (pc := 41) clC 1 dC_tick_41 wd_59 rfl (by decide) hC.1 rfl ?_
      refine se_iload_n (pc := 44) rfl dC_tick_44 ?_
      refine se_aaldN (pc := 45) 4 dC_tick_45 rfl hC.2.2.1 (by have := hI.2.1; omega) (by decide) none (if_neg (Nat.lt_irrefl _)) ?_
      refine se_ifnullN (pc := 46) (tgt := 71) dC_tick_46 (by decide) ?_
      refine se_iload_n (pc := 71) rfl dC_tick_71 ?_
      exact se_iret (pc := 72) dC_tick_72 rfl ⟨rfl, rfl⟩
  | succ n ih =>
    intro v y hi
    have hv : v < st_nv S := by omega
    have hV := st_cV hC hv
    have hK := st_cK hC (hI.2.2.2.2 v hv)
    have hv20 : v < 20 := by have := hI.2.1; omega
    refine se_iload_n (pc := 34) rfl dC_tick_34 ?_
    refine se_bipush (pc := 35) 20 (by decide) dC_tick_35 ?_
    refine se_icmp_ge (pc := 37) (tgt := 71) dC_tick_37 (by decide) (fun q1 => absurd q1 (nI_ge (b := 20) hv20 (by decide))) (fun q1 => ?_)
    refine se_aload_n (pc := 40) rfl dC_tick_40 ?_
    refine se_getf (pc := 41) clC 1 dC_tick_41 wd_59 rfl (by decide) hC.1 rfl ?_
    refine se_iload_n (pc := 44) rfl dC_tick_44 ?_
    refine se_aaldN (pc := 45) 4 dC_tick_45 rfl hC.2.2.1 hv20 (by decide) (some (β v)) (if_pos hv) ?_
    refine se_ifnull (pc := 46) dC_tick_46 ?_
    refine se_aload_n (pc := 49) rfl dC_tick_49 ?_
    refine se_aload_n (pc := 50) rfl dC_tick_50 ?_
    refine se_getf (pc := 51) clC 1 dC_tick_51 wd_59 rfl (by decide) hC.1 rfl ?_
    refine se_iload_n (pc := 54) rfl dC_tick_54 ?_
    refine se_aaldN (pc := 55) 4 dC_tick_55 rfl hC.2.2.1 hv20 (by decide) (some (β v)) (if_pos hv) ?_
    refine se_invV (pc := 56) (as := [.ref (β v)]) (st := []) (vok sc) kC_canRun dC_tick_56 ⟨wd_362, wd_364, sl_3, wd_1⟩ rfl hC.1 rfl (Nat.le_of_ble_eq_true rfl) (Nat.le_of_ble_eq_true rfl) (c_C_canRun (by omega) hC hV hK hI.2.2.1 hI.2.2.2.1) (C2 := 0) (S2 := 0) (by omega) (by omega) (fun v56 h56 _ q56 => ?_) (fun x hx => absurd hx List.not_mem_nil) (fun v56 h56 _ q56 => ?_)
    rotate_left
    · cases q56.2
    obtain ⟨rfl, q56⟩ := q56
    cases q56
    refine se_if_eq (pc := 59) (tgt := 65) dC_tick_59 (by decide) (fun q2 => ?_) (fun q2 => ?_)
    · refine se_iinc (pc := 65) 1 (by decide) rfl dC_tick_65 [some (.ref 0), some (.int x1), some (.int y), some (.int (nI (v + 1)))] (by rw [nI_1]; rfl) ?_
      refine se_goto (pc := 68) (tgt := 34) dC_tick_68 (by decide) ?_
      have e9 : st_tc S (n + 1) v y = st_tc S n (v + 1) (y) := by clear ih hC hV hK; (try simp only [st_b0] at *); simp_all [st_tc]
      rw [e9]
      exact ih (v + 1) _ (by omega)
    · refine se_iinc (pc := 62) 1 (by decide) rfl dC_tick_62 [some (.ref 0), some (.int x1), some (.int (y + 1)), some (.int (nI v))] rfl ?_
      refine se_iinc (pc := 65) 1 (by decide) rfl dC_tick_65 [some (.ref 0), some (.int x1), some (.int (y + 1)), some (.int (nI (v + 1)))] (by rw [nI_1]; rfl) ?_
      refine se_goto (pc := 68) (tgt := 34) dC_tick_68 (by decide) ?_
      have e9 : st_tc S (n + 1) v y = st_tc S n (v + 1) (y + 1) := by clear ih hC hV hK; (try simp only [st_b0] at *); simp_all [st_tc]
      rw [e9]
      exact ih (v + 1) _ (by omega)
set_option maxHeartbeats 4000000 in
set_option maxRecDepth 100000 in
theorem p_tick {n : Int32} (hd : 7 ≤ d) (hC : is_C 0 β S h) (hI : st_I S) (hβ : ∀ v, v < st_nv S → 68 ≤ β v) : se_W (vG sc) l d mC_tick 0 (se_ent 4 [.ref 0, .int n]) [] h 2 12 (cP β h ["java/lang/IndexOutOfBoundsException"] (sp_tick S n)) := by
  obtain ⟨d, rfl⟩ : ∃ e, d = e + 1 := ⟨d - 1, by omega⟩
  show se_W (vG sc) l (d + 1) mC_tick 0 [some (.ref 0), some (.int n), none, none] [] h 2 12 _
  refine se_iload_n (pc := 0) rfl dC_tick_0 ?_
  refine se_iconst (pc := 1) 1 (by decide) dC_tick_1 ?_
  refine se_sipush (pc := 2) 5000 (by decide) dC_tick_2 ?_
  refine se_invS (pc := 5) (as := [.int n, .int 1, .int 5000]) (st := []) (vok sc) kC_checkRange dC_tick_5 ⟨wd_258, wd_259, wd_1⟩ rfl (Nat.le_of_ble_eq_true rfl) (Nat.le_of_ble_eq_true rfl) (x_checkRange (by omega)) (C2 := 1) (S2 := 6) (by omega) (by omega) (fun v5 h5 _ q5 => ?_) (fun x hx => absurd hx List.not_mem_nil) (fun v5 h5 _ q5 => ?_)
  rotate_left
  · obtain ⟨rfl, ⟨q5, r5⟩ | ⟨q5, r5⟩⟩ := q5 <;> cases q5; exact cP_thr (S := S) 0 (by simp_all [sp_tick, pk_us]) rfl
  obtain ⟨rfl, ⟨q5, r5⟩ | ⟨q5, r5⟩⟩ := q5 <;> cases q5
  refine se_aload_n (pc := 8) rfl dC_tick_8 ?_
  refine se_getf (pc := 9) clC 7 dC_tick_9 wd_65 rfl (by decide) hC.1 rfl ?_
  refine se_iload_n (pc := 12) rfl dC_tick_12 ?_
  refine se_iadd (pc := 13) dC_tick_13 ?_
  refine se_iconst (pc := 14) 0 (by decide) dC_tick_14 ?_
  refine se_ldc (pc := 15) 99999 dC_tick_15 wd_325 ?_
  refine se_invS (pc := 17) (as := [.int ((S 26 0 0) + n), .int 0, .int 99999]) (st := []) (vok sc) kC_checkRange dC_tick_17 ⟨wd_258, wd_259, wd_1⟩ rfl (Nat.le_of_ble_eq_true rfl) (Nat.le_of_ble_eq_true rfl) (x_checkRange (by omega)) (C2 := 0) (S2 := 0) (by omega) (by omega) (fun v17 h17 _ q17 => ?_) (fun x hx => absurd hx List.not_mem_nil) (fun v17 h17 _ q17 => ?_)
  rotate_left
  · obtain ⟨rfl, ⟨q17, r17⟩ | ⟨q17, r17⟩⟩ := q17 <;> cases q17; exact cP_thr (S := S) 0 (by simp_all [sp_tick, pk_us]) rfl
  obtain ⟨rfl, ⟨q17, r17⟩ | ⟨q17, r17⟩⟩ := q17 <;> cases q17
  refine se_aload_n (pc := 20) rfl dC_tick_20 ?_
  refine se_dup (pc := 21) rfl dC_tick_21 ?_
  refine se_getf (pc := 22) clC 7 dC_tick_22 wd_65 rfl (by decide) hC.1 rfl ?_
  refine se_iload_n (pc := 25) rfl dC_tick_25 ?_
  refine se_iadd (pc := 26) dC_tick_26 ?_
  refine se_putf (pc := 27) clC 7 dC_tick_27 wd_65 rfl (by decide) rfl (fun _ => ⟨rfl, rfl⟩) hC.1 (Nat.le_of_ble_eq_true rfl) ?_
  have hC2 := uD26 (x := S 26 0 0 + n) hC
  have hI2 := st_I_up (t := 26) (a := 0) (b := 0) (x := S 26 0 0 + n) hI (by decide) (by decide) (by decide)
  refine se_iconst (pc := 30) 0 (by decide) dC_tick_30 ?_
  refine se_istore_n (pc := 31) dC_tick_31 (by decide) [some (.ref 0), some (.int n), some (.int 0), none] rfl ?_
  refine se_iconst (pc := 32) 0 (by decide) dC_tick_32 ?_
  refine se_istore_n (pc := 33) dC_tick_33 (by decide) [some (.ref 0), some (.int n), some (.int 0), some (.int 0)] rfl ?_
  exact se_mono (lp_tick (by omega) hC2 hI2 (st_nv S) 0 _ (by rw [nv_up (by decide)]; omega)) (Nat.le_refl _) (Nat.le_refl _) (fun u h9 q => by obtain ⟨rfl, rfl⟩ := q; exact cP_ret (by simp_all [sp_tick]) hC2 (fr_set (Or.inl (by decide))))
end PUB
