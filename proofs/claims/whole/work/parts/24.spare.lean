section SPARE
variable {sc : List (Nat × Nat × (Nat → Int32))} {l : Launch} {d : Nat} {h : se_H} {o : Nat} {β : Nat → Nat} {S : st_S}
set_option maxHeartbeats 1000000 in
set_option maxRecDepth 100000 in
theorem c_C_isSpareFor {w v : Nat} (hd : 4 ≤ d) (hC : is_C o β S h) (hI : st_I S) (hw : w < st_nv S) (hv : v < st_nv S) : se_W (vG sc) l d mC_isSpareFor 0 (se_ent 3 [.ref o, .ref (β w), .ref (β v)]) [] h 0 0 (fun o h' => h' = h ∧ o = .inl (some (.int (st_b (st_sp S w v))))) := by
  obtain ⟨d, rfl⟩ : ∃ e, d = e + 1 := ⟨d - 1, by omega⟩
  show se_W (vG sc) l (d + 1) mC_isSpareFor 0 [some (.ref o), some (.ref (β w)), some (.ref (β v))] [] h 0 0 _
  have hW := st_cV hC hw
  have hV := st_cV hC hv
  have hKw := st_cK hC (hI.2.2.2.2 w hw)
  refine se_aload_n (pc := 0) rfl dC_isSpareFor_0 ?_
  refine se_getf (pc := 1) clV 0 dC_isSpareFor_1 wd_187 rfl (by decide) hW.1 rfl ?_
  refine se_aload_n (pc := 4) rfl dC_isSpareFor_4 ?_
  refine se_getf (pc := 5) clV 0 dC_isSpareFor_5 wd_187 rfl (by decide) hV.1 rfl ?_
  refine se_icmp_eq (pc := 8) (tgt := 41) dC_isSpareFor_8 (by decide) (fun q1 => ?_) (fun q1 => ?_)
  · refine se_iconst (pc := 41) 0 (by decide) dC_isSpareFor_41 ?_
    exact se_zret (pc := 42) dC_isSpareFor_42 rfl (by decide) ⟨rfl, by (try simp only [Option.some.injEq, st_K_inj, st_b0] at *); simp_all [st_b, st_sp]⟩
  · refine se_aload_n (pc := 11) rfl dC_isSpareFor_11 ?_
    refine se_getf (pc := 12) clV 1 dC_isSpareFor_12 wd_189 rfl (by decide) hW.1 rfl ?_
    refine se_aload_n (pc := 15) rfl dC_isSpareFor_15 ?_
    refine se_getf (pc := 16) clV 1 dC_isSpareFor_16 wd_189 rfl (by decide) hV.1 rfl ?_
    refine se_acmp_ne (pc := 19) (rx := (some (st_K o (st_kd S w)))) (ry := (some (st_K o (st_kd S v)))) (tgt := 41) dC_isSpareFor_19 (by decide) (fun q2 => ?_) (fun q2 => ?_)
    · refine se_iconst (pc := 41) 0 (by decide) dC_isSpareFor_41 ?_
      exact se_zret (pc := 42) dC_isSpareFor_42 rfl (by decide) ⟨rfl, by (try simp only [Option.some.injEq, st_K_inj, st_b0] at *); simp_all [st_b, st_sp]⟩
    · refine se_aload_n (pc := 22) rfl dC_isSpareFor_22 ?_
      refine se_getf (pc := 23) clV 2 dC_isSpareFor_23 wd_191 rfl (by decide) hW.1 rfl ?_
      refine se_if_eq (pc := 26) (tgt := 41) dC_isSpareFor_26 (by decide) (fun q3 => ?_) (fun q3 => ?_)
      · refine se_iconst (pc := 41) 0 (by decide) dC_isSpareFor_41 ?_
        exact se_zret (pc := 42) dC_isSpareFor_42 rfl (by decide) ⟨rfl, by (try simp only [Option.some.injEq, st_K_inj, st_b0] at *); simp_all [st_b, st_sp]⟩
      · refine se_aload_n (pc := 29) rfl dC_isSpareFor_29 ?_
        refine se_aload_n (pc := 30) rfl dC_isSpareFor_30 ?_
        refine se_invV (pc := 31) (as := [.ref (β w)]) (st := []) (vok sc) kC_canRun dC_isSpareFor_31 ⟨wd_362, wd_364, sl_3, wd_1⟩ rfl hC.1 rfl (Nat.le_of_ble_eq_true rfl) (Nat.le_of_ble_eq_true rfl) (c_C_canRun (by omega) hC hW hKw hI.2.2.1 hI.2.2.2.1) (C2 := 0) (S2 := 0) (by omega) (by omega) (fun v31 h31 _ q31 => ?_) (fun x hx => absurd hx List.not_mem_nil) (fun v31 h31 _ q31 => ?_)
        rotate_left
        · cases q31.2
        obtain ⟨rfl, q31⟩ := q31
        cases q31
        refine se_if_eq (pc := 34) (tgt := 41) dC_isSpareFor_34 (by decide) (fun q4 => ?_) (fun q4 => ?_)
        · refine se_iconst (pc := 41) 0 (by decide) dC_isSpareFor_41 ?_
          exact se_zret (pc := 42) dC_isSpareFor_42 rfl (by decide) ⟨rfl, by (try simp only [Option.some.injEq, st_K_inj, st_b0] at *); simp_all [st_b, st_sp]⟩
        · refine se_iconst (pc := 37) 1 (by decide) dC_isSpareFor_37 ?_
          refine se_goto (pc := 38) (tgt := 42) dC_isSpareFor_38 (by decide) ?_
          exact se_zret (pc := 42) dC_isSpareFor_42 rfl (by decide) ⟨rfl, by (try simp only [Option.some.injEq, st_K_inj, st_b0] at *); simp_all [st_b, st_sp]⟩
set_option maxHeartbeats 1000000 in
set_option maxRecDepth 100000 in
theorem lp_C_bestSpare {v : Nat} (hd : 4 ≤ d) (hC : is_C o β S h) (hI : st_I S) (hv : v < st_nv S) : ∀ (n i : Nat) (r : Option Nat) (z : Option Value), i + n = st_nv S → (∀ w, r = some w → w < st_nv S) → se_W (vG sc) l (d + 1) mC_bestSpare 4 [some (.ref o), some (.ref (β v)), some (va_rf (r.map β)), some (.int (nI i)), z] [] h 0 0 (fun u h' => h' = h ∧ u = .inl (some (va_rf ((st_bs S v n i r).map β)))) := by
  intro n
  induction n with
  | zero =>
    intro i r z hi hr
    obtain rfl : i = st_nv S := by omega
    cases r with
    | none =>
      by_cases h20 : st_nv S = 20
      · refine se_iload_n (pc := 4) rfl dC_bestSpare_4 ?_
        refine se_bipush (pc := 5) 20 (by decide) dC_bestSpare_5 ?_
        refine se_icmp_ge (pc := 7) (tgt := 62) dC_bestSpare_7 (by decide) (fun q1 => ?_) (fun q1 => absurd q1 (fun z => z (by rw [h20]; exact Int32.le_refl _)))
        refine se_aload_nN (pc := 62) rfl dC_bestSpare_62 ?_
        exact se_aret (pc := 63) (r := none) dC_bestSpare_63 rfl ⟨rfl, rfl⟩
      · refine se_iload_n (pc := 4) rfl dC_bestSpare_4 ?_
        refine se_bipush (pc := 5) 20 (by decide) dC_bestSpare_5 ?_
        refine se_icmp_ge (pc := 7) (tgt := 62) dC_bestSpare_7 (by decide) (fun q1 => absurd q1 (nI_ge (b := 20) (by have := hI.2.1; omega) (by decide))) (fun q1 => ?_)
        refine se_aload_n (pc := 10) rfl dC_bestSpare_10 ?_
        refine se_getf (pc := 11) clC 1 dC_bestSpare_11 wd_59 rfl (by decide) hC.1 rfl ?_
        refine se_iload_n (pc := 14) rfl dC_bestSpare_14 ?_
        refine se_aaldN (pc := 15) 4 dC_bestSpare_15 rfl hC.2.2.1 (by have := hI.2.1; omega) (by decide) none (if_neg (Nat.lt_irrefl _)) ?_
        refine se_ifnullN (pc := 16) (tgt := 62) dC_bestSpare_16 (by decide) ?_
        refine se_aload_nN (pc := 62) rfl dC_bestSpare_62 ?_
        exact se_aret (pc := 63) (r := none) dC_bestSpare_63 rfl ⟨rfl, rfl⟩
    | some w =>
      by_cases h20 : st_nv S = 20
      · refine se_iload_n (pc := 4) rfl dC_bestSpare_4 ?_
        refine se_bipush (pc := 5) 20 (by decide) dC_bestSpare_5 ?_
        refine se_icmp_ge (pc := 7) (tgt := 62) dC_bestSpare_7 (by decide) (fun q1 => ?_) (fun q1 => absurd q1 (fun z => z (by rw [h20]; exact Int32.le_refl _)))
        refine se_aload_n (pc := 62) rfl dC_bestSpare_62 ?_
        exact se_aret (pc := 63) (r := some (β w)) dC_bestSpare_63 rfl ⟨rfl, rfl⟩
      · refine se_iload_n (pc := 4) rfl dC_bestSpare_4 ?_
        refine se_bipush (pc := 5) 20 (by decide) dC_bestSpare_5 ?_
        refine se_icmp_ge (pc := 7) (tgt := 62) dC_bestSpare_7 (by decide) (fun q1 => absurd q1 (nI_ge (b := 20) (by have := hI.2.1; omega) (by decide))) (fun q1 => ?_)
        refine se_aload_n (pc := 10) rfl dC_bestSpare_10 ?_
        refine se_getf (pc := 11) clC 1 dC_bestSpare_11 wd_59 rfl (by decide) hC.1 rfl ?_
        refine se_iload_n (pc := 14) rfl dC_bestSpare_14 ?_
        refine se_aaldN (pc := 15) 4 dC_bestSpare_15 rfl hC.2.2.1 (by have := hI.2.1; omega) (by decide) none (if_neg (Nat.lt_irrefl _)) ?_
        refine se_ifnullN (pc := 16) (tgt := 62) dC_bestSpare_16 (by decide) ?_
        refine se_aload_n (pc := 62) rfl dC_bestSpare_62 ?_
        exact se_aret (pc := 63) (r := some (β w)) dC_bestSpare_63 rfl ⟨rfl, rfl⟩
  | succ n ih =>
    intro i r z hi hr
    have hi2 : i < st_nv S := by omega
    have hj : i < 20 := by have := hI.2.1; omega
    have hVi := st_cV hC hi2
    cases r with
    | none =>
      refine se_iload_n (pc := 4) rfl dC_bestSpare_4 ?_
      refine se_bipush (pc := 5) 20 (by decide) dC_bestSpare_5 ?_
      refine se_icmp_ge (pc := 7) (tgt := 62) dC_bestSpare_7 (by decide) (fun q1 => absurd q1 (nI_ge (b := 20) hj (by decide))) (fun q1 => ?_)
      refine se_aload_n (pc := 10) rfl dC_bestSpare_10 ?_
      refine se_getf (pc := 11) clC 1 dC_bestSpare_11 wd_59 rfl (by decide) hC.1 rfl ?_
      refine se_iload_n (pc := 14) rfl dC_bestSpare_14 ?_
      refine se_aaldN (pc := 15) 4 dC_bestSpare_15 rfl hC.2.2.1 hj (by decide) (some (β i)) (if_pos hi2) ?_
      refine se_ifnull (pc := 16) dC_bestSpare_16 ?_
      refine se_aload_n (pc := 19) rfl dC_bestSpare_19 ?_
      refine se_getf (pc := 20) clC 1 dC_bestSpare_20 wd_59 rfl (by decide) hC.1 rfl ?_
      refine se_iload_n (pc := 23) rfl dC_bestSpare_23 ?_
      refine se_aaldN (pc := 24) 4 dC_bestSpare_24 rfl hC.2.2.1 hj (by decide) (some (β i)) (if_pos hi2) ?_
      refine se_astore (pc := 25) dC_bestSpare_25 (by decide) [some (.ref o), some (.ref (β v)), some (.null), some (.int (nI i)), some (.ref (β i))] rfl ?_
      refine se_aload_n (pc := 27) rfl dC_bestSpare_27 ?_
      refine se_aload (pc := 28) rfl dC_bestSpare_28 ?_
      refine se_aload_n (pc := 30) rfl dC_bestSpare_30 ?_
      refine se_invV (pc := 31) (as := [.ref (β i), .ref (β v)]) (st := []) (vok sc) kC_isSpareFor dC_bestSpare_31 ⟨wd_475, wd_477, sl_8, wd_1⟩ rfl hC.1 rfl (Nat.le_of_ble_eq_true rfl) (Nat.le_of_ble_eq_true rfl) (c_C_isSpareFor (by omega) hC hI hi2 hv) (C2 := 0) (S2 := 0) (by omega) (by omega) (fun v31 h31 _ q31 => ?_) (fun x hx => absurd hx List.not_mem_nil) (fun v31 h31 _ q31 => ?_)
      rotate_left
      · cases q31.2
      obtain ⟨rfl, q31⟩ := q31
      cases q31
      refine se_if_eq (pc := 34) (tgt := 56) dC_bestSpare_34 (by decide) (fun q2 => ?_) (fun q2 => ?_)
      · refine se_iinc (pc := 56) 1 (by decide) rfl dC_bestSpare_56 [some (.ref o), some (.ref (β v)), some (.null), some (.int (nI (i + 1))), some (.ref (β i))] (by rw [nI_1]; rfl) ?_
        refine se_goto (pc := 59) (tgt := 4) dC_bestSpare_59 (by decide) ?_
        have e9 : st_bs S v (n + 1) i (none) = st_bs S v n (i + 1) none := by clear ih hC; (try simp only [st_b0, Int32.not_lt] at *); first | (simp_all [st_bs]; done) | (simp_all [st_bs]; rw [if_neg (by rw [Int32.not_lt]; assumption)])
        rw [e9]
        exact ih (i + 1) none _ (by omega) (fun w9 h9 => by cases h9 <;> first | exact hi2 | exact hr _ rfl)
      · refine se_aload_nN (pc := 37) rfl dC_bestSpare_37 ?_
        refine se_ifnullN (pc := 38) (tgt := 53) dC_bestSpare_38 (by decide) ?_
        refine se_aload (pc := 53) rfl dC_bestSpare_53 ?_
        refine se_astore_n (pc := 55) dC_bestSpare_55 (by decide) [some (.ref o), some (.ref (β v)), some (.ref (β i)), some (.int (nI i)), some (.ref (β i))] rfl ?_
        refine se_iinc (pc := 56) 1 (by decide) rfl dC_bestSpare_56 [some (.ref o), some (.ref (β v)), some (.ref (β i)), some (.int (nI (i + 1))), some (.ref (β i))] (by rw [nI_1]; rfl) ?_
        refine se_goto (pc := 59) (tgt := 4) dC_bestSpare_59 (by decide) ?_
        have e9 : st_bs S v (n + 1) i (none) = st_bs S v n (i + 1) (some i) := by clear ih hC; (try simp only [st_b0, Int32.not_lt] at *); first | (simp_all [st_bs]; done) | (simp_all [st_bs]; rw [if_neg (by rw [Int32.not_lt]; assumption)])
        rw [e9]
        exact ih (i + 1) (some i) _ (by omega) (fun w9 h9 => by cases h9 <;> first | exact hi2 | exact hr _ rfl)
    | some w =>
      have hW := st_cV hC (hr w rfl)
      refine se_iload_n (pc := 4) rfl dC_bestSpare_4 ?_
      refine se_bipush (pc := 5) 20 (by decide) dC_bestSpare_5 ?_
      refine se_icmp_ge (pc := 7) (tgt := 62) dC_bestSpare_7 (by decide) (fun q1 => absurd q1 (nI_ge (b := 20) hj (by decide))) (fun q1 => ?_)
      refine se_aload_n (pc := 10) rfl dC_bestSpare_10 ?_
      refine se_getf (pc := 11) clC 1 dC_bestSpare_11 wd_59 rfl (by decide) hC.1 rfl ?_
      refine se_iload_n (pc := 14) rfl dC_bestSpare_14 ?_
      refine se_aaldN (pc := 15) 4 dC_bestSpare_15 rfl hC.2.2.1 hj (by decide) (some (β i)) (if_pos hi2) ?_
      refine se_ifnull (pc := 16) dC_bestSpare_16 ?_
      refine se_aload_n (pc := 19) rfl dC_bestSpare_19 ?_
      refine se_getf (pc := 20) clC 1 dC_bestSpare_20 wd_59 rfl (by decide) hC.1 rfl ?_
      refine se_iload_n (pc := 23) rfl dC_bestSpare_23 ?_
      refine se_aaldN (pc := 24) 4 dC_bestSpare_24 rfl hC.2.2.1 hj (by decide) (some (β i)) (if_pos hi2) ?_
      refine se_astore (pc := 25) dC_bestSpare_25 (by decide) [some (.ref o), some (.ref (β v)), some (.ref (β w)), some (.int (nI i)), some (.ref (β i))] rfl ?_
      refine se_aload_n (pc := 27) rfl dC_bestSpare_27 ?_
      refine se_aload (pc := 28) rfl dC_bestSpare_28 ?_
      refine se_aload_n (pc := 30) rfl dC_bestSpare_30 ?_
      refine se_invV (pc := 31) (as := [.ref (β i), .ref (β v)]) (st := []) (vok sc) kC_isSpareFor dC_bestSpare_31 ⟨wd_475, wd_477, sl_8, wd_1⟩ rfl hC.1 rfl (Nat.le_of_ble_eq_true rfl) (Nat.le_of_ble_eq_true rfl) (c_C_isSpareFor (by omega) hC hI hi2 hv) (C2 := 0) (S2 := 0) (by omega) (by omega) (fun v31 h31 _ q31 => ?_) (fun x hx => absurd hx List.not_mem_nil) (fun v31 h31 _ q31 => ?_)
      rotate_left
      · cases q31.2
      obtain ⟨rfl, q31⟩ := q31
      cases q31
      refine se_if_eq (pc := 34) (tgt := 56) dC_bestSpare_34 (by decide) (fun q2 => ?_) (fun q2 => ?_)
      · refine se_iinc (pc := 56) 1 (by decide) rfl dC_bestSpare_56 [some (.ref o), some (.ref (β v)), some (.ref (β w)), some (.int (nI (i + 1))), some (.ref (β i))] (by rw [nI_1]; rfl) ?_
        refine se_goto (pc := 59) (tgt := 4) dC_bestSpare_59 (by decide) ?_
        have e9 : st_bs S v (n + 1) i (some w) = st_bs S v n (i + 1) (some w) := by clear ih hC; (try simp only [st_b0, Int32.not_lt] at *); first | (simp_all [st_bs]; done) | (simp_all [st_bs]; rw [if_neg (by rw [Int32.not_lt]; assumption)])
        rw [e9]
        exact ih (i + 1) (some w) _ (by omega) (fun w9 h9 => by cases h9 <;> first | exact hi2 | exact hr _ rfl)
      · refine se_aload_n (pc := 37) rfl dC_bestSpare_37 ?_
        refine se_ifnull (pc := 38) dC_bestSpare_38 ?_
        refine se_aload (pc := 41) rfl dC_bestSpare_41 ?_
        refine se_getf (pc := 43) clV 10 dC_bestSpare_43 wd_204 rfl (by decide) hVi.1 rfl ?_
        refine se_aload_n (pc := 46) rfl dC_bestSpare_46 ?_
        refine se_getf (pc := 47) clV 10 dC_bestSpare_47 wd_204 rfl (by decide) hW.1 rfl ?_
        refine se_icmp_ge (pc := 50) (tgt := 56) dC_bestSpare_50 (by decide) (fun q3 => ?_) (fun q3 => ?_)
        · refine se_iinc (pc := 56) 1 (by decide) rfl dC_bestSpare_56 [some (.ref o), some (.ref (β v)), some (.ref (β w)), some (.int (nI (i + 1))), some (.ref (β i))] (by rw [nI_1]; rfl) ?_
          refine se_goto (pc := 59) (tgt := 4) dC_bestSpare_59 (by decide) ?_
          have e9 : st_bs S v (n + 1) i (some w) = st_bs S v n (i + 1) (some w) := by clear ih hC; (try simp only [st_b0, Int32.not_lt] at *); first | (simp_all [st_bs]; done) | (simp_all [st_bs]; rw [if_neg (by rw [Int32.not_lt]; assumption)])
          rw [e9]
          exact ih (i + 1) (some w) _ (by omega) (fun w9 h9 => by cases h9 <;> first | exact hi2 | exact hr _ rfl)
        · refine se_aload (pc := 53) rfl dC_bestSpare_53 ?_
          refine se_astore_n (pc := 55) dC_bestSpare_55 (by decide) [some (.ref o), some (.ref (β v)), some (.ref (β i)), some (.int (nI i)), some (.ref (β i))] rfl ?_
          refine se_iinc (pc := 56) 1 (by decide) rfl dC_bestSpare_56 [some (.ref o), some (.ref (β v)), some (.ref (β i)), some (.int (nI (i + 1))), some (.ref (β i))] (by rw [nI_1]; rfl) ?_
          refine se_goto (pc := 59) (tgt := 4) dC_bestSpare_59 (by decide) ?_
          have e9 : st_bs S v (n + 1) i (some w) = st_bs S v n (i + 1) (some i) := by clear ih hC; (try simp only [st_b0, Int32.not_lt] at *); first | (simp_all [st_bs]; done) | (simp_all [st_bs]; rw [if_neg (by rw [Int32.not_lt]; assumption)])
          rw [e9]
          exact ih (i + 1) (some i) _ (by omega) (fun w9 h9 => by cases h9 <;> first | exact hi2 | exact hr _ rfl)
set_option maxHeartbeats 1000000 in
set_option maxRecDepth 100000 in
theorem c_C_bestSpare {v : Nat} (hd : 5 ≤ d) (hC : is_C o β S h) (hI : st_I S) (hv : v < st_nv S) : se_W (vG sc) l d mC_bestSpare 0 (se_ent 5 [.ref o, .ref (β v)]) [] h 0 0 (fun u h' => h' = h ∧ u = .inl (some (va_rf ((st_bs S v (st_nv S) 0 none).map β)))) := by
  obtain ⟨d, rfl⟩ : ∃ e, d = e + 1 := ⟨d - 1, by omega⟩
  show se_W (vG sc) l (d + 1) mC_bestSpare 0 [some (.ref o), some (.ref (β v)), none, none, none] [] h 0 0 _
  refine se_null (pc := 0) dC_bestSpare_0 ?_
  refine se_astore_nN (pc := 1) dC_bestSpare_1 (by decide) [some (.ref o), some (.ref (β v)), some (.null), none, none] rfl ?_
  refine se_iconst (pc := 2) 0 (by decide) dC_bestSpare_2 ?_
  refine se_istore_n (pc := 3) dC_bestSpare_3 (by decide) [some (.ref o), some (.ref (β v)), some (.null), some (.int 0), none] rfl ?_
  exact lp_C_bestSpare (by omega) hC hI hv (st_nv S) 0 none _ (by omega) (fun w h9 => by cases h9)
end SPARE
