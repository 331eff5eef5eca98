section RPUB
variable {sc : List (Nat × Nat × (Nat → Int32))} {l : Launch} {d : Nat} {h : se_H} {S : st_S} {t : Int32} {N : Nat}
def st_oi : Option Nat → Int32
  | none => -1
  | some w => nI w
set_option maxHeartbeats 1000000 in
set_option maxRecDepth 100000 in
theorem lp_R_spare1 {v : Nat} {R : Option Nat} {Φ : se_O → se_H → Prop} (hd : 7 ≤ d) (hR : is_R S t h) (hI : st_I S) (hQ : st_Q N S) (hN : N < 2 ^ 31) (hv : v < st_nv S) (hk : (∀ w, R = some w → w < st_nv S ∧ st_kd S w = st_kd S v) → se_W (vG sc) l d mR_spare 95 [some (.ref 41), some (.int (nI v)), some (.int (st_oi R)), some (.int (nI (st_nv S)))] [] h 0 0 Φ) : ∀ (n i : Nat) (r : Option Nat), i + n = st_nv S → (∀ w, r = some w → w < st_nv S ∧ st_kd S w = st_kd S v) → st_bs S v n i r = R → se_W (vG sc) l d mR_spare 20 [some (.ref 41), some (.int (nI v)), some (.int (st_oi r)), some (.int (nI i))] [] h 0 0 Φ := by
  obtain ⟨d, rfl⟩ : ∃ e, d = e + 1 := ⟨d - 1, by omega⟩
  have hO := hR.1
  rw [hI.1, hI.2.2.1] at hO
  have hn20 := hI.2.1
  have hd100 := hI.2.2.2.1
  intro n
  induction n with
  | zero =>
    intro i r hi hr hR0
    obtain rfl : i = st_nv S := by omega
    obtain rfl : r = R := hR0
    refine se_iload_n (pc := 20) rfl dR_spare_20 ?_
    refine se_aload_n (pc := 21) rfl dR_spare_21 ?_
    refine se_getf (pc := 22) clR 8 dR_spare_22 wd_561 rfl (by decide) hO rfl ?_
    refine se_icmp_ge (pc := 25) (tgt := 95) dR_spare_25 (by decide) (fun q1 => ?_) (fun q1 => absurd q1 (fun z => z (Int32.le_refl _)))
    exact hk hr
  | succ n ih =>
    intro i r hi hr hR0
    have hlt : i < st_nv S := by omega
    have hki := hI.2.2.2.2 _ hlt
    have hkv := hI.2.2.2.2 _ hv
    have ek : (nI (st_kd S i) = nI (st_kd S v)) ↔ st_kd S i = st_kd S v := nI_eq (by omega) (by omega)
    have eJi := q_kd hQ hlt
    have eJv := q_kd hQ hv
    cases r with
    | none =>
      show se_W (vG sc) l (d + 1) mR_spare 20 [some (.ref 41), some (.int (nI v)), some (.int (-1)), some (.int (nI i))] [] h 0 0 Φ
      refine se_iload_n (pc := 20) rfl dR_spare_20 ?_
      refine se_aload_n (pc := 21) rfl dR_spare_21 ?_
      refine se_getf (pc := 22) clR 8 dR_spare_22 wd_561 rfl (by decide) hO rfl ?_
      refine se_icmp_ge (pc := 25) (tgt := 95) dR_spare_25 (by decide) (fun q1 => absurd q1 (nI_ge hlt (by omega))) (fun q1 => ?_)
      refine se_iload_n (pc := 28) rfl dR_spare_28 ?_
      refine se_iload_n (pc := 29) rfl dR_spare_29 ?_
      refine se_icmp_eq (pc := 30) (tgt := 89) dR_spare_30 (by decide) (fun q2 => ?_) (fun q2 => ?_)
      · refine se_iinc (pc := 89) 1 (by decide) rfl dR_spare_89 [some (.ref 41), some (.int (nI v)), some (.int (-1)), some (.int (nI (i + 1)))] (by rw [nI_1]; rfl) ?_
        refine se_goto (pc := 92) (tgt := 20) dR_spare_92 (by decide) ?_
        have e9 : st_bs S v n (i + 1) none = R := by rw [← hR0, st_bs]; congr 1; clear ih hR hO hk hR0; (try simp only [st_b0] at *); first | (simp_all [st_sp]; done) | (simp_all [st_sp]; intro hz9; exact absurd hz9 (Int32.not_lt.mpr (by assumption)))
        exact ih (i + 1) none (by omega) (fun w hw => nomatch hw) e9
      · refine se_aload_n (pc := 33) rfl dR_spare_33 ?_
        refine se_getf (pc := 34) clR 9 dR_spare_34 wd_562 rfl (by decide) hO rfl ?_
        refine se_iload_n (pc := 37) rfl dR_spare_37 ?_
        refine se_ialdN (pc := 38) 0 dR_spare_38 rfl hR.2.2.2.2.2.2.2.1 (by omega) (by decide) ?_
        rw [rf_kd (by assumption)]
        refine se_aload_n (pc := 39) rfl dR_spare_39 ?_
        refine se_getf (pc := 40) clR 9 dR_spare_40 wd_562 rfl (by decide) hO rfl ?_
        refine se_iload_n (pc := 43) rfl dR_spare_43 ?_
        refine se_ialdN (pc := 44) 0 dR_spare_44 rfl hR.2.2.2.2.2.2.2.1 (by omega) (by decide) ?_
        rw [rf_kd (by assumption)]
        refine se_icmp_ne (pc := 45) (tgt := 89) dR_spare_45 (by decide) (fun q3 => ?_) (fun q3 => ?_)
        · refine se_iinc (pc := 89) 1 (by decide) rfl dR_spare_89 [some (.ref 41), some (.int (nI v)), some (.int (-1)), some (.int (nI (i + 1)))] (by rw [nI_1]; rfl) ?_
          refine se_goto (pc := 92) (tgt := 20) dR_spare_92 (by decide) ?_
          have e9 : st_bs S v n (i + 1) none = R := by rw [← hR0, st_bs]; congr 1; clear ih hR hO hk hR0; (try simp only [st_b0] at *); first | (simp_all [st_sp]; done) | (simp_all [st_sp]; intro hz9; exact absurd hz9 (Int32.not_lt.mpr (by assumption)))
          exact ih (i + 1) none (by omega) (fun w hw => nomatch hw) e9
        · refine se_aload_n (pc := 48) rfl dR_spare_48 ?_
          refine se_getf (pc := 49) clR 10 dR_spare_49 wd_563 rfl (by decide) hO rfl ?_
          refine se_iload_n (pc := 52) rfl dR_spare_52 ?_
          refine se_zaldN (pc := 53) 1 dR_spare_53 rfl hR.2.2.2.2.2.2.2.2.1 (by omega) (by decide) ?_
          rw [rf_v_at]
          refine se_if_eq (pc := 54) (tgt := 89) dR_spare_54 (by decide) (fun q4 => ?_) (fun q4 => ?_)
          · refine se_iinc (pc := 89) 1 (by decide) rfl dR_spare_89 [some (.ref 41), some (.int (nI v)), some (.int (-1)), some (.int (nI (i + 1)))] (by rw [nI_1]; rfl) ?_
            refine se_goto (pc := 92) (tgt := 20) dR_spare_92 (by decide) ?_
            have e9 : st_bs S v n (i + 1) none = R := by rw [← hR0, st_bs]; congr 1; clear ih hR hO hk hR0; (try simp only [st_b0] at *); first | (simp_all [st_sp]; done) | (simp_all [st_sp]; intro hz9; exact absurd hz9 (Int32.not_lt.mpr (by assumption)))
            exact ih (i + 1) none (by omega) (fun w hw => nomatch hw) e9
          · refine se_aload_n (pc := 57) rfl dR_spare_57 ?_
            refine se_iload_n (pc := 58) rfl dR_spare_58 ?_
            refine se_invV (pc := 59) (as := [.int (nI i)]) (st := []) (vok sc) kR_isRunning dR_spare_59 ⟨wd_715, wd_717, sl_17, wd_3⟩ rfl hO rfl (Nat.le_of_ble_eq_true rfl) (Nat.le_of_ble_eq_true rfl) (c_R_isRunning (by omega) hR (q_kd hQ hlt) (by omega) (hI.2.2.2.2 _ hlt) hQ hN hI) (C2 := 0) (S2 := 0) (by omega) (by omega) (fun v59 h59 _ q59 => ?_) (fun x hx => absurd hx List.not_mem_nil) (fun v59 h59 _ q59 => ?_)
            rotate_left
            · cases q59.2
            obtain ⟨rfl, q59⟩ := q59
            cases q59
            refine se_if_ne (pc := 62) (tgt := 68) dR_spare_62 (by decide) (fun q5 => ?_) (fun q5 => ?_)
            · refine se_iload_n (pc := 68) rfl dR_spare_68 ?_
              refine se_if_lt (pc := 69) (tgt := 87) dR_spare_69 (by decide) (fun q6 => ?_) (fun q6 => absurd q6 (by decide))
              refine se_iload_n (pc := 87) rfl dR_spare_87 ?_
              refine se_istore_n (pc := 88) dR_spare_88 (by decide) [some (.ref 41), some (.int (nI v)), some (.int (nI i)), some (.int (nI i))] rfl ?_
              refine se_iinc (pc := 89) 1 (by decide) rfl dR_spare_89 [some (.ref 41), some (.int (nI v)), some (.int (nI i)), some (.int (nI (i + 1)))] (by rw [nI_1]; rfl) ?_
              refine se_goto (pc := 92) (tgt := 20) dR_spare_92 (by decide) ?_
              have e9 : st_bs S v n (i + 1) (some i) = R := by rw [← hR0, st_bs]; congr 1; clear ih hR hO hk hR0; (try simp only [st_b0] at *); first | (simp_all [st_sp]; done) | (simp_all [st_sp]; intro hz9; exact absurd hz9 (Int32.not_lt.mpr (by assumption)))
              exact ih (i + 1) (some i) (by omega) (fun w hw => by cases hw; exact ⟨hlt, by clear ih hR hO hk hR0; simp_all⟩) e9
            · refine se_goto (pc := 65) (tgt := 89) dR_spare_65 (by decide) ?_
              refine se_iinc (pc := 89) 1 (by decide) rfl dR_spare_89 [some (.ref 41), some (.int (nI v)), some (.int (-1)), some (.int (nI (i + 1)))] (by rw [nI_1]; rfl) ?_
              refine se_goto (pc := 92) (tgt := 20) dR_spare_92 (by decide) ?_
              have e9 : st_bs S v n (i + 1) none = R := by rw [← hR0, st_bs]; congr 1; clear ih hR hO hk hR0; (try simp only [st_b0] at *); first | (simp_all [st_sp]; done) | (simp_all [st_sp]; intro hz9; exact absurd hz9 (Int32.not_lt.mpr (by assumption)))
              exact ih (i + 1) none (by omega) (fun w hw => nomatch hw) e9
    | some w =>
      have hw := (hr w rfl).1
      show se_W (vG sc) l (d + 1) mR_spare 20 [some (.ref 41), some (.int (nI v)), some (.int (nI w)), some (.int (nI i))] [] h 0 0 Φ
      refine se_iload_n (pc := 20) rfl dR_spare_20 ?_
      refine se_aload_n (pc := 21) rfl dR_spare_21 ?_
      refine se_getf (pc := 22) clR 8 dR_spare_22 wd_561 rfl (by decide) hO rfl ?_
      refine se_icmp_ge (pc := 25) (tgt := 95) dR_spare_25 (by decide) (fun q1 => absurd q1 (nI_ge hlt (by omega))) (fun q1 => ?_)
      refine se_iload_n (pc := 28) rfl dR_spare_28 ?_
      refine se_iload_n (pc := 29) rfl dR_spare_29 ?_
      refine se_icmp_eq (pc := 30) (tgt := 89) dR_spare_30 (by decide) (fun q2 => ?_) (fun q2 => ?_)
      · refine se_iinc (pc := 89) 1 (by decide) rfl dR_spare_89 [some (.ref 41), some (.int (nI v)), some (.int (nI w)), some (.int (nI (i + 1)))] (by rw [nI_1]; rfl) ?_
        refine se_goto (pc := 92) (tgt := 20) dR_spare_92 (by decide) ?_
        have e9 : st_bs S v n (i + 1) (some w) = R := by rw [← hR0, st_bs]; congr 1; clear ih hR hO hk hR0; (try simp only [st_b0] at *); first | (simp_all [st_sp]; done) | (simp_all [st_sp]; intro hz9; exact absurd hz9 (Int32.not_lt.mpr (by assumption)))
        exact ih (i + 1) (some w) (by omega) hr e9
      · refine se_aload_n (pc := 33) rfl dR_spare_33 ?_
        refine se_getf (pc := 34) clR 9 dR_spare_34 wd_562 rfl (by decide) hO rfl ?_
        refine se_iload_n (pc := 37) rfl dR_spare_37 ?_
        refine se_ialdN (pc := 38) 0 dR_spare_38 rfl hR.2.2.2.2.2.2.2.1 (by omega) (by decide) ?_
        rw [rf_kd (by assumption)]
        refine se_aload_n (pc := 39) rfl dR_spare_39 ?_
        refine se_getf (pc := 40) clR 9 dR_spare_40 wd_562 rfl (by decide) hO rfl ?_
        refine se_iload_n (pc := 43) rfl dR_spare_43 ?_
        refine se_ialdN (pc := 44) 0 dR_spare_44 rfl hR.2.2.2.2.2.2.2.1 (by omega) (by decide) ?_
        rw [rf_kd (by assumption)]
        refine se_icmp_ne (pc := 45) (tgt := 89) dR_spare_45 (by decide) (fun q3 => ?_) (fun q3 => ?_)
        · refine se_iinc (pc := 89) 1 (by decide) rfl dR_spare_89 [some (.ref 41), some (.int (nI v)), some (.int (nI w)), some (.int (nI (i + 1)))] (by rw [nI_1]; rfl) ?_
          refine se_goto (pc := 92) (tgt := 20) dR_spare_92 (by decide) ?_
          have e9 : st_bs S v n (i + 1) (some w) = R := by rw [← hR0, st_bs]; congr 1; clear ih hR hO hk hR0; (try simp only [st_b0] at *); first | (simp_all [st_sp]; done) | (simp_all [st_sp]; intro hz9; exact absurd hz9 (Int32.not_lt.mpr (by assumption)))
          exact ih (i + 1) (some w) (by omega) hr e9
        · refine se_aload_n (pc := 48) rfl dR_spare_48 ?_
          refine se_getf (pc := 49) clR 10 dR_spare_49 wd_563 rfl (by decide) hO rfl ?_
          refine se_iload_n (pc := 52) rfl dR_spare_52 ?_
          refine se_zaldN (pc := 53) 1 dR_spare_53 rfl hR.2.2.2.2.2.2.2.2.1 (by omega) (by decide) ?_
          rw [rf_v_at]
          refine se_if_eq (pc := 54) (tgt := 89) dR_spare_54 (by decide) (fun q4 => ?_) (fun q4 => ?_)
          · refine se_iinc (pc := 89) 1 (by decide) rfl dR_spare_89 [some (.ref 41), some (.int (nI v)), some (.int (nI w)), some (.int (nI (i + 1)))] (by rw [nI_1]; rfl) ?_
            refine se_goto (pc := 92) (tgt := 20) dR_spare_92 (by decide) ?_
            have e9 : st_bs S v n (i + 1) (some w) = R := by rw [← hR0, st_bs]; congr 1; clear ih hR hO hk hR0; (try simp only [st_b0] at *); first | (simp_all [st_sp]; done) | (simp_all [st_sp]; intro hz9; exact absurd hz9 (Int32.not_lt.mpr (by assumption)))
            exact ih (i + 1) (some w) (by omega) hr e9
          · refine se_aload_n (pc := 57) rfl dR_spare_57 ?_
            refine se_iload_n (pc := 58) rfl dR_spare_58 ?_
            refine se_invV (pc := 59) (as := [.int (nI i)]) (st := []) (vok sc) kR_isRunning dR_spare_59 ⟨wd_715, wd_717, sl_17, wd_3⟩ rfl hO rfl (Nat.le_of_ble_eq_true rfl) (Nat.le_of_ble_eq_true rfl) (c_R_isRunning (by omega) hR (q_kd hQ hlt) (by omega) (hI.2.2.2.2 _ hlt) hQ hN hI) (C2 := 0) (S2 := 0) (by omega) (by omega) (fun v59 h59 _ q59 => ?_) (fun x hx => absurd hx List.not_mem_nil) (fun v59 h59 _ q59 => ?_)
            rotate_left
            · cases q59.2
            obtain ⟨rfl, q59⟩ := q59
            cases q59
            refine se_if_ne (pc := 62) (tgt := 68) dR_spare_62 (by decide) (fun q5 => ?_) (fun q5 => ?_)
            · refine se_iload_n (pc := 68) rfl dR_spare_68 ?_
              refine se_if_lt (pc := 69) (tgt := 87) dR_spare_69 (by decide) (fun q6 => absurd q6 (nI_pos (by omega))) (fun q6 => ?_)
              refine se_aload_n (pc := 72) rfl dR_spare_72 ?_
              refine se_getf (pc := 73) clR 13 dR_spare_73 wd_566 rfl (by decide) hO rfl ?_
              refine se_iload_n (pc := 76) rfl dR_spare_76 ?_
              refine se_ialdN (pc := 77) 0 dR_spare_77 rfl hR.2.2.2.2.2.2.2.2.2.2.2.1 (by omega) (by decide) ?_
              rw [rf_v_at]
              refine se_aload_n (pc := 78) rfl dR_spare_78 ?_
              refine se_getf (pc := 79) clR 13 dR_spare_79 wd_566 rfl (by decide) hO rfl ?_
              refine se_iload_n (pc := 82) rfl dR_spare_82 ?_
              refine se_ialdN (pc := 83) 0 dR_spare_83 rfl hR.2.2.2.2.2.2.2.2.2.2.2.1 (by omega) (by decide) ?_
              rw [rf_v_at]
              refine se_icmp_ge (pc := 84) (tgt := 89) dR_spare_84 (by decide) (fun q7 => ?_) (fun q7 => ?_)
              · refine se_iinc (pc := 89) 1 (by decide) rfl dR_spare_89 [some (.ref 41), some (.int (nI v)), some (.int (nI w)), some (.int (nI (i + 1)))] (by rw [nI_1]; rfl) ?_
                refine se_goto (pc := 92) (tgt := 20) dR_spare_92 (by decide) ?_
                have e9 : st_bs S v n (i + 1) (some w) = R := by rw [← hR0, st_bs]; congr 1; clear ih hR hO hk hR0; (try simp only [st_b0] at *); first | (simp_all [st_sp]; done) | (simp_all [st_sp]; intro hz9; exact absurd hz9 (Int32.not_lt.mpr (by assumption)))
                exact ih (i + 1) (some w) (by omega) hr e9
              · refine se_iload_n (pc := 87) rfl dR_spare_87 ?_
                refine se_istore_n (pc := 88) dR_spare_88 (by decide) [some (.ref 41), some (.int (nI v)), some (.int (nI i)), some (.int (nI i))] rfl ?_
                refine se_iinc (pc := 89) 1 (by decide) rfl dR_spare_89 [some (.ref 41), some (.int (nI v)), some (.int (nI i)), some (.int (nI (i + 1)))] (by rw [nI_1]; rfl) ?_
                refine se_goto (pc := 92) (tgt := 20) dR_spare_92 (by decide) ?_
                have e9 : st_bs S v n (i + 1) (some i) = R := by rw [← hR0, st_bs]; congr 1; clear ih hR hO hk hR0; (try simp only [st_b0] at *); first | (simp_all [st_sp]; done) | (simp_all [st_sp]; intro hz9; exact absurd hz9 (Int32.not_lt.mpr (by assumption)))
                exact ih (i + 1) (some i) (by omega) (fun w hw => by cases hw; exact ⟨hlt, by clear ih hR hO hk hR0; simp_all⟩) e9
            · refine se_goto (pc := 65) (tgt := 89) dR_spare_65 (by decide) ?_
              refine se_iinc (pc := 89) 1 (by decide) rfl dR_spare_89 [some (.ref 41), some (.int (nI v)), some (.int (nI w)), some (.int (nI (i + 1)))] (by rw [nI_1]; rfl) ?_
              refine se_goto (pc := 92) (tgt := 20) dR_spare_92 (by decide) ?_
              have e9 : st_bs S v n (i + 1) (some w) = R := by rw [← hR0, st_bs]; congr 1; clear ih hR hO hk hR0; (try simp only [st_b0] at *); first | (simp_all [st_sp]; done) | (simp_all [st_sp]; intro hz9; exact absurd hz9 (Int32.not_lt.mpr (by assumption)))
              exact ih (i + 1) (some w) (by omega) hr e9
theorem nI_nm {a : Nat} (h : a < 2 ^ 31) : ¬ nI a = -1 := fun e => by
  have := congrArg Int32.toInt e
  rw [nI_toInt h, show (-1 : Int32).toInt = -1 from rfl] at this
  omega
set_option maxHeartbeats 1000000 in
set_option maxRecDepth 100000 in
theorem lp_R_spare2 {v w : Nat}  (hR : is_R S t h) (hI : st_I S) (hQ : st_Q N S) (hN : N < 2 ^ 31) (hv : v < st_nv S) (hw : w < st_nv S) (hkw : st_kd S w = st_kd S v) : ∀ (n i : Nat), i + n = 10 → se_W (vG sc) l d mR_spare 97 [some (.ref 41), some (.int (nI v)), some (.int (nI w)), some (.int (nI i))] [] h 0 0 (fun u h' => h' = h ∧ u = .inl (some (.int (if st_ll S (st_kd S w) w n i = -1 then nI w else -2 - st_ll S (st_kd S w) w n i)))) := by
  have hO := hR.1
  rw [hI.1, hI.2.2.1] at hO
  have hn20 := hI.2.1
  have hd100 := hI.2.2.2.1
  have hkv := hI.2.2.2.2 _ hv
  have eJv := q_kd hQ hv
  intro n
  induction n with
  | zero =>
    intro i hi
    obtain rfl : i = 10 := by omega
    refine se_iload_n (pc := 97) rfl dR_spare_97 ?_
    refine se_bipush (pc := 98) 10 (by decide) dR_spare_98 ?_
    refine se_icmp_ge (pc := 100) (tgt := 148) dR_spare_100 (by decide) (fun q1 => ?_) (fun q1 => absurd q1 (fun z => z (Int32.le_refl _)))
    refine se_iload_n (pc := 148) rfl dR_spare_148 ?_
    exact se_iret (pc := 149) dR_spare_149 rfl ⟨rfl, rfl⟩
  | succ n ih =>
    intro i hi
    have hj : i < 10 := by omega
    refine se_iload_n (pc := 97) rfl dR_spare_97 ?_
    refine se_bipush (pc := 98) 10 (by decide) dR_spare_98 ?_
    refine se_icmp_ge (pc := 100) (tgt := 148) dR_spare_100 (by decide) (fun q1 => absurd q1 (nI_ge (b := 10) hj (by decide))) (fun q1 => ?_)
    refine se_iload_n (pc := 103) rfl dR_spare_103 ?_
    refine se_if_lt (pc := 104) (tgt := 148) dR_spare_104 (by decide) (fun q2 => absurd q2 (nI_pos (by omega))) (fun q2 => ?_)
    refine se_aload_n (pc := 107) rfl dR_spare_107 ?_
    refine se_getf (pc := 108) clR 19 dR_spare_108 wd_572 rfl (by decide) hO rfl ?_
    refine se_bipush (pc := 111) 10 (by decide) dR_spare_111 ?_
    refine se_iload_n (pc := 113) rfl dR_spare_113 ?_
    refine se_imul (pc := 114) dR_spare_114 ?_
    refine se_iload_n (pc := 115) rfl dR_spare_115 ?_
    refine se_iadd (pc := 116) dR_spare_116 ?_
    rw [nx10]
    refine se_ialdN (pc := 117) 0 dR_spare_117 rfl hR.2.2.2.2.2.2.2.2.2.2.2.2.2.2.2.2.2.1 (by omega) (by decide) ?_
    rw [rf_l_at (by omega)]
    refine se_aload_n (pc := 118) rfl dR_spare_118 ?_
    refine se_getf (pc := 119) clR 7 dR_spare_119 wd_560 rfl (by decide) hO rfl ?_
    refine se_bipush (pc := 122) 10 (by decide) dR_spare_122 ?_
    refine se_aload_n (pc := 124) rfl dR_spare_124 ?_
    refine se_getf (pc := 125) clR 9 dR_spare_125 wd_562 rfl (by decide) hO rfl ?_
    refine se_iload_n (pc := 128) rfl dR_spare_128 ?_
    refine se_ialdN (pc := 129) 0 dR_spare_129 rfl hR.2.2.2.2.2.2.2.1 (by omega) (by decide) ?_
    rw [rf_kd (by assumption)]
    refine se_imul (pc := 130) dR_spare_130 ?_
    refine se_iload_n (pc := 131) rfl dR_spare_131 ?_
    refine se_iadd (pc := 132) dR_spare_132 ?_
    rw [nx10]
    refine se_ialdN (pc := 133) 0 dR_spare_133 rfl hR.2.2.2.2.2.2.1 (by omega) (by decide) ?_
    rw [rf_l_at (by omega)]
    refine se_icmp_ge (pc := 134) (tgt := 142) dR_spare_134 (by decide) (fun q3 => ?_) (fun q3 => ?_)
    · refine se_iinc (pc := 142) 1 (by decide) rfl dR_spare_142 [some (.ref 41), some (.int (nI v)), some (.int (nI w)), some (.int (nI (i + 1)))] (by rw [nI_1]; rfl) ?_
      refine se_goto (pc := 145) (tgt := 97) dR_spare_145 (by decide) ?_
      have e9 : st_ll S (st_kd S w) w (n + 1) i = st_ll S (st_kd S w) w n (i + 1) := by clear ih hR hO; rw [hkw, st_ll, if_neg (Int32.not_lt.mpr (by assumption))]
      rw [e9]
      exact ih (i + 1) (by omega)
    · refine se_bipush (pc := 137) (-2) (by decide) dR_spare_137 ?_
      refine se_iload_n (pc := 139) rfl dR_spare_139 ?_
      refine se_isub (pc := 140) dR_spare_140 ?_
      exact se_iret (pc := 141) dR_spare_141 rfl ⟨rfl, by clear ih hR hO; rw [hkw, st_ll, if_pos (Int32.not_le.mp (by assumption)), if_neg (nI_nm (by omega))]⟩
set_option maxHeartbeats 1000000 in
set_option maxRecDepth 100000 in
theorem r_spare {v : Int32} (hd : 9 ≤ d) (hR : is_R S t h) (hI : st_I S) (hQ : st_Q N S) (hN : N < 2 ^ 31) : se_W (vG sc) l d mR_spare 0 (se_ent 4 [.ref 41, .int v]) [] h 0 0 (rPi h (sp_spare S v)) := by
  obtain ⟨d, rfl⟩ : ∃ e, d = e + 1 := ⟨d - 1, by omega⟩
  show se_W (vG sc) l (d + 1) mR_spare 0 [some (.ref 41), some (.int v), none, none] [] h 0 0 _
  have hn20 := hI.2.1
  have hd100 := hI.2.2.2.1
  have hO := hR.1
  rw [hI.1, hI.2.2.1] at hO
  refine se_aload_n (pc := 0) rfl dR_spare_0 ?_
  refine se_aload_n (pc := 1) rfl dR_spare_1 ?_
  refine se_iload_n (pc := 2) rfl dR_spare_2 ?_
  refine se_invV (pc := 3) (as := [.int v]) (st := [.ref 41]) (vok sc) kR_isVehicle dR_spare_3 ⟨wd_674, wd_676, sl_11, wd_3⟩ rfl hO rfl (Nat.le_of_ble_eq_true rfl) (Nat.le_of_ble_eq_true rfl) (x_R_isVehicle (by omega) hR hI) (C2 := 0) (S2 := 0) (by omega) (by omega) (fun v3 h3 _ q3 => ?_) (fun x hx => absurd hx List.not_mem_nil) (fun v3 h3 _ q3 => ?_)
  rotate_left
  · rcases q3.2 with ⟨_, _, _, _, e⟩ | ⟨_, e⟩ <;> cases e
  obtain ⟨h3e, q3⟩ := q3
  have h3f := h3e.symm
  subst h3f
  rcases q3 with ⟨jv, hxv, hjv, rfl, q3⟩ | ⟨hxv, q3⟩
  · cases q3
    refine se_iconst (pc := 6) 1 (by decide) dR_spare_6 ?_
    refine se_iconst (pc := 7) 1 (by decide) dR_spare_7 ?_
    refine se_invV (pc := 8) (as := [.int 1, .int 1, .int 1]) (st := []) (vok sc) kR_goes dR_spare_8 ⟨wd_655, wd_657, sl_10, wd_3⟩ rfl hO rfl (Nat.le_of_ble_eq_true rfl) (Nat.le_of_ble_eq_true rfl) (g_goes (r := 1) 0 hR (by decide) (by decide)) (C2 := 0) (S2 := 0) (by omega) (by omega) (fun v8 h8 _ q8 => ?_) (fun x hx => absurd hx List.not_mem_nil) (fun v8 h8 _ q8 => ?_)
    rotate_left
    · cases q8.2.2
    obtain ⟨hR9, hf9, q8⟩ := q8
    cases q8
    have hO9 := hR9.1
    rw [hI.1, hI.2.2.1] at hO9
    refine se_if_ne (pc := 11) (tgt := 16) dR_spare_11 (by decide) (fun q1 => ?_) (fun q1 => absurd q1 (by decide))
    refine se_iconst (pc := 16) (-1) (by decide) dR_spare_16 ?_
    refine se_istore_n (pc := 17) dR_spare_17 (by decide) [some (.ref 41), some (.int (nI jv)), some (.int (-1)), none] rfl ?_
    refine se_iconst (pc := 18) 0 (by decide) dR_spare_18 ?_
    refine se_istore_n (pc := 19) dR_spare_19 (by decide) [some (.ref 41), some (.int (nI jv)), some (.int (-1)), some (.int 0)] rfl ?_
    refine lp_R_spare1 (R := st_bs S jv (st_nv S) 0 none) (by omega) hR9 hI hQ hN hjv (fun hr9 => ?_) (st_nv S) 0 none (by omega) (fun w hw => nomatch hw) rfl
    cases hb9 : st_bs S jv (st_nv S) 0 none with
    | none =>
      show se_W (vG sc) l (d + 1) mR_spare 95 [some (.ref 41), some (.int (nI jv)), some (.int (-1)), some (.int (nI (st_nv S)))] [] _ 0 0 _
      refine se_iconst (pc := 95) 0 (by decide) dR_spare_95 ?_
      refine se_istore_n (pc := 96) dR_spare_96 (by decide) [some (.ref 41), some (.int (nI jv)), some (.int (-1)), some (.int 0)] rfl ?_
      refine se_iload_n (pc := 97) rfl dR_spare_97 ?_
      refine se_bipush (pc := 98) 10 (by decide) dR_spare_98 ?_
      refine se_icmp_ge (pc := 100) (tgt := 148) dR_spare_100 (by decide) (fun q1 => absurd q1 (by decide)) (fun q1 => ?_)
      refine se_iload_n (pc := 103) rfl dR_spare_103 ?_
      refine se_if_lt (pc := 104) (tgt := 148) dR_spare_104 (by decide) (fun q2 => ?_) (fun q2 => absurd q2 (by decide))
      refine se_iload_n (pc := 148) rfl dR_spare_148 ?_
      exact se_iret (pc := 149) dR_spare_149 rfl (rPi_ok (by clear hR hO hR9 hO9 hf9; simp_all [sp_spare]) hR9 hf9)
    | some w9 =>
      have hw9 := hr9 w9 hb9
      show se_W (vG sc) l (d + 1) mR_spare 95 [some (.ref 41), some (.int (nI jv)), some (.int (nI w9)), some (.int (nI (st_nv S)))] [] _ 0 0 _
      refine se_iconst (pc := 95) 0 (by decide) dR_spare_95 ?_
      refine se_istore_n (pc := 96) dR_spare_96 (by decide) [some (.ref 41), some (.int (nI jv)), some (.int (nI w9)), some (.int 0)] rfl ?_
      exact se_mono (lp_R_spare2 hR9 hI hQ hN hjv hw9.1 hw9.2 10 0 rfl) (Nat.le_refl _) (Nat.le_refl _) (fun u h9 q => by obtain ⟨q1, rfl⟩ := q; subst q1; exact rPi_ok (S' := S) (by clear hR hO hR9 hO9 hf9; by_cases hl9 : st_ll S (st_kd S w9) w9 10 0 = -1 <;> simp_all [sp_spare]) hR9 hf9)
  · cases q3
    refine se_iconst (pc := 6) 1 (by decide) dR_spare_6 ?_
    refine se_iconst (pc := 7) 1 (by decide) dR_spare_7 ?_
    refine se_invV (pc := 8) (as := [.int 0, .int 1, .int 1]) (st := []) (vok sc) kR_goes dR_spare_8 ⟨wd_655, wd_657, sl_10, wd_3⟩ rfl hO rfl (Nat.le_of_ble_eq_true rfl) (Nat.le_of_ble_eq_true rfl) (g_goes (r := 0) 1 hR (by decide) (by decide)) (C2 := 0) (S2 := 0) (by omega) (by omega) (fun v8 h8 _ q8 => ?_) (fun x hx => absurd hx List.not_mem_nil) (fun v8 h8 _ q8 => ?_)
    rotate_left
    · cases q8.2.2
    obtain ⟨hR9, hf9, q8⟩ := q8
    cases q8
    have hO9 := hR9.1
    rw [hI.1, hI.2.2.1] at hO9
    refine se_if_ne (pc := 11) (tgt := 16) dR_spare_11 (by decide) (fun q2 => absurd q2 (by decide)) (fun q2 => ?_)
    refine se_iconst (pc := 14) 0 (by decide) dR_spare_14 ?_
    exact se_iret (pc := 15) dR_spare_15 rfl (rPi_no 0 (by clear hR hO hR9 hO9 hf9; simp_all [sp_spare]) hR9 hf9)
theorem st_lcle {y : Nat} (hy : y < 2 ^ 62) : lg_cmp (lN y) 0 ≤ 0 ↔ y = 0 := by
  by_cases h : y = 0
  · subst h; exact ⟨fun _ => rfl, fun _ => by decide⟩
  · have h1 : lN 0 < lN y := (pk_lLT (by omega) (by omega)).mpr (by omega)
    have e : lg_cmp (lN y) 0 = 1 := by
      rw [show (0 : Int64) = lN 0 from rfl]
      have h2 : ¬ lN y < lN 0 := fun q => absurd ((pk_lLT (by omega) (by omega)).mp q) (by omega)
      have h3 : ¬ lN y = lN 0 := fun q => h ((pk_lEQ (by omega) (by omega)).mp q)
      simp [lg_cmp, h1, h2, h3]
    rw [e]
    exact ⟨fun q => absurd q (by decide), fun q => absurd q h⟩
set_option maxHeartbeats 1000000 in
set_option maxRecDepth 100000 in
theorem lp_R_using {v w u : Int32} {A B : Int64} {G : Nat} {Φ : se_O → se_H → Prop} (hk : ∀ z : Option Value, se_W (vG sc) l d mR_using 107 [some (.ref 41), some (.int v), some (.int w), some (.int u), some (.long A), none, some (.long B), none, some (.long (lN G)), none, some (.long (lN 0)), none, z, none] [] h 0 0 Φ) : ∀ (n x y : Nat) (z : Option Value), y ≤ n → x < 2 ^ 62 → y < 2 ^ 62 → Nat.gcd x y = G → se_W (vG sc) l d mR_using 82 [some (.ref 41), some (.int v), some (.int w), some (.int u), some (.long A), none, some (.long B), none, some (.long (lN x)), none, some (.long (lN y)), none, z, none] [] h 0 0 Φ := by
  intro n
  induction n with
  | zero =>
    intro x y z hn hx hy hG
    obtain rfl : y = 0 := by omega
    rw [Nat.gcd_zero_right] at hG
    subst hG
    refine se_lload (pc := 82) rfl dR_using_82 ?_
    refine se_lconst (pc := 84) 0 (by decide) dR_using_84 ?_
    refine se_lcmp (pc := 85) dR_using_85 ?_
    refine se_if_le (pc := 86) (tgt := 107) dR_using_86 (by decide) (fun q1 => ?_) (fun q1 => absurd q1 (fun z => z ((st_lcle hy).mpr rfl)))
    exact hk z
  | succ n ih =>
    intro x y z hn hx hy hG
    by_cases h0 : y = 0
    · subst h0
      rw [Nat.gcd_zero_right] at hG
      subst hG
      refine se_lload (pc := 82) rfl dR_using_82 ?_
      refine se_lconst (pc := 84) 0 (by decide) dR_using_84 ?_
      refine se_lcmp (pc := 85) dR_using_85 ?_
      refine se_if_le (pc := 86) (tgt := 107) dR_using_86 (by decide) (fun q1 => ?_) (fun q1 => absurd q1 (fun z => z ((st_lcle hy).mpr rfl)))
      exact hk z
    · refine se_lload (pc := 82) rfl dR_using_82 ?_
      refine se_lconst (pc := 84) 0 (by decide) dR_using_84 ?_
      refine se_lcmp (pc := 85) dR_using_85 ?_
      refine se_if_le (pc := 86) (tgt := 107) dR_using_86 (by decide) (fun q1 => absurd q1 (fun z => h0 ((st_lcle hy).mp z))) (fun q1 => ?_)
      refine se_lload (pc := 89) rfl dR_using_89 ?_
      refine se_lload (pc := 91) rfl dR_using_91 ?_
      refine se_lrem (pc := 93) (fun z => h0 ((pk_lEQ (b := 0) (by omega) (by decide)).mp z)) dR_using_93 ?_
      rw [pk_lRem (by omega) (by omega) (by omega)]
      refine se_lstore (pc := 94) dR_using_94 (by decide) [some (.ref 41), some (.int v), some (.int w), some (.int u), some (.long A), none, some (.long B), none, some (.long (lN x)), none, some (.long (lN y)), none, some (.long (lN (x % y))), none] rfl ?_
      refine se_lload (pc := 96) rfl dR_using_96 ?_
      refine se_lstore (pc := 98) dR_using_98 (by decide) [some (.ref 41), some (.int v), some (.int w), some (.int u), some (.long A), none, some (.long B), none, some (.long (lN y)), none, some (.long (lN y)), none, some (.long (lN (x % y))), none] rfl ?_
      refine se_lload (pc := 100) rfl dR_using_100 ?_
      refine se_lstore (pc := 102) dR_using_102 (by decide) [some (.ref 41), some (.int v), some (.int w), some (.int u), some (.long A), none, some (.long B), none, some (.long (lN y)), none, some (.long (lN (x % y))), none, some (.long (lN (x % y))), none] rfl ?_
      refine se_goto (pc := 104) (tgt := 82) dR_using_104 (by decide) ?_
      have hm := Nat.mod_lt x (show 0 < y by omega)
      exact ih y (x % y) _ (by omega) hy (by omega) (by rw [← hG, Nat.gcd_comm x y, Nat.gcd_rec y x, Nat.gcd_comm])
theorem in01 {w : Int32} (h0 : ¬ w = 0) (h1 : ¬ w = 1) : st_in 0 1 w = false := by
  cases hb : st_in 0 1 w
  · rfl
  · obtain ⟨m, m1, m2, rfl⟩ := st_in_nat (A := 0) (B := 1) (by decide) (by decide) hb
    have : m = 0 ∨ m = 1 := by omega
    rcases this with rfl | rfl
    · exact absurd rfl h0
    · exact absurd rfl h1
theorem q_km {K : Nat} (hK : K ≤ 1000000) : nI K ≤ 0 ↔ nI K = 0 := by
  rw [← nI_0, nI_leI (by omega) (by decide), nI_eq (by omega) (by decide)]; omega
set_option maxHeartbeats 1000000 in
set_option maxRecDepth 100000 in
theorem r_using {v w : Int32} (hd : 3 ≤ d) (hR : is_R S t h) (hI : st_I S) (hQ : st_Q N S) (hN : N < 2 ^ 31) : se_W (vG sc) l d mR_using 0 (se_ent 14 [.ref 41, .int v, .int w]) [] h 0 0 (rPl h (sp_using S v w)) := by
  obtain ⟨d, rfl⟩ : ∃ e, d = e + 1 := ⟨d - 1, by omega⟩
  show se_W (vG sc) l (d + 1) mR_using 0 [some (.ref 41), some (.int v), some (.int w), none, none, none, none, none, none, none, none, none, none, none] [] h 0 0 _
  have hn20 := hI.2.1
  have hd100 := hI.2.2.2.1
  have hO := hR.1
  rw [hI.1, hI.2.2.1] at hO
  by_cases hw0 : w = 0
  · subst hw0
    refine se_aload_n (pc := 0) rfl dR_using_0 ?_
    refine se_iload_n (pc := 1) rfl dR_using_1 ?_
    refine se_invV (pc := 2) (as := [.int v]) (st := []) (vok sc) kR_isVehicle dR_using_2 ⟨wd_674, wd_676, sl_11, wd_3⟩ rfl hO rfl (Nat.le_of_ble_eq_true rfl) (Nat.le_of_ble_eq_true rfl) (x_R_isVehicle (by omega) hR hI) (C2 := 0) (S2 := 0) (by omega) (by omega) (fun v2 h2 _ q2 => ?_) (fun x hx => absurd hx List.not_mem_nil) (fun v2 h2 _ q2 => ?_)
    rotate_left
    · rcases q2.2 with ⟨_, _, _, _, e⟩ | ⟨_, e⟩ <;> cases e
    obtain ⟨h2e, q2⟩ := q2
    have h2f := h2e.symm
    subst h2f
    rcases q2 with ⟨jv, hxv, hjv, rfl, q2⟩ | ⟨hxv, q2⟩
    · cases q2
      obtain ⟨F, K, hF1, hK1, hF, hK⟩ := q_R hQ jv hjv
      have cF : (nI F).toNatClampNeg = F := nI_clamp (by omega)
      have cK : (nI K).toNatClampNeg = K := nI_clamp (by omega)
      refine se_if_eq (pc := 5) (tgt := 21) dR_using_5 (by decide) (fun q1 => absurd q1 (by decide)) (fun q1 => ?_)
      refine se_iload_n (pc := 8) rfl dR_using_8 ?_
      refine se_iconst (pc := 9) 0 (by decide) dR_using_9 ?_
      refine se_iconst (pc := 10) 1 (by decide) dR_using_10 ?_
      refine se_invS (pc := 11) (as := [.int 0, .int 0, .int 1]) (st := []) (vok sc) kR_in dR_using_11 ⟨wd_652, wd_653, wd_3⟩ rfl (Nat.le_of_ble_eq_true rfl) (Nat.le_of_ble_eq_true rfl) (x_R_inc true (by decide)) (C2 := 0) (S2 := 0) (by omega) (by omega) (fun v11 h11 _ q11 => ?_) (fun x hx => absurd hx List.not_mem_nil) (fun v11 h11 _ q11 => ?_)
      rotate_left
      · cases q11.2
      obtain ⟨h11e, q11⟩ := q11
      have h11f := h11e.symm
      subst h11f
      cases q11
      show se_W _ _ _ _ _ _ (.int 1 :: _) _ _ _ _
      refine se_if_eq (pc := 14) (tgt := 21) dR_using_14 (by decide) (fun q2 => absurd q2 (by decide)) (fun q2 => ?_)
      refine se_iconst (pc := 17) 1 (by decide) dR_using_17 ?_
      refine se_goto (pc := 18) (tgt := 22) dR_using_18 (by decide) ?_
      refine se_istore_n (pc := 22) dR_using_22 (by decide) [some (.ref 41), some (.int (nI jv)), some (.int 0), some (.int 1), none, none, none, none, none, none, none, none, none, none] rfl ?_
      refine se_aload_n (pc := 23) rfl dR_using_23 ?_
      refine se_iload_n (pc := 24) rfl dR_using_24 ?_
      refine se_iload_n (pc := 25) rfl dR_using_25 ?_
      refine se_if_eq (pc := 26) (tgt := 42) dR_using_26 (by decide) (fun q3 => absurd q3 (by decide)) (fun q3 => ?_)
      refine se_aload_n (pc := 29) rfl dR_using_29 ?_
      refine se_getf (pc := 30) clR 13 dR_using_30 wd_566 rfl (by decide) hO rfl ?_
      refine se_iload_n (pc := 33) rfl dR_using_33 ?_
      refine se_ialdN (pc := 34) 0 dR_using_34 rfl hR.2.2.2.2.2.2.2.2.2.2.2.1 (by omega) (by decide) ?_
      rw [rf_v_at]
      rw [hK]
      refine se_if_le (pc := 35) (tgt := 42) dR_using_35 (by decide) (fun q4 => ?_) (fun q4 => ?_)
      · refine se_iconst (pc := 42) 0 (by decide) dR_using_42 ?_
        refine se_iconst (pc := 43) 1 (by decide) dR_using_43 ?_
        refine se_invV (pc := 44) (as := [.int 1, .int 0, .int 1]) (st := []) (vok sc) kR_goes dR_using_44 ⟨wd_655, wd_657, sl_10, wd_3⟩ rfl hO rfl (Nat.le_of_ble_eq_true rfl) (Nat.le_of_ble_eq_true rfl) (g_goes (r := 0) 2 hR (by decide) (by decide)) (C2 := 0) (S2 := 0) (by omega) (by omega) (fun v44 h44 _ q44 => ?_) (fun x hx => absurd hx List.not_mem_nil) (fun v44 h44 _ q44 => ?_)
        rotate_left
        · cases q44.2.2
        obtain ⟨hR9, hf9, q44⟩ := q44
        cases q44
        have hO9 := hR9.1
        rw [hI.1, hI.2.2.1] at hO9
        refine se_if_ne (pc := 47) (tgt := 52) dR_using_47 (by decide) (fun q5 => absurd q5 (by decide)) (fun q5 => ?_)
        refine se_lconst (pc := 50) 0 (by decide) dR_using_50 ?_
        exact se_lret (pc := 51) dR_using_51 rfl (rPl_no 1 (by clear hR hO hR9 hO9 hf9; have hkm9 := q_km hK1; have hgc9 := Nat.gcd_comm (100 * F) K; simp only [sp_using, hxv, hF, hK, cF, cK, hgc9]; clear hF hK cF cK hgc9; simp_all) hR9 hf9)
      · refine se_iconst (pc := 38) 1 (by decide) dR_using_38 ?_
        refine se_goto (pc := 39) (tgt := 43) dR_using_39 (by decide) ?_
        refine se_iconst (pc := 43) 1 (by decide) dR_using_43 ?_
        refine se_invV (pc := 44) (as := [.int 1, .int 1, .int 1]) (st := []) (vok sc) kR_goes dR_using_44 ⟨wd_655, wd_657, sl_10, wd_3⟩ rfl hO rfl (Nat.le_of_ble_eq_true rfl) (Nat.le_of_ble_eq_true rfl) (g_goes (r := 1) 0 hR (by decide) (by decide)) (C2 := 0) (S2 := 0) (by omega) (by omega) (fun v44 h44 _ q44 => ?_) (fun x hx => absurd hx List.not_mem_nil) (fun v44 h44 _ q44 => ?_)
        rotate_left
        · cases q44.2.2
        obtain ⟨hR9, hf9, q44⟩ := q44
        cases q44
        have hO9 := hR9.1
        rw [hI.1, hI.2.2.1] at hO9
        refine se_if_ne (pc := 47) (tgt := 52) dR_using_47 (by decide) (fun q6 => ?_) (fun q6 => absurd q6 (by decide))
        refine se_ldc2 (pc := 52) 100 dR_using_52 wd_764 ?_
        refine se_aload_n (pc := 55) rfl dR_using_55 ?_
        refine se_getf (pc := 56) clR 16 dR_using_56 wd_569 rfl (by decide) hO9 rfl ?_
        refine se_iload_n (pc := 59) rfl dR_using_59 ?_
        refine se_ialdN (pc := 60) 0 dR_using_60 rfl hR9.2.2.2.2.2.2.2.2.2.2.2.2.2.2.1 (by omega) (by decide) ?_
        rw [rf_v_at]
        rw [hF]
        refine se_i2l (pc := 61) dR_using_61 ?_
        rw [nI_l (by omega)]
        refine se_lmul (pc := 62) dR_using_62 ?_
        rw [show (100 : Int64) = lN 100 from rfl, lN_mul]
        refine se_lstore (pc := 63) dR_using_63 (by decide) [some (.ref 41), some (.int (nI jv)), some (.int 0), some (.int 1), some (.long (lN (100 * F))), none, none, none, none, none, none, none, none, none] rfl ?_
        refine se_aload_n (pc := 65) rfl dR_using_65 ?_
        refine se_getf (pc := 66) clR 13 dR_using_66 wd_566 rfl (by decide) hO9 rfl ?_
        refine se_iload_n (pc := 69) rfl dR_using_69 ?_
        refine se_ialdN (pc := 70) 0 dR_using_70 rfl hR9.2.2.2.2.2.2.2.2.2.2.2.1 (by omega) (by decide) ?_
        rw [rf_v_at]
        rw [hK]
        refine se_i2l (pc := 71) dR_using_71 ?_
        rw [nI_l (by omega)]
        refine se_lstore (pc := 72) dR_using_72 (by decide) [some (.ref 41), some (.int (nI jv)), some (.int 0), some (.int 1), some (.long (lN (100 * F))), none, some (.long (lN K)), none, none, none, none, none, none, none] rfl ?_
        refine se_lload (pc := 74) rfl dR_using_74 ?_
        refine se_lstore (pc := 76) dR_using_76 (by decide) [some (.ref 41), some (.int (nI jv)), some (.int 0), some (.int 1), some (.long (lN (100 * F))), none, some (.long (lN K)), none, some (.long (lN K)), none, none, none, none, none] rfl ?_
        refine se_lload (pc := 78) rfl dR_using_78 ?_
        refine se_lstore (pc := 80) dR_using_80 (by decide) [some (.ref 41), some (.int (nI jv)), some (.int 0), some (.int 1), some (.long (lN (100 * F))), none, some (.long (lN K)), none, some (.long (lN K)), none, some (.long (lN (100 * F))), none, none, none] rfl ?_
        have hK0 : K ≠ 0 := by rintro rfl; exact absurd (show nI 0 ≤ 0 by decide) (by assumption)
        have hg0 : 0 < Nat.gcd K (100 * F) := Nat.gcd_pos_of_pos_left _ (by omega)
        have hgK : Nat.gcd K (100 * F) ≤ K := Nat.gcd_le_left _ (by omega)
        refine lp_R_using (G := Nat.gcd K (100 * F)) (fun z9 => ?_) (100 * F) K (100 * F) _ (Nat.le_refl _) (by omega) (by omega) rfl
        refine se_iload_n (pc := 107) rfl dR_using_107 ?_
        refine se_if_ne (pc := 108) (tgt := 116) dR_using_108 (by decide) (fun q1 => absurd q1 (by decide)) (fun q1 => ?_)
        refine se_lload (pc := 111) rfl dR_using_111 ?_
        refine se_goto (pc := 113) (tgt := 118) dR_using_113 (by decide) ?_
        refine se_lload (pc := 118) rfl dR_using_118 ?_
        refine se_ldiv (pc := 120) (fun z => absurd ((pk_lEQ (b := 0) (by omega) (by decide)).mp z) (by omega)) dR_using_120 ?_
        rw [pk_lDiv (by omega) hg0 (by omega)]
        exact se_lret (pc := 121) dR_using_121 rfl (rPl_ok (by clear hR hO hR9 hO9 hf9; have hkm9 := q_km hK1; have hgc9 := Nat.gcd_comm (100 * F) K; simp only [sp_using, hxv, hF, hK, cF, cK, hgc9]; clear hF hK cF cK hgc9; simp_all) hR9 hf9)
    · cases q2
      refine se_if_eq (pc := 5) (tgt := 21) dR_using_5 (by decide) (fun q7 => ?_) (fun q7 => absurd q7 (by decide))
      refine se_iconst (pc := 21) 0 (by decide) dR_using_21 ?_
      refine se_istore_n (pc := 22) dR_using_22 (by decide) [some (.ref 41), some (.int v), some (.int 0), some (.int 0), none, none, none, none, none, none, none, none, none, none] rfl ?_
      refine se_aload_n (pc := 23) rfl dR_using_23 ?_
      refine se_iload_n (pc := 24) rfl dR_using_24 ?_
      refine se_iload_n (pc := 25) rfl dR_using_25 ?_
      refine se_if_eq (pc := 26) (tgt := 42) dR_using_26 (by decide) (fun q8 => ?_) (fun q8 => absurd q8 (by decide))
      refine se_iconst (pc := 42) 0 (by decide) dR_using_42 ?_
      refine se_iconst (pc := 43) 1 (by decide) dR_using_43 ?_
      refine se_invV (pc := 44) (as := [.int 0, .int 0, .int 1]) (st := []) (vok sc) kR_goes dR_using_44 ⟨wd_655, wd_657, sl_10, wd_3⟩ rfl hO rfl (Nat.le_of_ble_eq_true rfl) (Nat.le_of_ble_eq_true rfl) (g_goes (r := 0) 1 hR (by decide) (by decide)) (C2 := 0) (S2 := 0) (by omega) (by omega) (fun v44 h44 _ q44 => ?_) (fun x hx => absurd hx List.not_mem_nil) (fun v44 h44 _ q44 => ?_)
      rotate_left
      · cases q44.2.2
      obtain ⟨hR9, hf9, q44⟩ := q44
      cases q44
      have hO9 := hR9.1
      rw [hI.1, hI.2.2.1] at hO9
      refine se_if_ne (pc := 47) (tgt := 52) dR_using_47 (by decide) (fun q9 => absurd q9 (by decide)) (fun q9 => ?_)
      refine se_lconst (pc := 50) 0 (by decide) dR_using_50 ?_
      exact se_lret (pc := 51) dR_using_51 rfl (rPl_no 0 (by clear hR hO hR9 hO9 hf9; simp_all [sp_using]) hR9 hf9)
  by_cases hw1 : w = 1
  · subst hw1
    refine se_aload_n (pc := 0) rfl dR_using_0 ?_
    refine se_iload_n (pc := 1) rfl dR_using_1 ?_
    refine se_invV (pc := 2) (as := [.int v]) (st := []) (vok sc) kR_isVehicle dR_using_2 ⟨wd_674, wd_676, sl_11, wd_3⟩ rfl hO rfl (Nat.le_of_ble_eq_true rfl) (Nat.le_of_ble_eq_true rfl) (x_R_isVehicle (by omega) hR hI) (C2 := 0) (S2 := 0) (by omega) (by omega) (fun v2 h2 _ q2 => ?_) (fun x hx => absurd hx List.not_mem_nil) (fun v2 h2 _ q2 => ?_)
    rotate_left
    · rcases q2.2 with ⟨_, _, _, _, e⟩ | ⟨_, e⟩ <;> cases e
    obtain ⟨h2e, q2⟩ := q2
    have h2f := h2e.symm
    subst h2f
    rcases q2 with ⟨jv, hxv, hjv, rfl, q2⟩ | ⟨hxv, q2⟩
    · cases q2
      obtain ⟨F, K, hF1, hK1, hF, hK⟩ := q_R hQ jv hjv
      have cF : (nI F).toNatClampNeg = F := nI_clamp (by omega)
      have cK : (nI K).toNatClampNeg = K := nI_clamp (by omega)
      refine se_if_eq (pc := 5) (tgt := 21) dR_using_5 (by decide) (fun q1 => absurd q1 (by decide)) (fun q1 => ?_)
      refine se_iload_n (pc := 8) rfl dR_using_8 ?_
      refine se_iconst (pc := 9) 0 (by decide) dR_using_9 ?_
      refine se_iconst (pc := 10) 1 (by decide) dR_using_10 ?_
      refine se_invS (pc := 11) (as := [.int 1, .int 0, .int 1]) (st := []) (vok sc) kR_in dR_using_11 ⟨wd_652, wd_653, wd_3⟩ rfl (Nat.le_of_ble_eq_true rfl) (Nat.le_of_ble_eq_true rfl) (x_R_inc true (by decide)) (C2 := 0) (S2 := 0) (by omega) (by omega) (fun v11 h11 _ q11 => ?_) (fun x hx => absurd hx List.not_mem_nil) (fun v11 h11 _ q11 => ?_)
      rotate_left
      · cases q11.2
      obtain ⟨h11e, q11⟩ := q11
      have h11f := h11e.symm
      subst h11f
      cases q11
      show se_W _ _ _ _ _ _ (.int 1 :: _) _ _ _ _
      refine se_if_eq (pc := 14) (tgt := 21) dR_using_14 (by decide) (fun q2 => absurd q2 (by decide)) (fun q2 => ?_)
      refine se_iconst (pc := 17) 1 (by decide) dR_using_17 ?_
      refine se_goto (pc := 18) (tgt := 22) dR_using_18 (by decide) ?_
      refine se_istore_n (pc := 22) dR_using_22 (by decide) [some (.ref 41), some (.int (nI jv)), some (.int 1), some (.int 1), none, none, none, none, none, none, none, none, none, none] rfl ?_
      refine se_aload_n (pc := 23) rfl dR_using_23 ?_
      refine se_iload_n (pc := 24) rfl dR_using_24 ?_
      refine se_iload_n (pc := 25) rfl dR_using_25 ?_
      refine se_if_eq (pc := 26) (tgt := 42) dR_using_26 (by decide) (fun q3 => absurd q3 (by decide)) (fun q3 => ?_)
      refine se_aload_n (pc := 29) rfl dR_using_29 ?_
      refine se_getf (pc := 30) clR 13 dR_using_30 wd_566 rfl (by decide) hO rfl ?_
      refine se_iload_n (pc := 33) rfl dR_using_33 ?_
      refine se_ialdN (pc := 34) 0 dR_using_34 rfl hR.2.2.2.2.2.2.2.2.2.2.2.1 (by omega) (by decide) ?_
      rw [rf_v_at]
      rw [hK]
      refine se_if_le (pc := 35) (tgt := 42) dR_using_35 (by decide) (fun q4 => ?_) (fun q4 => ?_)
      · refine se_iconst (pc := 42) 0 (by decide) dR_using_42 ?_
        refine se_iconst (pc := 43) 1 (by decide) dR_using_43 ?_
        refine se_invV (pc := 44) (as := [.int 1, .int 0, .int 1]) (st := []) (vok sc) kR_goes dR_using_44 ⟨wd_655, wd_657, sl_10, wd_3⟩ rfl hO rfl (Nat.le_of_ble_eq_true rfl) (Nat.le_of_ble_eq_true rfl) (g_goes (r := 0) 2 hR (by decide) (by decide)) (C2 := 0) (S2 := 0) (by omega) (by omega) (fun v44 h44 _ q44 => ?_) (fun x hx => absurd hx List.not_mem_nil) (fun v44 h44 _ q44 => ?_)
        rotate_left
        · cases q44.2.2
        obtain ⟨hR9, hf9, q44⟩ := q44
        cases q44
        have hO9 := hR9.1
        rw [hI.1, hI.2.2.1] at hO9
        refine se_if_ne (pc := 47) (tgt := 52) dR_using_47 (by decide) (fun q5 => absurd q5 (by decide)) (fun q5 => ?_)
        refine se_lconst (pc := 50) 0 (by decide) dR_using_50 ?_
        exact se_lret (pc := 51) dR_using_51 rfl (rPl_no 1 (by clear hR hO hR9 hO9 hf9; have hkm9 := q_km hK1; have hgc9 := Nat.gcd_comm (100 * F) K; simp only [sp_using, hxv, hF, hK, cF, cK, hgc9]; clear hF hK cF cK hgc9; simp_all) hR9 hf9)
      · refine se_iconst (pc := 38) 1 (by decide) dR_using_38 ?_
        refine se_goto (pc := 39) (tgt := 43) dR_using_39 (by decide) ?_
        refine se_iconst (pc := 43) 1 (by decide) dR_using_43 ?_
        refine se_invV (pc := 44) (as := [.int 1, .int 1, .int 1]) (st := []) (vok sc) kR_goes dR_using_44 ⟨wd_655, wd_657, sl_10, wd_3⟩ rfl hO rfl (Nat.le_of_ble_eq_true rfl) (Nat.le_of_ble_eq_true rfl) (g_goes (r := 1) 0 hR (by decide) (by decide)) (C2 := 0) (S2 := 0) (by omega) (by omega) (fun v44 h44 _ q44 => ?_) (fun x hx => absurd hx List.not_mem_nil) (fun v44 h44 _ q44 => ?_)
        rotate_left
        · cases q44.2.2
        obtain ⟨hR9, hf9, q44⟩ := q44
        cases q44
        have hO9 := hR9.1
        rw [hI.1, hI.2.2.1] at hO9
        refine se_if_ne (pc := 47) (tgt := 52) dR_using_47 (by decide) (fun q6 => ?_) (fun q6 => absurd q6 (by decide))
        refine se_ldc2 (pc := 52) 100 dR_using_52 wd_764 ?_
        refine se_aload_n (pc := 55) rfl dR_using_55 ?_
        refine se_getf (pc := 56) clR 16 dR_using_56 wd_569 rfl (by decide) hO9 rfl ?_
        refine se_iload_n (pc := 59) rfl dR_using_59 ?_
        refine se_ialdN (pc := 60) 0 dR_using_60 rfl hR9.2.2.2.2.2.2.2.2.2.2.2.2.2.2.1 (by omega) (by decide) ?_
        rw [rf_v_at]
        rw [hF]
        refine se_i2l (pc := 61) dR_using_61 ?_
        rw [nI_l (by omega)]
        refine se_lmul (pc := 62) dR_using_62 ?_
        rw [show (100 : Int64) = lN 100 from rfl, lN_mul]
        refine se_lstore (pc := 63) dR_using_63 (by decide) [some (.ref 41), some (.int (nI jv)), some (.int 1), some (.int 1), some (.long (lN (100 * F))), none, none, none, none, none, none, none, none, none] rfl ?_
        refine se_aload_n (pc := 65) rfl dR_using_65 ?_
        refine se_getf (pc := 66) clR 13 dR_using_66 wd_566 rfl (by decide) hO9 rfl ?_
        refine se_iload_n (pc := 69) rfl dR_using_69 ?_
        refine se_ialdN (pc := 70) 0 dR_using_70 rfl hR9.2.2.2.2.2.2.2.2.2.2.2.1 (by omega) (by decide) ?_
        rw [rf_v_at]
        rw [hK]
        refine se_i2l (pc := 71) dR_using_71 ?_
        rw [nI_l (by omega)]
        refine se_lstore (pc := 72) dR_using_72 (by decide) [some (.ref 41), some (.int (nI jv)), some (.int 1), some (.int 1), some (.long (lN (100 * F))), none, some (.long (lN K)), none, none, none, none, none, none, none] rfl ?_
        refine se_lload (pc := 74) rfl dR_using_74 ?_
        refine se_lstore (pc := 76) dR_using_76 (by decide) [some (.ref 41), some (.int (nI jv)), some (.int 1), some (.int 1), some (.long (lN (100 * F))), none, some (.long (lN K)), none, some (.long (lN K)), none, none, none, none, none] rfl ?_
        refine se_lload (pc := 78) rfl dR_using_78 ?_
        refine se_lstore (pc := 80) dR_using_80 (by decide) [some (.ref 41), some (.int (nI jv)), some (.int 1), some (.int 1), some (.long (lN (100 * F))), none, some (.long (lN K)), none, some (.long (lN K)), none, some (.long (lN (100 * F))), none, none, none] rfl ?_
        have hK0 : K ≠ 0 := by rintro rfl; exact absurd (show nI 0 ≤ 0 by decide) (by assumption)
        have hg0 : 0 < Nat.gcd K (100 * F) := Nat.gcd_pos_of_pos_left _ (by omega)
        have hgK : Nat.gcd K (100 * F) ≤ K := Nat.gcd_le_left _ (by omega)
        refine lp_R_using (G := Nat.gcd K (100 * F)) (fun z9 => ?_) (100 * F) K (100 * F) _ (Nat.le_refl _) (by omega) (by omega) rfl
        refine se_iload_n (pc := 107) rfl dR_using_107 ?_
        refine se_if_ne (pc := 108) (tgt := 116) dR_using_108 (by decide) (fun q1 => ?_) (fun q1 => absurd q1 (by decide))
        refine se_lload (pc := 116) rfl dR_using_116 ?_
        refine se_lload (pc := 118) rfl dR_using_118 ?_
        refine se_ldiv (pc := 120) (fun z => absurd ((pk_lEQ (b := 0) (by omega) (by decide)).mp z) (by omega)) dR_using_120 ?_
        rw [pk_lDiv (by omega) hg0 (by omega)]
        exact se_lret (pc := 121) dR_using_121 rfl (rPl_ok (by clear hR hO hR9 hO9 hf9; have hkm9 := q_km hK1; have hgc9 := Nat.gcd_comm (100 * F) K; simp only [sp_using, hxv, hF, hK, cF, cK, hgc9]; clear hF hK cF cK hgc9; simp_all) hR9 hf9)
    · cases q2
      refine se_if_eq (pc := 5) (tgt := 21) dR_using_5 (by decide) (fun q7 => ?_) (fun q7 => absurd q7 (by decide))
      refine se_iconst (pc := 21) 0 (by decide) dR_using_21 ?_
      refine se_istore_n (pc := 22) dR_using_22 (by decide) [some (.ref 41), some (.int v), some (.int 1), some (.int 0), none, none, none, none, none, none, none, none, none, none] rfl ?_
      refine se_aload_n (pc := 23) rfl dR_using_23 ?_
      refine se_iload_n (pc := 24) rfl dR_using_24 ?_
      refine se_iload_n (pc := 25) rfl dR_using_25 ?_
      refine se_if_eq (pc := 26) (tgt := 42) dR_using_26 (by decide) (fun q8 => ?_) (fun q8 => absurd q8 (by decide))
      refine se_iconst (pc := 42) 0 (by decide) dR_using_42 ?_
      refine se_iconst (pc := 43) 1 (by decide) dR_using_43 ?_
      refine se_invV (pc := 44) (as := [.int 0, .int 0, .int 1]) (st := []) (vok sc) kR_goes dR_using_44 ⟨wd_655, wd_657, sl_10, wd_3⟩ rfl hO rfl (Nat.le_of_ble_eq_true rfl) (Nat.le_of_ble_eq_true rfl) (g_goes (r := 0) 1 hR (by decide) (by decide)) (C2 := 0) (S2 := 0) (by omega) (by omega) (fun v44 h44 _ q44 => ?_) (fun x hx => absurd hx List.not_mem_nil) (fun v44 h44 _ q44 => ?_)
      rotate_left
      · cases q44.2.2
      obtain ⟨hR9, hf9, q44⟩ := q44
      cases q44
      have hO9 := hR9.1
      rw [hI.1, hI.2.2.1] at hO9
      refine se_if_ne (pc := 47) (tgt := 52) dR_using_47 (by decide) (fun q9 => absurd q9 (by decide)) (fun q9 => ?_)
      refine se_lconst (pc := 50) 0 (by decide) dR_using_50 ?_
      exact se_lret (pc := 51) dR_using_51 rfl (rPl_no 0 (by clear hR hO hR9 hO9 hf9; simp_all [sp_using]) hR9 hf9)
  have hw := in01 hw0 hw1
  refine se_aload_n (pc := 0) rfl dR_using_0 ?_
  refine se_iload_n (pc := 1) rfl dR_using_1 ?_
  refine se_invV (pc := 2) (as := [.int v]) (st := []) (vok sc) kR_isVehicle dR_using_2 ⟨wd_674, wd_676, sl_11, wd_3⟩ rfl hO rfl (Nat.le_of_ble_eq_true rfl) (Nat.le_of_ble_eq_true rfl) (x_R_isVehicle (by omega) hR hI) (C2 := 0) (S2 := 0) (by omega) (by omega) (fun v2 h2 _ q2 => ?_) (fun x hx => absurd hx List.not_mem_nil) (fun v2 h2 _ q2 => ?_)
  rotate_left
  · rcases q2.2 with ⟨_, _, _, _, e⟩ | ⟨_, e⟩ <;> cases e
  obtain ⟨h2e, q2⟩ := q2
  have h2f := h2e.symm
  subst h2f
  rcases q2 with ⟨jv, hxv, hjv, rfl, q2⟩ | ⟨hxv, q2⟩
  · cases q2
    obtain ⟨F, K, hF1, hK1, hF, hK⟩ := q_R hQ jv hjv
    have cF : (nI F).toNatClampNeg = F := nI_clamp (by omega)
    have cK : (nI K).toNatClampNeg = K := nI_clamp (by omega)
    refine se_if_eq (pc := 5) (tgt := 21) dR_using_5 (by decide) (fun q1 => absurd q1 (by decide)) (fun q1 => ?_)
    refine se_iload_n (pc := 8) rfl dR_using_8 ?_
    refine se_iconst (pc := 9) 0 (by decide) dR_using_9 ?_
    refine se_iconst (pc := 10) 1 (by decide) dR_using_10 ?_
    refine se_invS (pc := 11) (as := [.int w, .int 0, .int 1]) (st := []) (vok sc) kR_in dR_using_11 ⟨wd_652, wd_653, wd_3⟩ rfl (Nat.le_of_ble_eq_true rfl) (Nat.le_of_ble_eq_true rfl) (x_R_inc false hw) (C2 := 0) (S2 := 0) (by omega) (by omega) (fun v11 h11 _ q11 => ?_) (fun x hx => absurd hx List.not_mem_nil) (fun v11 h11 _ q11 => ?_)
    rotate_left
    · cases q11.2
    obtain ⟨h11e, q11⟩ := q11
    have h11f := h11e.symm
    subst h11f
    cases q11
    show se_W _ _ _ _ _ _ (.int 0 :: _) _ _ _ _
    refine se_if_eq (pc := 14) (tgt := 21) dR_using_14 (by decide) (fun q2 => ?_) (fun q2 => absurd q2 (by decide))
    refine se_iconst (pc := 21) 0 (by decide) dR_using_21 ?_
    refine se_istore_n (pc := 22) dR_using_22 (by decide) [some (.ref 41), some (.int (nI jv)), some (.int w), some (.int 0), none, none, none, none, none, none, none, none, none, none] rfl ?_
    refine se_aload_n (pc := 23) rfl dR_using_23 ?_
    refine se_iload_n (pc := 24) rfl dR_using_24 ?_
    refine se_iload_n (pc := 25) rfl dR_using_25 ?_
    refine se_if_eq (pc := 26) (tgt := 42) dR_using_26 (by decide) (fun q3 => ?_) (fun q3 => absurd q3 (by decide))
    refine se_iconst (pc := 42) 0 (by decide) dR_using_42 ?_
    refine se_iconst (pc := 43) 1 (by decide) dR_using_43 ?_
    refine se_invV (pc := 44) (as := [.int 0, .int 0, .int 1]) (st := []) (vok sc) kR_goes dR_using_44 ⟨wd_655, wd_657, sl_10, wd_3⟩ rfl hO rfl (Nat.le_of_ble_eq_true rfl) (Nat.le_of_ble_eq_true rfl) (g_goes (r := 0) 1 hR (by decide) (by decide)) (C2 := 0) (S2 := 0) (by omega) (by omega) (fun v44 h44 _ q44 => ?_) (fun x hx => absurd hx List.not_mem_nil) (fun v44 h44 _ q44 => ?_)
    rotate_left
    · cases q44.2.2
    obtain ⟨hR9, hf9, q44⟩ := q44
    cases q44
    have hO9 := hR9.1
    rw [hI.1, hI.2.2.1] at hO9
    refine se_if_ne (pc := 47) (tgt := 52) dR_using_47 (by decide) (fun q4 => absurd q4 (by decide)) (fun q4 => ?_)
    refine se_lconst (pc := 50) 0 (by decide) dR_using_50 ?_
    exact se_lret (pc := 51) dR_using_51 rfl (rPl_no 0 (by clear hR hO hR9 hO9 hf9; simp_all [sp_using]) hR9 hf9)
  · cases q2
    refine se_if_eq (pc := 5) (tgt := 21) dR_using_5 (by decide) (fun q5 => ?_) (fun q5 => absurd q5 (by decide))
    refine se_iconst (pc := 21) 0 (by decide) dR_using_21 ?_
    refine se_istore_n (pc := 22) dR_using_22 (by decide) [some (.ref 41), some (.int v), some (.int w), some (.int 0), none, none, none, none, none, none, none, none, none, none] rfl ?_
    refine se_aload_n (pc := 23) rfl dR_using_23 ?_
    refine se_iload_n (pc := 24) rfl dR_using_24 ?_
    refine se_iload_n (pc := 25) rfl dR_using_25 ?_
    refine se_if_eq (pc := 26) (tgt := 42) dR_using_26 (by decide) (fun q6 => ?_) (fun q6 => absurd q6 (by decide))
    refine se_iconst (pc := 42) 0 (by decide) dR_using_42 ?_
    refine se_iconst (pc := 43) 1 (by decide) dR_using_43 ?_
    refine se_invV (pc := 44) (as := [.int 0, .int 0, .int 1]) (st := []) (vok sc) kR_goes dR_using_44 ⟨wd_655, wd_657, sl_10, wd_3⟩ rfl hO rfl (Nat.le_of_ble_eq_true rfl) (Nat.le_of_ble_eq_true rfl) (g_goes (r := 0) 1 hR (by decide) (by decide)) (C2 := 0) (S2 := 0) (by omega) (by omega) (fun v44 h44 _ q44 => ?_) (fun x hx => absurd hx List.not_mem_nil) (fun v44 h44 _ q44 => ?_)
    rotate_left
    · cases q44.2.2
    obtain ⟨hR9, hf9, q44⟩ := q44
    cases q44
    have hO9 := hR9.1
    rw [hI.1, hI.2.2.1] at hO9
    refine se_if_ne (pc := 47) (tgt := 52) dR_using_47 (by decide) (fun q7 => absurd q7 (by decide)) (fun q7 => ?_)
    refine se_lconst (pc := 50) 0 (by decide) dR_using_50 ?_
    exact se_lret (pc := 51) dR_using_51 rfl (rPl_no 0 (by clear hR hO hR9 hO9 hf9; simp_all [sp_using]) hR9 hf9)
end RPUB
