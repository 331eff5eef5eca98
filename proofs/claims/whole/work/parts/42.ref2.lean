section REF2
variable {sc : List (Nat × Nat × (Nat → Int32))} {l : Launch} {d : Nat} {h : se_H} {S : st_S} {t : Int32} {N : Nat}
theorem q_us2 {S : st_S} (h : st_Q N S) (hn : N < 2 ^ 31) (v i : Nat) : S 10 v i < S 17 v 0 ↔ ¬ S 17 v 0 = S 10 v i := by rw [← q_us h hn v i, Int32.not_le]
theorem nn_le {x y : Int32} (h : ¬ x ≤ y) : y < x := Int32.not_le.mp h
set_option maxHeartbeats 4000000 in
set_option maxRecDepth 100000 in
theorem c_R_isSkipped {v i : Nat} (hd : 1 ≤ d) (hR : is_R S t h) (hJ : S 11 v 0 = nI (st_kd S v)) (hv : v < 20) (hk : st_kd S v < 5) (hi : i < 10) (hQ : st_Q N S) (hN : N < 2 ^ 31) : se_W (vG sc) l d mR_isSkipped 0 (se_ent 5 [.ref 41, .int (nI v), .int (nI i)]) [] h 0 0 (fun u h' => h' = h ∧ u = .inl (some (.int (st_b (st_sk S (st_kd S v) v i (S 26 0 0)))))) := by
  obtain ⟨d, rfl⟩ : ∃ e, d = e + 1 := ⟨d - 1, by omega⟩
  show se_W (vG sc) l (d + 1) mR_isSkipped 0 [some (.ref 41), some (.int (nI v)), some (.int (nI i)), none, none] [] h 0 0 _
  refine se_bipush (pc := 0) 10 (by decide) dR_isSkipped_0 ?_
  refine se_iload_n (pc := 2) rfl dR_isSkipped_2 ?_
  refine se_imul (pc := 3) dR_isSkipped_3 ?_
  refine se_iload_n (pc := 4) rfl dR_isSkipped_4 ?_
  refine se_iadd (pc := 5) dR_isSkipped_5 ?_
  rw [nx10]
  refine se_istore_n (pc := 6) dR_isSkipped_6 (by decide) [some (.ref 41), some (.int (nI v)), some (.int (nI i)), some (.int (nI (10 * v + i))), none] rfl ?_
  refine se_aload_n (pc := 7) rfl dR_isSkipped_7 ?_
  refine se_getf (pc := 8) clR 6 dR_isSkipped_8 wd_559 rfl (by decide) hR.1 rfl ?_
  refine se_aload_n (pc := 11) rfl dR_isSkipped_11 ?_
  refine se_iload_n (pc := 12) rfl dR_isSkipped_12 ?_
  refine se_iload_n (pc := 13) rfl dR_isSkipped_13 ?_
  refine se_invV (pc := 14) (as := [.int (nI v), .int (nI i)]) (st := [.ref 46]) (vok sc) kR_rule dR_isSkipped_14 ⟨wd_683, wd_685, sl_12, wd_3⟩ rfl hR.1 rfl (Nat.le_of_ble_eq_true rfl) (Nat.le_of_ble_eq_true rfl) (c_R_rule hR hJ hv hk hi) (C2 := 0) (S2 := 0) (by omega) (by omega) (fun v14 h14 _ q14 => ?_) (fun x hx => absurd hx List.not_mem_nil) (fun v14 h14 _ q14 => ?_)
  rotate_left
  · cases q14.2
  obtain ⟨rfl, q14⟩ := q14
  cases q14
  refine se_ialdN (pc := 17) 0 dR_isSkipped_17 rfl hR.2.2.2.2.2.1 (by omega) (by decide) ?_
  rw [rf_l_at (by omega)]
  refine se_istore (pc := 18) dR_isSkipped_18 (by decide) [some (.ref 41), some (.int (nI v)), some (.int (nI i)), some (.int (nI (10 * v + i))), some (.int (S 4 (st_kd S v) i))] rfl ?_
  refine se_aload_n (pc := 20) rfl dR_isSkipped_20 ?_
  refine se_getf (pc := 21) clR 2 dR_isSkipped_21 wd_555 rfl (by decide) hR.1 rfl ?_
  refine se_aload_n (pc := 24) rfl dR_isSkipped_24 ?_
  refine se_iload_n (pc := 25) rfl dR_isSkipped_25 ?_
  refine se_iload_n (pc := 26) rfl dR_isSkipped_26 ?_
  refine se_invV (pc := 27) (as := [.int (nI v), .int (nI i)]) (st := [.ref 42]) (vok sc) kR_rule dR_isSkipped_27 ⟨wd_683, wd_685, sl_12, wd_3⟩ rfl hR.1 rfl (Nat.le_of_ble_eq_true rfl) (Nat.le_of_ble_eq_true rfl) (c_R_rule hR hJ hv hk hi) (C2 := 0) (S2 := 0) (by omega) (by omega) (fun v27 h27 _ q27 => ?_) (fun x hx => absurd hx List.not_mem_nil) (fun v27 h27 _ q27 => ?_)
  rotate_left
  · cases q27.2
  obtain ⟨rfl, q27⟩ := q27
  cases q27
  refine se_zaldN (pc := 30) 1 dR_isSkipped_30 rfl hR.2.1 (by omega) (by decide) ?_
  rw [rf_l_at (by omega)]
  refine se_if_ne (pc := 31) (tgt := 36) dR_isSkipped_31 (by decide) (fun q1 => ?_) (fun q1 => ?_)
  · refine se_iload (pc := 36) rfl dR_isSkipped_36 ?_
    refine se_if_ne (pc := 38) (tgt := 75) dR_isSkipped_38 (by decide) (fun q2 => ?_) (fun q2 => ?_)
    · refine se_aload_n (pc := 75) rfl dR_isSkipped_75 ?_
      refine se_getf (pc := 76) clR 1 dR_isSkipped_76 wd_554 rfl (by decide) hR.1 rfl ?_
      refine se_aload_n (pc := 79) rfl dR_isSkipped_79 ?_
      refine se_getf (pc := 80) clR 20 dR_isSkipped_80 wd_573 rfl (by decide) hR.1 rfl ?_
      refine se_iload_n (pc := 83) rfl dR_isSkipped_83 ?_
      refine se_zaldN (pc := 84) 1 dR_isSkipped_84 rfl hR.2.2.2.2.2.2.2.2.2.2.2.2.2.2.2.2.2.2.1 (by omega) (by decide) ?_
      rw [rf_an_at (by omega)]
      refine se_if_eq (pc := 85) (tgt := 97) dR_isSkipped_85 (by decide) (fun q3 => ?_) (fun q3 => ?_)
      · refine se_aload_n (pc := 97) rfl dR_isSkipped_97 ?_
        refine se_getf (pc := 98) clR 12 dR_isSkipped_98 wd_565 rfl (by decide) hR.1 rfl ?_
        refine se_iload_n (pc := 101) rfl dR_isSkipped_101 ?_
        refine se_ialdN (pc := 102) 0 dR_isSkipped_102 rfl hR.2.2.2.2.2.2.2.2.2.2.1 (by omega) (by decide) ?_
        rw [rf_v_at]
        refine se_isub (pc := 103) dR_isSkipped_103 ?_
        refine se_iload (pc := 104) rfl dR_isSkipped_104 ?_
        refine se_icmp_lt (pc := 106) (tgt := 113) dR_isSkipped_106 (by decide) (fun q4 => ?_) (fun q4 => ?_)
        · refine se_iconst (pc := 113) 0 (by decide) dR_isSkipped_113 ?_
          exact se_zret (pc := 114) dR_isSkipped_114 rfl (by decide) ⟨rfl, by have hus := q_us hQ hN v i; have hus2 := q_us2 hQ hN v i; have hun := q_un hQ v i; clear hR; by_cases h8 : S 8 v i = -1 <;> simp_all [st_sk, st_b, st_an]⟩
        · refine se_iconst (pc := 109) 1 (by decide) dR_isSkipped_109 ?_
          refine se_goto (pc := 110) (tgt := 114) dR_isSkipped_110 (by decide) ?_
          exact se_zret (pc := 114) dR_isSkipped_114 rfl (by decide) ⟨rfl, by have hus := q_us hQ hN v i; have hus2 := q_us2 hQ hN v i; have hun := q_un hQ v i; clear hR; by_cases h8 : S 8 v i = -1 <;> simp_all [st_sk, st_b, st_an]⟩
      · refine se_aload_n (pc := 88) rfl dR_isSkipped_88 ?_
        refine se_getf (pc := 89) clR 22 dR_isSkipped_89 wd_575 rfl (by decide) hR.1 rfl ?_
        refine se_iload_n (pc := 92) rfl dR_isSkipped_92 ?_
        refine se_ialdN (pc := 93) 0 dR_isSkipped_93 rfl hR.2.2.2.2.2.2.2.2.2.2.2.2.2.2.2.2.2.2.2.2.1 (by omega) (by decide) ?_
        rw [rf_at_at (by omega) (by assumption)]
        refine se_goto (pc := 94) (tgt := 103) dR_isSkipped_94 (by decide) ?_
        refine se_isub (pc := 103) dR_isSkipped_103 ?_
        refine se_iload (pc := 104) rfl dR_isSkipped_104 ?_
        refine se_icmp_lt (pc := 106) (tgt := 113) dR_isSkipped_106 (by decide) (fun q5 => ?_) (fun q5 => ?_)
        · refine se_iconst (pc := 113) 0 (by decide) dR_isSkipped_113 ?_
          exact se_zret (pc := 114) dR_isSkipped_114 rfl (by decide) ⟨rfl, by have hus := q_us hQ hN v i; have hus2 := q_us2 hQ hN v i; have hun := q_un hQ v i; clear hR; by_cases h8 : S 8 v i = -1 <;> simp_all [st_sk, st_b, st_an]⟩
        · refine se_iconst (pc := 109) 1 (by decide) dR_isSkipped_109 ?_
          refine se_goto (pc := 110) (tgt := 114) dR_isSkipped_110 (by decide) ?_
          exact se_zret (pc := 114) dR_isSkipped_114 rfl (by decide) ⟨rfl, by have hus := q_us hQ hN v i; have hus2 := q_us2 hQ hN v i; have hun := q_un hQ v i; clear hR; by_cases h8 : S 8 v i = -1 <;> simp_all [st_sk, st_b, st_an]⟩
    · refine se_aload_n (pc := 41) rfl dR_isSkipped_41 ?_
      refine se_getf (pc := 42) clR 15 dR_isSkipped_42 wd_568 rfl (by decide) hR.1 rfl ?_
      refine se_iload_n (pc := 45) rfl dR_isSkipped_45 ?_
      refine se_ialdN (pc := 46) 0 dR_isSkipped_46 rfl hR.2.2.2.2.2.2.2.2.2.2.2.2.2.1 (by omega) (by decide) ?_
      rw [rf_v_at]
      refine se_aload_n (pc := 47) rfl dR_isSkipped_47 ?_
      refine se_getf (pc := 48) clR 20 dR_isSkipped_48 wd_573 rfl (by decide) hR.1 rfl ?_
      refine se_iload_n (pc := 51) rfl dR_isSkipped_51 ?_
      refine se_zaldN (pc := 52) 1 dR_isSkipped_52 rfl hR.2.2.2.2.2.2.2.2.2.2.2.2.2.2.2.2.2.2.1 (by omega) (by decide) ?_
      rw [rf_an_at (by omega)]
      refine se_if_eq (pc := 53) (tgt := 65) dR_isSkipped_53 (by decide) (fun q6 => ?_) (fun q6 => ?_)
      · refine se_iconst (pc := 65) 0 (by decide) dR_isSkipped_65 ?_
        refine se_icmp_le (pc := 66) (tgt := 73) dR_isSkipped_66 (by decide) (fun q7 => ?_) (fun q7 => ?_)
        · refine se_iconst (pc := 73) 0 (by decide) dR_isSkipped_73 ?_
          exact se_zret (pc := 74) dR_isSkipped_74 rfl (by decide) ⟨rfl, by have hus := q_us hQ hN v i; have hus2 := q_us2 hQ hN v i; have hun := q_un hQ v i; clear hR; by_cases h8 : S 8 v i = -1 <;> simp_all [st_sk, st_b, st_an]⟩
        · refine se_iconst (pc := 69) 1 (by decide) dR_isSkipped_69 ?_
          refine se_goto (pc := 70) (tgt := 74) dR_isSkipped_70 (by decide) ?_
          exact se_zret (pc := 74) dR_isSkipped_74 rfl (by decide) ⟨rfl, by have hus := q_us hQ hN v i; have hus2 := q_us2 hQ hN v i; have hun := q_un hQ v i; clear hR; by_cases h8 : S 8 v i = -1 <;> simp_all [st_sk, st_b, st_an]⟩
      · refine se_aload_n (pc := 56) rfl dR_isSkipped_56 ?_
        refine se_getf (pc := 57) clR 24 dR_isSkipped_57 wd_577 rfl (by decide) hR.1 rfl ?_
        refine se_iload_n (pc := 60) rfl dR_isSkipped_60 ?_
        refine se_ialdN (pc := 61) 0 dR_isSkipped_61 rfl hR.2.2.2.2.2.2.2.2.2.2.2.2.2.2.2.2.2.2.2.2.2.2.1 (by omega) (by decide) ?_
        rw [rf_l_at (by omega)]
        refine se_goto (pc := 62) (tgt := 66) dR_isSkipped_62 (by decide) ?_
        refine se_icmp_le (pc := 66) (tgt := 73) dR_isSkipped_66 (by decide) (fun q8 => ?_) (fun q8 => ?_)
        · refine se_iconst (pc := 73) 0 (by decide) dR_isSkipped_73 ?_
          exact se_zret (pc := 74) dR_isSkipped_74 rfl (by decide) ⟨rfl, by have hus := q_us hQ hN v i; have hus2 := q_us2 hQ hN v i; have hun := q_un hQ v i; clear hR; by_cases h8 : S 8 v i = -1 <;> simp_all [st_sk, st_b, st_an]⟩
        · refine se_iconst (pc := 69) 1 (by decide) dR_isSkipped_69 ?_
          refine se_goto (pc := 70) (tgt := 74) dR_isSkipped_70 (by decide) ?_
          exact se_zret (pc := 74) dR_isSkipped_74 rfl (by decide) ⟨rfl, by have hus := q_us hQ hN v i; have hus2 := q_us2 hQ hN v i; have hun := q_un hQ v i; clear hR; by_cases h8 : S 8 v i = -1 <;> simp_all [st_sk, st_b, st_an]⟩
  · refine se_iconst (pc := 34) 0 (by decide) dR_isSkipped_34 ?_
    exact se_zret (pc := 35) dR_isSkipped_35 rfl (by decide) ⟨rfl, by have hus := q_us hQ hN v i; have hus2 := q_us2 hQ hN v i; have hun := q_un hQ v i; clear hR; by_cases h8 : S 8 v i = -1 <;> simp_all [st_sk, st_b, st_an]⟩
theorem rx_0 {x y : Int32} : x - y = 0 ↔ y = x := by rw [Int32.sub_eq_iff_eq_add, Int32.zero_add]; exact eq_comm
theorem rx_1 {x y : Int32} : x - (y + 1) = x - y + -1 := by rw [Int32.sub_eq_add_neg, Int32.neg_add, Int32.sub_eq_add_neg (-y) 1, ← Int32.add_assoc, ← Int32.sub_eq_add_neg x y]
theorem rx_p {p : Nat} (h : p ≤ 9999) : (0 < nI p) ↔ ¬ nI p = 0 := by
  rw [← nI_0, nI_ltI (by decide) (by omega), nI_eq (by omega) (by decide)]; omega
theorem rx_q {p : Nat} (h : p ≤ 9999) : (nI p ≤ 0) ↔ nI p = 0 := by
  rw [← nI_0, nI_leI (by omega) (by decide), nI_eq (by omega) (by decide)]; omega
theorem q_pr {S : st_S} (hQ : st_Q N S) (e : Nat) : S 23 0 e ≤ 0 ↔ S 23 0 e = 0 := by obtain ⟨p, h1, h2⟩ := hQ.2.2.2.1 e; rw [h2]; exact rx_q h1
theorem q_pr2 {S : st_S} (hQ : st_Q N S) (e : Nat) : 0 < S 23 0 e ↔ ¬ S 23 0 e = 0 := by obtain ⟨p, h1, h2⟩ := hQ.2.2.2.1 e; rw [h2]; exact rx_p h1
set_option maxHeartbeats 4000000 in
set_option maxRecDepth 100000 in
theorem lp_R_reasonOf3 {v : Nat} {x : Int32} (hR : is_R S t h) (hJ : S 11 v 0 = nI (st_kd S v)) (hv : v < 20) (hk : st_kd S v < 5) (hQ : st_Q N S) (hN : N < 2 ^ 31) (hI : st_I S) : ∀ (n e : Nat) (y : Int32), e + n = st_nd S → se_W (vG sc) l d mR_reasonOf 122 [some (.ref 41), some (.int (nI v)), some (.int x), some (.int y), some (.int (nI e))] [] h 0 0 (fun u h' => h' = h ∧ u = .inl (some (.int (st_dr S v n e (x - y))))) := by
  intro n
  induction n with
  | zero =>
    intro e y he
    obtain rfl : e = st_nd S := by omega
    refine se_iload (pc := 122) rfl dR_reasonOf_122 ?_
    refine se_aload_n (pc := 124) rfl dR_reasonOf_124 ?_
    refine se_getf (pc := 125) clR 25 dR_reasonOf_125 wd_578 rfl (by decide) hR.1 rfl ?_
    refine se_icmp_ge (pc := 128) (tgt := 188) dR_reasonOf_128 (by decide) (fun q1 => ?_) (fun q1 => absurd q1 (fun z => z (by rw [hI.2.2.1]; exact Int32.le_refl _)))
    refine se_iconst (pc := 188) (-1) (by decide) dR_reasonOf_188 ?_
    exact se_iret (pc := 189) dR_reasonOf_189 rfl ⟨rfl, rfl⟩
  | succ n ih =>
    intro e y he
    have hlt : e < st_nd S := by omega
    have hj : e < 100 := by have := hI.2.2.2.1; omega
    refine se_iload (pc := 122) rfl dR_reasonOf_122 ?_
    refine se_aload_n (pc := 124) rfl dR_reasonOf_124 ?_
    refine se_getf (pc := 125) clR 25 dR_reasonOf_125 wd_578 rfl (by decide) hR.1 rfl ?_
    refine se_icmp_ge (pc := 128) (tgt := 188) dR_reasonOf_128 (by decide) (fun q1 => absurd q1 (by rw [hI.2.2.1]; exact nI_ge hlt (by have := hI.2.2.2.1; omega))) (fun q1 => ?_)
    refine se_aload_n (pc := 131) rfl dR_reasonOf_131 ?_
    refine se_getf (pc := 132) clR 26 dR_reasonOf_132 wd_579 rfl (by decide) hR.1 rfl ?_
    refine se_iload (pc := 135) rfl dR_reasonOf_135 ?_
    refine se_ialdN (pc := 137) 0 dR_reasonOf_137 rfl hR.2.2.2.2.2.2.2.2.2.2.2.2.2.2.2.2.2.2.2.2.2.2.2.1 hj (by decide) ?_
    refine se_iload_n (pc := 138) rfl dR_reasonOf_138 ?_
    refine se_icmp_ne (pc := 139) (tgt := 182) dR_reasonOf_139 (by decide) (fun q2 => ?_) (fun q2 => ?_)
    · refine se_iinc (pc := 182) 1 (by decide) rfl dR_reasonOf_182 [some (.ref 41), some (.int (nI v)), some (.int x), some (.int y), some (.int (nI (e + 1)))] (by rw [nI_1]; rfl) ?_
      refine se_goto (pc := 185) (tgt := 122) dR_reasonOf_185 (by decide) ?_
      have e9 : st_dr S v (n + 1) e (x - y) = st_dr S v n (e + 1) (x - (y)) := by clear ih hR; have hp1 := q_pr hQ e; have hp2 := q_pr2 hQ e; rw [st_dr]; by_cases h21 : S 21 0 e = nI v <;> by_cases h23 : S 23 0 e = 0 <;> simp_all [st_od, rx_1, rx_0]
      rw [e9]
      exact ih (e + 1) _ (by omega)
    · refine se_aload_n (pc := 142) rfl dR_reasonOf_142 ?_
      refine se_getf (pc := 143) clR 28 dR_reasonOf_143 wd_581 rfl (by decide) hR.1 rfl ?_
      refine se_iload (pc := 146) rfl dR_reasonOf_146 ?_
      refine se_ialdN (pc := 148) 0 dR_reasonOf_148 rfl hR.2.2.2.2.2.2.2.2.2.2.2.2.2.2.2.2.2.2.2.2.2.2.2.2.2 hj (by decide) ?_
      refine se_if_le (pc := 149) (tgt := 155) dR_reasonOf_149 (by decide) (fun q3 => ?_) (fun q3 => ?_)
      · refine se_iload_n (pc := 155) rfl dR_reasonOf_155 ?_
        refine se_iload_n (pc := 156) rfl dR_reasonOf_156 ?_
        refine se_icmp_ne (pc := 157) (tgt := 179) dR_reasonOf_157 (by decide) (fun q4 => ?_) (fun q4 => ?_)
        · refine se_iinc (pc := 179) 1 (by decide) rfl dR_reasonOf_179 [some (.ref 41), some (.int (nI v)), some (.int x), some (.int (y + 1)), some (.int (nI e))] rfl ?_
          refine se_iinc (pc := 182) 1 (by decide) rfl dR_reasonOf_182 [some (.ref 41), some (.int (nI v)), some (.int x), some (.int (y + 1)), some (.int (nI (e + 1)))] (by rw [nI_1]; rfl) ?_
          refine se_goto (pc := 185) (tgt := 122) dR_reasonOf_185 (by decide) ?_
          have e9 : st_dr S v (n + 1) e (x - y) = st_dr S v n (e + 1) (x - (y + 1)) := by clear ih hR; have hp1 := q_pr hQ e; have hp2 := q_pr2 hQ e; rw [st_dr]; by_cases h21 : S 21 0 e = nI v <;> by_cases h23 : S 23 0 e = 0 <;> simp_all [st_od, rx_1, rx_0]
          rw [e9]
          exact ih (e + 1) _ (by omega)
        · refine se_sipush (pc := 160) 10000 (by decide) dR_reasonOf_160 ?_
          refine se_aload_n (pc := 163) rfl dR_reasonOf_163 ?_
          refine se_getf (pc := 164) clR 27 dR_reasonOf_164 wd_580 rfl (by decide) hR.1 rfl ?_
          refine se_iload (pc := 167) rfl dR_reasonOf_167 ?_
          refine se_ialdN (pc := 169) 0 dR_reasonOf_169 rfl hR.2.2.2.2.2.2.2.2.2.2.2.2.2.2.2.2.2.2.2.2.2.2.2.2.1 hj (by decide) ?_
          refine se_imul (pc := 170) dR_reasonOf_170 ?_
          refine se_sipush (pc := 171) 1000 (by decide) dR_reasonOf_171 ?_
          refine se_iadd (pc := 174) dR_reasonOf_174 ?_
          refine se_iload (pc := 175) rfl dR_reasonOf_175 ?_
          refine se_iadd (pc := 177) dR_reasonOf_177 ?_
          exact se_iret (pc := 178) dR_reasonOf_178 rfl ⟨rfl, by clear ih hR; have hp1 := q_pr hQ e; have hp2 := q_pr2 hQ e; rw [st_dr]; by_cases h21 : S 21 0 e = nI v <;> by_cases h23 : S 23 0 e = 0 <;> simp_all [st_od, rx_0]⟩
      · refine se_goto (pc := 152) (tgt := 182) dR_reasonOf_152 (by decide) ?_
        refine se_iinc (pc := 182) 1 (by decide) rfl dR_reasonOf_182 [some (.ref 41), some (.int (nI v)), some (.int x), some (.int y), some (.int (nI (e + 1)))] (by rw [nI_1]; rfl) ?_
        refine se_goto (pc := 185) (tgt := 122) dR_reasonOf_185 (by decide) ?_
        have e9 : st_dr S v (n + 1) e (x - y) = st_dr S v n (e + 1) (x - (y)) := by clear ih hR; have hp1 := q_pr hQ e; have hp2 := q_pr2 hQ e; rw [st_dr]; by_cases h21 : S 21 0 e = nI v <;> by_cases h23 : S 23 0 e = 0 <;> simp_all [st_od, rx_1, rx_0]
        rw [e9]
        exact ih (e + 1) _ (by omega)
set_option maxHeartbeats 4000000 in
set_option maxRecDepth 100000 in
theorem lp_R_reasonOf2 {v : Nat} {x : Int32} (hd : 3 ≤ d) (hR : is_R S t h) (hJ : S 11 v 0 = nI (st_kd S v)) (hv : v < 20) (hk : st_kd S v < 5) (hQ : st_Q N S) (hN : N < 2 ^ 31) (hI : st_I S) : ∀ (n e : Nat) (y : Int32), e + n = 10 → se_W (vG sc) l (d + 1) mR_reasonOf 62 [some (.ref 41), some (.int (nI v)), some (.int x), some (.int y), some (.int (nI e))] [] h 0 0 (fun u h' => h' = h ∧ u = .inl (some (.int (st_rK S (st_kd S v) v (fun b => st_dr S v (st_nd S) 0 b) n e (x - y))))) := by
  intro n
  induction n with
  | zero =>
    intro e y he
    obtain rfl : e = 10 := by omega
    refine se_iload (pc := 62) rfl dR_reasonOf_62 ?_
    refine se_bipush (pc := 64) 10 (by decide) dR_reasonOf_64 ?_
    refine se_icmp_ge (pc := 66) (tgt := 119) dR_reasonOf_66 (by decide) (fun q1 => ?_) (fun q1 => absurd q1 (fun z => z (Int32.le_refl _)))
    refine se_iconst (pc := 119) 0 (by decide) dR_reasonOf_119 ?_
    refine se_istore (pc := 120) dR_reasonOf_120 (by decide) [some (.ref 41), some (.int (nI v)), some (.int x), some (.int y), some (.int 0)] rfl ?_
    exact lp_R_reasonOf3 hR hJ hv hk hQ hN hI (st_nd S) 0 y (by omega)
  | succ n ih =>
    intro e y he
    have hj : e < 10 := by omega
    refine se_iload (pc := 62) rfl dR_reasonOf_62 ?_
    refine se_bipush (pc := 64) 10 (by decide) dR_reasonOf_64 ?_
    refine se_icmp_ge (pc := 66) (tgt := 119) dR_reasonOf_66 (by decide) (fun q1 => absurd q1 (nI_ge (b := 10) hj (by decide))) (fun q1 => ?_)
    refine se_aload_n (pc := 69) rfl dR_reasonOf_69 ?_
    refine se_iload_n (pc := 70) rfl dR_reasonOf_70 ?_
    refine se_iload (pc := 71) rfl dR_reasonOf_71 ?_
    refine se_invV (pc := 73) (as := [.int (nI v), .int (nI e)]) (st := []) (vok sc) kR_isSkipped dR_reasonOf_73 ⟨wd_699, wd_701, sl_15, wd_3⟩ rfl hR.1 rfl (Nat.le_of_ble_eq_true rfl) (Nat.le_of_ble_eq_true rfl) (c_R_isSkipped (by omega) hR hJ hv hk hj hQ hN) (C2 := 0) (S2 := 0) (by omega) (by omega) (fun v73 h73 _ q73 => ?_) (fun x hx => absurd hx List.not_mem_nil) (fun v73 h73 _ q73 => ?_)
    rotate_left
    · cases q73.2
    obtain ⟨rfl, q73⟩ := q73
    cases q73
    refine se_if_ne (pc := 76) (tgt := 82) dR_reasonOf_76 (by decide) (fun q2 => ?_) (fun q2 => ?_)
    · refine se_iload_n (pc := 82) rfl dR_reasonOf_82 ?_
      refine se_iload_n (pc := 83) rfl dR_reasonOf_83 ?_
      refine se_icmp_ne (pc := 84) (tgt := 110) dR_reasonOf_84 (by decide) (fun q3 => ?_) (fun q3 => ?_)
      · refine se_iinc (pc := 110) 1 (by decide) rfl dR_reasonOf_110 [some (.ref 41), some (.int (nI v)), some (.int x), some (.int (y + 1)), some (.int (nI e))] rfl ?_
        refine se_iinc (pc := 113) 1 (by decide) rfl dR_reasonOf_113 [some (.ref 41), some (.int (nI v)), some (.int x), some (.int (y + 1)), some (.int (nI (e + 1)))] (by rw [nI_1]; rfl) ?_
        refine se_goto (pc := 116) (tgt := 62) dR_reasonOf_116 (by decide) ?_
        have e9 : st_rK S (st_kd S v) v (fun b => st_dr S v (st_nd S) 0 b) (n + 1) e (x - y) = st_rK S (st_kd S v) v (fun b => st_dr S v (st_nd S) 0 b) n (e + 1) (x - (y + 1)) := by clear ih hR; (try simp only [st_b0] at *); simp_all [st_rK, rx_0, rx_1]
        rw [e9]
        exact ih (e + 1) _ (by omega)
      · refine se_sipush (pc := 87) 10000 (by decide) dR_reasonOf_87 ?_
        refine se_aload_n (pc := 90) rfl dR_reasonOf_90 ?_
        refine se_getf (pc := 91) clR 5 dR_reasonOf_91 wd_558 rfl (by decide) hR.1 rfl ?_
        refine se_aload_n (pc := 94) rfl dR_reasonOf_94 ?_
        refine se_iload_n (pc := 95) rfl dR_reasonOf_95 ?_
        refine se_iload (pc := 96) rfl dR_reasonOf_96 ?_
        refine se_invV (pc := 98) (as := [.int (nI v), .int (nI e)]) (st := [.ref 45, .int 10000]) (vok sc) kR_rule dR_reasonOf_98 ⟨wd_683, wd_685, sl_12, wd_3⟩ rfl hR.1 rfl (Nat.le_of_ble_eq_true rfl) (Nat.le_of_ble_eq_true rfl) (c_R_rule hR hJ hv hk hj) (C2 := 0) (S2 := 0) (by omega) (by omega) (fun v98 h98 _ q98 => ?_) (fun x hx => absurd hx List.not_mem_nil) (fun v98 h98 _ q98 => ?_)
        rotate_left
        · cases q98.2
        obtain ⟨rfl, q98⟩ := q98
        cases q98
        refine se_ialdN (pc := 101) 0 dR_reasonOf_101 rfl hR.2.2.2.2.1 (by omega) (by decide) ?_
        rw [rf_l_at (by omega)]
        refine se_imul (pc := 102) dR_reasonOf_102 ?_
        refine se_bipush (pc := 103) 100 (by decide) dR_reasonOf_103 ?_
        refine se_iadd (pc := 105) dR_reasonOf_105 ?_
        refine se_iload (pc := 106) rfl dR_reasonOf_106 ?_
        refine se_iadd (pc := 108) dR_reasonOf_108 ?_
        exact se_iret (pc := 109) dR_reasonOf_109 rfl ⟨rfl, by clear ih hR; (try simp only [st_b0] at *); simp_all [st_rK, rx_0]⟩
    · refine se_goto (pc := 79) (tgt := 113) dR_reasonOf_79 (by decide) ?_
      refine se_iinc (pc := 113) 1 (by decide) rfl dR_reasonOf_113 [some (.ref 41), some (.int (nI v)), some (.int x), some (.int y), some (.int (nI (e + 1)))] (by rw [nI_1]; rfl) ?_
      refine se_goto (pc := 116) (tgt := 62) dR_reasonOf_116 (by decide) ?_
      have e9 : st_rK S (st_kd S v) v (fun b => st_dr S v (st_nd S) 0 b) (n + 1) e (x - y) = st_rK S (st_kd S v) v (fun b => st_dr S v (st_nd S) 0 b) n (e + 1) (x - (y)) := by clear ih hR; (try simp only [st_b0] at *); simp_all [st_rK, rx_0, rx_1]
      rw [e9]
      exact ih (e + 1) _ (by omega)
set_option maxHeartbeats 4000000 in
set_option maxRecDepth 100000 in
theorem lp_R_reasonOf1 {v : Nat} {x : Int32} (hd : 3 ≤ d) (hR : is_R S t h) (hJ : S 11 v 0 = nI (st_kd S v)) (hv : v < 20) (hk : st_kd S v < 5) (hQ : st_Q N S) (hN : N < 2 ^ 31) (hI : st_I S) : ∀ (n e : Nat) (y : Int32), e + n = 10 → se_W (vG sc) l (d + 1) mR_reasonOf 5 [some (.ref 41), some (.int (nI v)), some (.int x), some (.int y), some (.int (nI e))] [] h 0 0 (fun u h' => h' = h ∧ u = .inl (some (.int (st_rF S (st_kd S v) v (fun b => st_rK S (st_kd S v) v (fun b => st_dr S v (st_nd S) 0 b) 10 0 b) n e (x - y))))) := by
  intro n
  induction n with
  | zero =>
    intro e y he
    obtain rfl : e = 10 := by omega
    refine se_iload (pc := 5) rfl dR_reasonOf_5 ?_
    refine se_bipush (pc := 7) 10 (by decide) dR_reasonOf_7 ?_
    refine se_icmp_ge (pc := 9) (tgt := 59) dR_reasonOf_9 (by decide) (fun q1 => ?_) (fun q1 => absurd q1 (fun z => z (Int32.le_refl _)))
    refine se_iconst (pc := 59) 0 (by decide) dR_reasonOf_59 ?_
    refine se_istore (pc := 60) dR_reasonOf_60 (by decide) [some (.ref 41), some (.int (nI v)), some (.int x), some (.int y), some (.int 0)] rfl ?_
    exact lp_R_reasonOf2 hd hR hJ hv hk hQ hN hI 10 0 y rfl
  | succ n ih =>
    intro e y he
    have hj : e < 10 := by omega
    refine se_iload (pc := 5) rfl dR_reasonOf_5 ?_
    refine se_bipush (pc := 7) 10 (by decide) dR_reasonOf_7 ?_
    refine se_icmp_ge (pc := 9) (tgt := 59) dR_reasonOf_9 (by decide) (fun q1 => absurd q1 (nI_ge (b := 10) hj (by decide))) (fun q1 => ?_)
    refine se_aload_n (pc := 12) rfl dR_reasonOf_12 ?_
    refine se_iload_n (pc := 13) rfl dR_reasonOf_13 ?_
    refine se_iload (pc := 14) rfl dR_reasonOf_14 ?_
    refine se_invV (pc := 16) (as := [.int (nI v), .int (nI e)]) (st := []) (vok sc) kR_fails dR_reasonOf_16 ⟨wd_695, wd_697, sl_14, wd_3⟩ rfl hR.1 rfl (Nat.le_of_ble_eq_true rfl) (Nat.le_of_ble_eq_true rfl) (c_R_fails (by omega) hR hJ hv hk hj) (C2 := 0) (S2 := 0) (by omega) (by omega) (fun v16 h16 _ q16 => ?_) (fun x hx => absurd hx List.not_mem_nil) (fun v16 h16 _ q16 => ?_)
    rotate_left
    · cases q16.2
    obtain ⟨rfl, q16⟩ := q16
    cases q16
    refine se_if_ne (pc := 19) (tgt := 25) dR_reasonOf_19 (by decide) (fun q2 => ?_) (fun q2 => ?_)
    · refine se_iload_n (pc := 25) rfl dR_reasonOf_25 ?_
      refine se_iload_n (pc := 26) rfl dR_reasonOf_26 ?_
      refine se_icmp_ne (pc := 27) (tgt := 50) dR_reasonOf_27 (by decide) (fun q3 => ?_) (fun q3 => ?_)
      · refine se_iinc (pc := 50) 1 (by decide) rfl dR_reasonOf_50 [some (.ref 41), some (.int (nI v)), some (.int x), some (.int (y + 1)), some (.int (nI e))] rfl ?_
        refine se_iinc (pc := 53) 1 (by decide) rfl dR_reasonOf_53 [some (.ref 41), some (.int (nI v)), some (.int x), some (.int (y + 1)), some (.int (nI (e + 1)))] (by rw [nI_1]; rfl) ?_
        refine se_goto (pc := 56) (tgt := 5) dR_reasonOf_56 (by decide) ?_
        have e9 : st_rF S (st_kd S v) v (fun b => st_rK S (st_kd S v) v (fun b => st_dr S v (st_nd S) 0 b) 10 0 b) (n + 1) e (x - y) = st_rF S (st_kd S v) v (fun b => st_rK S (st_kd S v) v (fun b => st_dr S v (st_nd S) 0 b) 10 0 b) n (e + 1) (x - (y + 1)) := by clear ih hR; (try simp only [st_b0] at *); simp_all [st_rF, rx_0, rx_1]
        rw [e9]
        exact ih (e + 1) _ (by omega)
      · refine se_sipush (pc := 30) 10000 (by decide) dR_reasonOf_30 ?_
        refine se_aload_n (pc := 33) rfl dR_reasonOf_33 ?_
        refine se_getf (pc := 34) clR 5 dR_reasonOf_34 wd_558 rfl (by decide) hR.1 rfl ?_
        refine se_aload_n (pc := 37) rfl dR_reasonOf_37 ?_
        refine se_iload_n (pc := 38) rfl dR_reasonOf_38 ?_
        refine se_iload (pc := 39) rfl dR_reasonOf_39 ?_
        refine se_invV (pc := 41) (as := [.int (nI v), .int (nI e)]) (st := [.ref 45, .int 10000]) (vok sc) kR_rule dR_reasonOf_41 ⟨wd_683, wd_685, sl_12, wd_3⟩ rfl hR.1 rfl (Nat.le_of_ble_eq_true rfl) (Nat.le_of_ble_eq_true rfl) (c_R_rule hR hJ hv hk hj) (C2 := 0) (S2 := 0) (by omega) (by omega) (fun v41 h41 _ q41 => ?_) (fun x hx => absurd hx List.not_mem_nil) (fun v41 h41 _ q41 => ?_)
        rotate_left
        · cases q41.2
        obtain ⟨rfl, q41⟩ := q41
        cases q41
        refine se_ialdN (pc := 44) 0 dR_reasonOf_44 rfl hR.2.2.2.2.1 (by omega) (by decide) ?_
        rw [rf_l_at (by omega)]
        refine se_imul (pc := 45) dR_reasonOf_45 ?_
        refine se_iload (pc := 46) rfl dR_reasonOf_46 ?_
        refine se_iadd (pc := 48) dR_reasonOf_48 ?_
        exact se_iret (pc := 49) dR_reasonOf_49 rfl ⟨rfl, by clear ih hR; (try simp only [st_b0] at *); simp_all [st_rF, rx_0]⟩
    · refine se_goto (pc := 22) (tgt := 53) dR_reasonOf_22 (by decide) ?_
      refine se_iinc (pc := 53) 1 (by decide) rfl dR_reasonOf_53 [some (.ref 41), some (.int (nI v)), some (.int x), some (.int y), some (.int (nI (e + 1)))] (by rw [nI_1]; rfl) ?_
      refine se_goto (pc := 56) (tgt := 5) dR_reasonOf_56 (by decide) ?_
      have e9 : st_rF S (st_kd S v) v (fun b => st_rK S (st_kd S v) v (fun b => st_dr S v (st_nd S) 0 b) 10 0 b) (n + 1) e (x - y) = st_rF S (st_kd S v) v (fun b => st_rK S (st_kd S v) v (fun b => st_dr S v (st_nd S) 0 b) 10 0 b) n (e + 1) (x - (y)) := by clear ih hR; (try simp only [st_b0] at *); simp_all [st_rF, rx_0, rx_1]
      rw [e9]
      exact ih (e + 1) _ (by omega)
set_option maxHeartbeats 4000000 in
set_option maxRecDepth 100000 in
theorem c_R_reasonOf {v : Nat} {x : Int32} (hd : 4 ≤ d) (hR : is_R S t h) (hJ : S 11 v 0 = nI (st_kd S v)) (hv : v < 20) (hk : st_kd S v < 5) (hQ : st_Q N S) (hN : N < 2 ^ 31) (hI : st_I S) : se_W (vG sc) l d mR_reasonOf 0 (se_ent 5 [.ref 41, .int (nI v), .int x]) [] h 0 0 (fun u h' => h' = h ∧ u = .inl (some (.int (st_re S (st_kd S v) v x)))) := by
  obtain ⟨d, rfl⟩ : ∃ e, d = e + 1 := ⟨d - 1, by omega⟩
  show se_W (vG sc) l (d + 1) mR_reasonOf 0 [some (.ref 41), some (.int (nI v)), some (.int x), none, none] [] h 0 0 _
  refine se_iconst (pc := 0) 0 (by decide) dR_reasonOf_0 ?_
  refine se_istore_n (pc := 1) dR_reasonOf_1 (by decide) [some (.ref 41), some (.int (nI v)), some (.int x), some (.int 0), none] rfl ?_
  refine se_iconst (pc := 2) 0 (by decide) dR_reasonOf_2 ?_
  refine se_istore (pc := 3) dR_reasonOf_3 (by decide) [some (.ref 41), some (.int (nI v)), some (.int x), some (.int 0), some (.int 0)] rfl ?_
  have e9 := lp_R_reasonOf1 (x := x) (by omega) hR hJ hv hk hQ hN hI 10 0 0 rfl (sc := sc) (l := l) (d := d)
  rw [Int32.sub_zero] at e9
  exact e9
set_option maxHeartbeats 4000000 in
set_option maxRecDepth 100000 in
theorem lp_R_isRunning {v : Nat} (hd : 5 ≤ d) (hR : is_R S t h) (hJ : S 11 v 0 = nI (st_kd S v)) (hv : v < 20) (hk : st_kd S v < 5) (hQ : st_Q N S) (hN : N < 2 ^ 31) (hI : st_I S) : ∀ (L2 L1 : List Int32) (s : Nat), rs_L S (st_kd S v) v = L1 ++ L2 → s ≤ L1.length → se_W (vG sc) l d mR_isRunning 12 [some (.ref 41), some (.int (nI v)), some (.int (nI s)), some (.int (nI L1.length)), some (.int (rs_n L2 0))] [] h 0 0 (fun u h' => h' = h ∧ u = .inl (some (.int (st_b (rs_R (decide (S 14 v 0 = 0)) L2 s))))) := by
  obtain ⟨d, rfl⟩ : ∃ e, d = e + 1 := ⟨d - 1, by omega⟩
  intro L2
  induction L2 with
  | nil =>
    intro L1 s hL hs
    have hlen : L1.length ≤ 120 := by have := rs_len (k := st_kd S v) (v := v) hI.2.2.2.1; rw [hL] at this; simpa using this
    have h2 : (2 ≤ nI s) ↔ ¬ s < 2 := by rw [show (2 : Int32) = nI 2 from rfl, nI_leI (by decide) (by omega)]; omega
    show se_W (vG sc) l (d + 1) mR_isRunning 12 [some (.ref 41), some (.int (nI v)), some (.int (nI s)), some (.int (nI L1.length)), some (.int (-1))] [] h 0 0 _
    refine se_iload (pc := 12) rfl dR_isRunning_12 ?_
    refine se_if_lt (pc := 14) (tgt := 52) dR_isRunning_14 (by decide) (fun q1 => ?_) (fun q1 => absurd q1 (by decide))
    refine se_aload_n (pc := 52) rfl dR_isRunning_52 ?_
    refine se_getf (pc := 53) clR 11 dR_isRunning_53 wd_564 rfl (by decide) hR.1 rfl ?_
    refine se_iload_n (pc := 56) rfl dR_isRunning_56 ?_
    refine se_zaldN (pc := 57) 1 dR_isRunning_57 rfl hR.2.2.2.2.2.2.2.2.2.1 hv (by decide) ?_
    rw [rf_v_at]
    refine se_if_ne (pc := 58) (tgt := 70) dR_isRunning_58 (by decide) (fun q2 => ?_) (fun q2 => ?_)
    · refine se_iconst (pc := 70) 0 (by decide) dR_isRunning_70 ?_
      exact se_zret (pc := 71) dR_isRunning_71 rfl (by decide) ⟨rfl, by clear hR hL; simp_all [rs_R, st_b]⟩
    · refine se_iload_n (pc := 61) rfl dR_isRunning_61 ?_
      refine se_iconst (pc := 62) 2 (by decide) dR_isRunning_62 ?_
      refine se_icmp_ge (pc := 63) (tgt := 70) dR_isRunning_63 (by decide) (fun q3 => ?_) (fun q3 => ?_)
      · refine se_iconst (pc := 70) 0 (by decide) dR_isRunning_70 ?_
        exact se_zret (pc := 71) dR_isRunning_71 rfl (by decide) ⟨rfl, by clear hR hL; simp_all [rs_R, st_b]⟩
      · refine se_iconst (pc := 66) 1 (by decide) dR_isRunning_66 ?_
        refine se_goto (pc := 67) (tgt := 71) dR_isRunning_67 (by decide) ?_
        exact se_zret (pc := 71) dR_isRunning_71 rfl (by decide) ⟨rfl, by clear hR hL; simp_all [rs_R, st_b]⟩
  | cons a L2 ih =>
    intro L1 s hL hs
    have hlen : L1.length + L2.length + 1 ≤ 120 := by have := rs_len (k := st_kd S v) (v := v) hI.2.2.2.1; rw [hL] at this; simp at this; omega
    have hok : rs_ok a := rs_allok hQ hI.2.2.2.1 a (by rw [hL]; simp)
    have ha0 : ¬ a < 0 := by obtain ⟨g, r, g1, g2, r1, e⟩ := hok; rw [e]; exact nI_pos (by omega)
    have hL2 : rs_L S (st_kd S v) v = (L1 ++ [a]) ++ L2 := by rw [hL]; simp
    have er : st_re S (st_kd S v) v (nI (L1.length + 1)) = rs_n L2 0 := by rw [re_L, hL2]; have := rs_at (L2 := L2) (L1 ++ [a]) (by simp; omega); rw [List.length_append] at this; exact this
    have el : (L1 ++ [a]).length = L1.length + 1 := by simp
    show se_W (vG sc) l (d + 1) mR_isRunning 12 [some (.ref 41), some (.int (nI v)), some (.int (nI s)), some (.int (nI L1.length)), some (.int a)] [] h 0 0 _
    refine se_iload (pc := 12) rfl dR_isRunning_12 ?_
    refine se_if_lt (pc := 14) (tgt := 52) dR_isRunning_14 (by decide) (fun q1 => absurd q1 ha0) (fun q1 => ?_)
    refine se_iload (pc := 17) rfl dR_isRunning_17 ?_
    refine se_sipush (pc := 19) 30000 (by decide) dR_isRunning_19 ?_
    refine se_icmp_lt (pc := 22) (tgt := 27) dR_isRunning_22 (by decide) (fun q2 => ?_) (fun q2 => ?_)
    · refine se_iload (pc := 27) rfl dR_isRunning_27 ?_
      refine se_sipush (pc := 29) 20000 (by decide) dR_isRunning_29 ?_
      refine se_icmp_lt (pc := 32) (tgt := 38) dR_isRunning_32 (by decide) (fun q3 => ?_) (fun q3 => ?_)
      · refine se_iinc (pc := 38) 1 (by decide) rfl dR_isRunning_38 [some (.ref 41), some (.int (nI v)), some (.int (nI s)), some (.int (nI (L1.length + 1))), some (.int a)] (by rw [nI_1]; rfl) ?_
        refine se_aload_n (pc := 41) rfl dR_isRunning_41 ?_
        refine se_iload_n (pc := 42) rfl dR_isRunning_42 ?_
        refine se_iload_n (pc := 43) rfl dR_isRunning_43 ?_
        refine se_invV (pc := 44) (as := [.int (nI v), .int (nI (L1.length + 1))]) (st := []) (vok sc) kR_reasonOf dR_isRunning_44 ⟨wd_707, wd_709, sl_16, wd_3⟩ rfl hR.1 rfl (Nat.le_of_ble_eq_true rfl) (Nat.le_of_ble_eq_true rfl) (c_R_reasonOf (by omega) hR hJ hv hk hQ hN hI) (C2 := 0) (S2 := 0) (by omega) (by omega) (fun v44 h44 _ q44 => ?_) (fun x hx => absurd hx List.not_mem_nil) (fun v44 h44 _ q44 => ?_)
        rotate_left
        · cases q44.2
        obtain ⟨rfl, q44⟩ := q44
        cases q44
        refine se_istore (pc := 47) dR_isRunning_47 (by decide) [some (.ref 41), some (.int (nI v)), some (.int (nI s)), some (.int (nI (L1.length + 1))), some (.int (st_re S (st_kd S v) v (nI (L1.length + 1))))] rfl ?_
        refine se_goto (pc := 49) (tgt := 12) dR_isRunning_49 (by decide) ?_
        have e9 : rs_R (decide (S 14 v 0 = 0)) (a :: L2) s = rs_R (decide (S 14 v 0 = 0)) L2 (s) := by clear ih hR hL hL2 er; first | (simp_all [rs_R]; done) | (rw [rs_R, if_neg (Int32.not_le.mpr (show a < 30000 by assumption)), if_neg (Int32.not_le.mpr (show a < 20000 by assumption))])
        rw [e9, er, ← el]
        exact ih (L1 ++ [a]) (s) hL2 (by simp; omega)
      · refine se_iinc (pc := 35) 1 (by decide) rfl dR_isRunning_35 [some (.ref 41), some (.int (nI v)), some (.int (nI (s + 1))), some (.int (nI L1.length)), some (.int a)] (by rw [nI_1]; rfl) ?_
        refine se_iinc (pc := 38) 1 (by decide) rfl dR_isRunning_38 [some (.ref 41), some (.int (nI v)), some (.int (nI (s + 1))), some (.int (nI (L1.length + 1))), some (.int a)] (by rw [nI_1]; rfl) ?_
        refine se_aload_n (pc := 41) rfl dR_isRunning_41 ?_
        refine se_iload_n (pc := 42) rfl dR_isRunning_42 ?_
        refine se_iload_n (pc := 43) rfl dR_isRunning_43 ?_
        refine se_invV (pc := 44) (as := [.int (nI v), .int (nI (L1.length + 1))]) (st := []) (vok sc) kR_reasonOf dR_isRunning_44 ⟨wd_707, wd_709, sl_16, wd_3⟩ rfl hR.1 rfl (Nat.le_of_ble_eq_true rfl) (Nat.le_of_ble_eq_true rfl) (c_R_reasonOf (by omega) hR hJ hv hk hQ hN hI) (C2 := 0) (S2 := 0) (by omega) (by omega) (fun v44 h44 _ q44 => ?_) (fun x hx => absurd hx List.not_mem_nil) (fun v44 h44 _ q44 => ?_)
        rotate_left
        · cases q44.2
        obtain ⟨rfl, q44⟩ := q44
        cases q44
        refine se_istore (pc := 47) dR_isRunning_47 (by decide) [some (.ref 41), some (.int (nI v)), some (.int (nI (s + 1))), some (.int (nI (L1.length + 1))), some (.int (st_re S (st_kd S v) v (nI (L1.length + 1))))] rfl ?_
        refine se_goto (pc := 49) (tgt := 12) dR_isRunning_49 (by decide) ?_
        have e9 : rs_R (decide (S 14 v 0 = 0)) (a :: L2) s = rs_R (decide (S 14 v 0 = 0)) L2 ((s + 1)) := by clear ih hR hL hL2 er; first | (simp_all [rs_R]; done) | (rw [rs_R, if_neg (Int32.not_le.mpr (show a < 30000 by assumption)), if_neg (Int32.not_le.mpr (show a < 20000 by assumption))])
        rw [e9, er, ← el]
        exact ih (L1 ++ [a]) ((s + 1)) hL2 (by simp; omega)
    · refine se_iconst (pc := 25) 0 (by decide) dR_isRunning_25 ?_
      exact se_zret (pc := 26) dR_isRunning_26 rfl (by decide) ⟨rfl, by clear ih hR hL hL2 er; simp_all [rs_R, st_b]⟩
set_option maxHeartbeats 4000000 in
set_option maxRecDepth 100000 in
theorem c_R_isRunning {v : Nat} (hd : 6 ≤ d) (hR : is_R S t h) (hJ : S 11 v 0 = nI (st_kd S v)) (hv : v < 20) (hk : st_kd S v < 5) (hQ : st_Q N S) (hN : N < 2 ^ 31) (hI : st_I S) : se_W (vG sc) l d mR_isRunning 0 (se_ent 5 [.ref 41, .int (nI v)]) [] h 0 0 (fun u h' => h' = h ∧ u = .inl (some (.int (st_b (st_ru S (st_kd S v) v))))) := by
  obtain ⟨d, rfl⟩ : ∃ e, d = e + 1 := ⟨d - 1, by omega⟩
  show se_W (vG sc) l (d + 1) mR_isRunning 0 [some (.ref 41), some (.int (nI v)), none, none, none] [] h 0 0 _
  refine se_iconst (pc := 0) 0 (by decide) dR_isRunning_0 ?_
  refine se_istore_n (pc := 1) dR_isRunning_1 (by decide) [some (.ref 41), some (.int (nI v)), some (.int 0), none, none] rfl ?_
  refine se_iconst (pc := 2) 0 (by decide) dR_isRunning_2 ?_
  refine se_istore_n (pc := 3) dR_isRunning_3 (by decide) [some (.ref 41), some (.int (nI v)), some (.int 0), some (.int 0), none] rfl ?_
  refine se_aload_n (pc := 4) rfl dR_isRunning_4 ?_
  refine se_iload_n (pc := 5) rfl dR_isRunning_5 ?_
  refine se_iconst (pc := 6) 0 (by decide) dR_isRunning_6 ?_
  refine se_invV (pc := 7) (as := [.int (nI v), .int 0]) (st := []) (vok sc) kR_reasonOf dR_isRunning_7 ⟨wd_707, wd_709, sl_16, wd_3⟩ rfl hR.1 rfl (Nat.le_of_ble_eq_true rfl) (Nat.le_of_ble_eq_true rfl) (c_R_reasonOf (by omega) hR hJ hv hk hQ hN hI) (C2 := 0) (S2 := 0) (by omega) (by omega) (fun v7 h7 _ q7 => ?_) (fun x hx => absurd hx List.not_mem_nil) (fun v7 h7 _ q7 => ?_)
  rotate_left
  · cases q7.2
  obtain ⟨rfl, q7⟩ := q7
  cases q7
  refine se_istore (pc := 10) dR_isRunning_10 (by decide) [some (.ref 41), some (.int (nI v)), some (.int 0), some (.int 0), some (.int (st_re S (st_kd S v) v 0))] rfl ?_
  rw [ru_R hQ hI.2.2.2.1, re_L]
  exact lp_R_isRunning (by omega) hR hJ hv hk hQ hN hI (rs_L S (st_kd S v) v) [] 0 rfl (Nat.le_refl _)
end REF2
