section LOOPS
variable {sc : List (Nat × Nat × (Nat → Int32))} {l : Launch} {d : Nat} {h : se_H}
set_option maxHeartbeats 1000000 in
set_option maxRecDepth 100000 in
theorem lp_V_checksWeight {a b k v : Nat} {S : st_S} {x : Int32} (hd : 1 ≤ d) (hV : is_V h a b S v) (hK : is_K h b S k) : ∀ (n : Nat) (i : Nat) (z : Option Value), i + n = 10 → se_W (vG sc) l (d + 1) mV_checksWeight 4 [some (.ref a), some (.int x), some (.int (st_w1 S k v x i)), some (.int (nI i)), z] [] h 0 0 (fun o h' => h' = h ∧ o = .inl (some (.int (st_w1 S k v x 10)))) := by
  intro n
  induction n with
  | zero =>
    intro i z hi
    obtain rfl : i = 10 := by omega
    refine se_iload_n (pc := 4) rfl dV_checksWeight_4 ?_
    refine se_bipush (pc := 5) 10 (by decide) dV_checksWeight_5 ?_
    refine se_icmp_ge (pc := 7) (tgt := 56) dV_checksWeight_7 (by decide) (fun q1 => ?_) (fun q1 => absurd q1 (fun z => z (Int32.le_refl _)))
    refine se_iload_n (pc := 56) rfl dV_checksWeight_56 ?_
    exact se_iret (pc := 57) dV_checksWeight_57 rfl ⟨rfl, rfl⟩
  | succ n ih =>
    intro i z hi
    have hj : i < 10 := by omega
    refine se_iload_n (pc := 4) rfl dV_checksWeight_4 ?_
    refine se_bipush (pc := 5) 10 (by decide) dV_checksWeight_5 ?_
    refine se_icmp_ge (pc := 7) (tgt := 56) dV_checksWeight_7 (by decide) (fun q1 => absurd q1 (nI_ge (b := 10) hj (by decide))) (fun q1 => ?_)
    refine se_aload_n (pc := 10) rfl dV_checksWeight_10 ?_
    refine se_getf (pc := 11) clV 1 dV_checksWeight_11 wd_188 rfl (by decide) hV.1 rfl ?_
    refine se_getf (pc := 14) clK 3 dV_checksWeight_14 wd_34 rfl (by decide) hK.1 rfl ?_
    refine se_iload_n (pc := 17) rfl dV_checksWeight_17 ?_
    refine se_ialdN (pc := 18) 0 dV_checksWeight_18 rfl hK.2.2.2.2.1 hj (by decide) ?_
    refine se_iconst (pc := 19) 1 (by decide) dV_checksWeight_19 ?_
    refine se_isub (pc := 20) dV_checksWeight_20 ?_
    refine se_istore (pc := 21) dV_checksWeight_21 (by decide) [some (.ref a), some (.int x), some (.int (st_w1 S k v x i)), some (.int (nI i)), some (.int ((S 3 k i) - 1))] rfl ?_
    refine se_aload_n (pc := 23) rfl dV_checksWeight_23 ?_
    refine se_iload_n (pc := 24) rfl dV_checksWeight_24 ?_
    refine se_invV (pc := 25) (as := [.int (nI i)]) (st := []) (vok sc) kV_hasFailed dV_checksWeight_25 ⟨wd_370, wd_345, wd_346, wd_9⟩ rfl hV.1 rfl (Nat.le_of_ble_eq_true rfl) (Nat.le_of_ble_eq_true rfl) (c_V_hasFailed hd hV hK hj) (C2 := 0) (S2 := 0) (by omega) (by omega) (fun v25 h25 _ q25 => ?_) (fun x hx => absurd hx List.not_mem_nil) (fun v25 h25 _ q25 => ?_)
    rotate_left
    · cases q25.2
    obtain ⟨rfl, q25⟩ := q25
    cases q25
    refine se_if_eq (pc := 28) (tgt := 36) dV_checksWeight_28 (by decide) (fun q2 => ?_) (fun q2 => ?_)
    · refine se_aload_n (pc := 36) rfl dV_checksWeight_36 ?_
      refine se_iload_n (pc := 37) rfl dV_checksWeight_37 ?_
      refine se_iload_n (pc := 38) rfl dV_checksWeight_38 ?_
      refine se_invV (pc := 39) (as := [.int (nI i), .int x]) (st := []) (vok sc) kV_hasSkipped dV_checksWeight_39 ⟨wd_371, wd_350, wd_351, wd_9⟩ rfl hV.1 rfl (Nat.le_of_ble_eq_true rfl) (Nat.le_of_ble_eq_true rfl) (c_V_hasSkipped hV hK hj) (C2 := 0) (S2 := 0) (by omega) (by omega) (fun v39 h39 _ q39 => ?_) (fun x hx => absurd hx List.not_mem_nil) (fun v39 h39 _ q39 => ?_)
      rotate_left
      · cases q39.2
      obtain ⟨rfl, q39⟩ := q39
      cases q39
      refine se_if_eq (pc := 42) (tgt := 50) dV_checksWeight_42 (by decide) (fun q3 => ?_) (fun q3 => ?_)
      · refine se_iinc (pc := 50) 1 (by decide) rfl dV_checksWeight_50 [some (.ref a), some (.int x), some (.int (st_w1 S k v x i)), some (.int (nI (i + 1))), some (.int ((S 3 k i) - 1))] (by rw [nI_1]; rfl) ?_
        refine se_goto (pc := 53) (tgt := 4) dV_checksWeight_53 (by decide) ?_
        have e9 : st_w1 S k v x i = st_w1 S k v x (i + 1) := by clear ih hV hK; simp only [st_b0] at *; simp_all [st_w1]
        rw [e9]
        exact ih (i + 1) _ (by omega)
      · refine se_iload_n (pc := 45) rfl dV_checksWeight_45 ?_
        refine se_iload (pc := 46) rfl dV_checksWeight_46 ?_
        refine se_iadd (pc := 48) dV_checksWeight_48 ?_
        refine se_istore_n (pc := 49) dV_checksWeight_49 (by decide) [some (.ref a), some (.int x), some (.int ((st_w1 S k v x i) + ((S 3 k i) - 1))), some (.int (nI i)), some (.int ((S 3 k i) - 1))] rfl ?_
        refine se_iinc (pc := 50) 1 (by decide) rfl dV_checksWeight_50 [some (.ref a), some (.int x), some (.int ((st_w1 S k v x i) + ((S 3 k i) - 1))), some (.int (nI (i + 1))), some (.int ((S 3 k i) - 1))] (by rw [nI_1]; rfl) ?_
        refine se_goto (pc := 53) (tgt := 4) dV_checksWeight_53 (by decide) ?_
        have e9 : (st_w1 S k v x i) + ((S 3 k i) - 1) = st_w1 S k v x (i + 1) := by clear ih hV hK; simp only [st_b0] at *; simp_all [st_w1]
        rw [e9]
        exact ih (i + 1) _ (by omega)
    · refine se_iload_n (pc := 31) rfl dV_checksWeight_31 ?_
      refine se_iload (pc := 32) rfl dV_checksWeight_32 ?_
      refine se_iadd (pc := 34) dV_checksWeight_34 ?_
      refine se_istore_n (pc := 35) dV_checksWeight_35 (by decide) [some (.ref a), some (.int x), some (.int ((st_w1 S k v x i) + ((S 3 k i) - 1))), some (.int (nI i)), some (.int ((S 3 k i) - 1))] rfl ?_
      refine se_aload_n (pc := 36) rfl dV_checksWeight_36 ?_
      refine se_iload_n (pc := 37) rfl dV_checksWeight_37 ?_
      refine se_iload_n (pc := 38) rfl dV_checksWeight_38 ?_
      refine se_invV (pc := 39) (as := [.int (nI i), .int x]) (st := []) (vok sc) kV_hasSkipped dV_checksWeight_39 ⟨wd_371, wd_350, wd_351, wd_9⟩ rfl hV.1 rfl (Nat.le_of_ble_eq_true rfl) (Nat.le_of_ble_eq_true rfl) (c_V_hasSkipped hV hK hj) (C2 := 0) (S2 := 0) (by omega) (by omega) (fun v39 h39 _ q39 => ?_) (fun x hx => absurd hx List.not_mem_nil) (fun v39 h39 _ q39 => ?_)
      rotate_left
      · cases q39.2
      obtain ⟨rfl, q39⟩ := q39
      cases q39
      refine se_if_eq (pc := 42) (tgt := 50) dV_checksWeight_42 (by decide) (fun q4 => ?_) (fun q4 => ?_)
      · refine se_iinc (pc := 50) 1 (by decide) rfl dV_checksWeight_50 [some (.ref a), some (.int x), some (.int ((st_w1 S k v x i) + ((S 3 k i) - 1))), some (.int (nI (i + 1))), some (.int ((S 3 k i) - 1))] (by rw [nI_1]; rfl) ?_
        refine se_goto (pc := 53) (tgt := 4) dV_checksWeight_53 (by decide) ?_
        have e9 : (st_w1 S k v x i) + ((S 3 k i) - 1) = st_w1 S k v x (i + 1) := by clear ih hV hK; simp only [st_b0] at *; simp_all [st_w1]
        rw [e9]
        exact ih (i + 1) _ (by omega)
      · refine se_iload_n (pc := 45) rfl dV_checksWeight_45 ?_
        refine se_iload (pc := 46) rfl dV_checksWeight_46 ?_
        refine se_iadd (pc := 48) dV_checksWeight_48 ?_
        refine se_istore_n (pc := 49) dV_checksWeight_49 (by decide) [some (.ref a), some (.int x), some (.int (((st_w1 S k v x i) + ((S 3 k i) - 1)) + ((S 3 k i) - 1))), some (.int (nI i)), some (.int ((S 3 k i) - 1))] rfl ?_
        refine se_iinc (pc := 50) 1 (by decide) rfl dV_checksWeight_50 [some (.ref a), some (.int x), some (.int (((st_w1 S k v x i) + ((S 3 k i) - 1)) + ((S 3 k i) - 1))), some (.int (nI (i + 1))), some (.int ((S 3 k i) - 1))] (by rw [nI_1]; rfl) ?_
        refine se_goto (pc := 53) (tgt := 4) dV_checksWeight_53 (by decide) ?_
        have e9 : ((st_w1 S k v x i) + ((S 3 k i) - 1)) + ((S 3 k i) - 1) = st_w1 S k v x (i + 1) := by clear ih hV hK; simp only [st_b0] at *; simp_all [st_w1]
        rw [e9]
        exact ih (i + 1) _ (by omega)
set_option maxHeartbeats 1000000 in
set_option maxRecDepth 100000 in
theorem c_V_checksWeight {a b k v : Nat} {S : st_S} {x : Int32} (hd : 2 ≤ d) (hV : is_V h a b S v) (hK : is_K h b S k) : se_W (vG sc) l d mV_checksWeight 0 (se_ent 5 [.ref a, .int x]) [] h 0 0 (fun o h' => h' = h ∧ o = .inl (some (.int (st_w1 S k v x 10)))) := by
  obtain ⟨d, rfl⟩ : ∃ e, d = e + 1 := ⟨d - 1, by omega⟩
  show se_W (vG sc) l (d + 1) mV_checksWeight 0 [some (.ref a), some (.int x), none, none, none] [] h 0 0 _
  refine se_iconst (pc := 0) 0 (by decide) dV_checksWeight_0 ?_
  refine se_istore_n (pc := 1) dV_checksWeight_1 (by decide) [some (.ref a), some (.int x), some (.int 0), none, none] rfl ?_
  refine se_iconst (pc := 2) 0 (by decide) dV_checksWeight_2 ?_
  refine se_istore_n (pc := 3) dV_checksWeight_3 (by decide) [some (.ref a), some (.int x), some (.int 0), some (.int 0), none] rfl ?_
  exact lp_V_checksWeight (by omega) hV hK 10 0 _ rfl
set_option maxHeartbeats 1000000 in
set_option maxRecDepth 100000 in
theorem lp_V_lowestLacking {a b k v : Nat} {S : st_S} (hV : is_V h a b S v) (hK : is_K h b S k) : ∀ (n : Nat) (i : Nat), i + n = 10 → se_W (vG sc) l d mV_lowestLacking 2 [some (.ref a), some (.int (nI i))] [] h 0 0 (fun o h' => h' = h ∧ o = .inl (some (.int (st_ll S k v n i)))) := by
  intro n
  induction n with
  | zero =>
    intro i hi
    obtain rfl : i = 10 := by omega
    refine se_iload_n (pc := 2) rfl dV_lowestLacking_2 ?_
    refine se_bipush (pc := 3) 10 (by decide) dV_lowestLacking_3 ?_
    refine se_icmp_ge (pc := 5) (tgt := 34) dV_lowestLacking_5 (by decide) (fun q1 => ?_) (fun q1 => absurd q1 (fun z => z (Int32.le_refl _)))
    refine se_iconst (pc := 34) (-1) (by decide) dV_lowestLacking_34 ?_
    exact se_iret (pc := 35) dV_lowestLacking_35 rfl ⟨rfl, rfl⟩
  | succ n ih =>
    intro i hi
    have hj : i < 10 := by omega
    refine se_iload_n (pc := 2) rfl dV_lowestLacking_2 ?_
    refine se_bipush (pc := 3) 10 (by decide) dV_lowestLacking_3 ?_
    refine se_icmp_ge (pc := 5) (tgt := 34) dV_lowestLacking_5 (by decide) (fun q1 => absurd q1 (nI_ge (b := 10) hj (by decide))) (fun q1 => ?_)
    refine se_aload_n (pc := 8) rfl dV_lowestLacking_8 ?_
    refine se_getf (pc := 9) clV 4 dV_lowestLacking_9 wd_193 rfl (by decide) hV.1 rfl ?_
    refine se_iload_n (pc := 12) rfl dV_lowestLacking_12 ?_
    refine se_ialdN (pc := 13) 0 dV_lowestLacking_13 rfl hV.2.1 hj (by decide) ?_
    refine se_aload_n (pc := 14) rfl dV_lowestLacking_14 ?_
    refine se_getf (pc := 15) clV 1 dV_lowestLacking_15 wd_188 rfl (by decide) hV.1 rfl ?_
    refine se_getf (pc := 18) clK 5 dV_lowestLacking_18 wd_39 rfl (by decide) hK.1 rfl ?_
    refine se_iload_n (pc := 21) rfl dV_lowestLacking_21 ?_
    refine se_ialdN (pc := 22) 0 dV_lowestLacking_22 rfl hK.2.2.2.2.2.2 hj (by decide) ?_
    refine se_icmp_ge (pc := 23) (tgt := 28) dV_lowestLacking_23 (by decide) (fun q2 => ?_) (fun q2 => ?_)
    · refine se_iinc (pc := 28) 1 (by decide) rfl dV_lowestLacking_28 [some (.ref a), some (.int (nI (i + 1)))] (by rw [nI_1]; rfl) ?_
      refine se_goto (pc := 31) (tgt := 2) dV_lowestLacking_31 (by decide) ?_
      have e9 : st_ll S k v (n + 1) i = st_ll S k v n (i + 1) := by rw [st_ll, if_neg (by rw [Int32.not_lt]; assumption)]
      rw [e9]
      exact ih (i + 1) (by omega)
    · refine se_iload_n (pc := 26) rfl dV_lowestLacking_26 ?_
      exact se_iret (pc := 27) dV_lowestLacking_27 rfl ⟨rfl, by simp_all [st_ll]⟩
set_option maxHeartbeats 1000000 in
set_option maxRecDepth 100000 in
theorem c_V_lowestLacking {a b k v : Nat} {S : st_S} (hV : is_V h a b S v) (hK : is_K h b S k) : se_W (vG sc) l d mV_lowestLacking 0 (se_ent 2 [.ref a]) [] h 0 0 (fun o h' => h' = h ∧ o = .inl (some (.int (st_ll S k v 10 0)))) := by
  show se_W (vG sc) l d mV_lowestLacking 0 [some (.ref a), none] [] h 0 0 _
  refine se_iconst (pc := 0) 0 (by decide) dV_lowestLacking_0 ?_
  refine se_istore_n (pc := 1) dV_lowestLacking_1 (by decide) [some (.ref a), some (.int 0)] rfl ?_
  exact lp_V_lowestLacking hV hK 10 0 rfl
set_option maxHeartbeats 1000000 in
set_option maxRecDepth 100000 in
theorem c_C_isOpenDamage {o a b v e : Nat} {β : Nat → Nat} {S : st_S} (hC : is_C o β S h) (hV : is_V h a b S v) (he : e < 100) : se_W (vG sc) l d mC_isOpenDamage 0 (se_ent 3 [.ref o, .int (nI e), .ref a]) [] h 0 0 (fun o h' => h' = h ∧ o = .inl (some (.int (st_b (st_od S v e))))) := by
  show se_W (vG sc) l d mC_isOpenDamage 0 [some (.ref o), some (.int (nI e)), some (.ref a)] [] h 0 0 _
  refine se_aload_n (pc := 0) rfl dC_isOpenDamage_0 ?_
  refine se_getf (pc := 1) clC 2 dC_isOpenDamage_1 wd_60 rfl (by decide) hC.1 rfl ?_
  refine se_iload_n (pc := 4) rfl dC_isOpenDamage_4 ?_
  refine se_ialdN (pc := 5) 0 dC_isOpenDamage_5 rfl hC.2.2.2.1 he (by decide) ?_
  refine se_aload_n (pc := 6) rfl dC_isOpenDamage_6 ?_
  refine se_getf (pc := 7) clV 0 dC_isOpenDamage_7 wd_187 rfl (by decide) hV.1 rfl ?_
  refine se_icmp_ne (pc := 10) (tgt := 26) dC_isOpenDamage_10 (by decide) (fun q1 => ?_) (fun q1 => ?_)
  · refine se_iconst (pc := 26) 0 (by decide) dC_isOpenDamage_26 ?_
    exact se_zret (pc := 27) dC_isOpenDamage_27 rfl (by decide) ⟨rfl, by first | (simp_all [st_b, st_od]; done) | (simp_all [st_b, st_od, Int32.le_iff_toInt_le, Int32.lt_iff_toInt_lt]; omega)⟩
  · refine se_aload_n (pc := 13) rfl dC_isOpenDamage_13 ?_
    refine se_getf (pc := 14) clC 4 dC_isOpenDamage_14 wd_62 rfl (by decide) hC.1 rfl ?_
    refine se_iload_n (pc := 17) rfl dC_isOpenDamage_17 ?_
    refine se_ialdN (pc := 18) 0 dC_isOpenDamage_18 rfl hC.2.2.2.2.2.1 he (by decide) ?_
    refine se_if_ne (pc := 19) (tgt := 26) dC_isOpenDamage_19 (by decide) (fun q2 => ?_) (fun q2 => ?_)
    · refine se_iconst (pc := 26) 0 (by decide) dC_isOpenDamage_26 ?_
      exact se_zret (pc := 27) dC_isOpenDamage_27 rfl (by decide) ⟨rfl, by first | (simp_all [st_b, st_od]; done) | (simp_all [st_b, st_od, Int32.le_iff_toInt_le, Int32.lt_iff_toInt_lt]; omega)⟩
    · refine se_iconst (pc := 22) 1 (by decide) dC_isOpenDamage_22 ?_
      refine se_goto (pc := 23) (tgt := 27) dC_isOpenDamage_23 (by decide) ?_
      exact se_zret (pc := 27) dC_isOpenDamage_27 rfl (by decide) ⟨rfl, by first | (simp_all [st_b, st_od]; done) | (simp_all [st_b, st_od, Int32.le_iff_toInt_le, Int32.lt_iff_toInt_lt]; omega)⟩
set_option maxHeartbeats 1000000 in
set_option maxRecDepth 100000 in
theorem lp_C_damagesWeight {o a b v : Nat} {β : Nat → Nat} {S : st_S} (hC : is_C o β S h) (hV : is_V h a b S v) (hnd : S 25 0 0 = nI (st_nd S)) (hn : st_nd S ≤ 100) : ∀ (n : Nat) (i : Nat), i + n = st_nd S → se_W (vG sc) l (d + 1) mC_damagesWeight 4 [some (.ref o), some (.ref a), some (.int (st_w2 S v i)), some (.int (nI i))] [] h 0 0 (fun o h' => h' = h ∧ o = .inl (some (.int (st_w2 S v (st_nd S))))) := by
  intro n
  induction n with
  | zero =>
    intro i hi
    obtain rfl : i = st_nd S := by omega
    refine se_iload_n (pc := 4) rfl dC_damagesWeight_4 ?_
    refine se_bipush (pc := 5) 100 (by decide) dC_damagesWeight_5 ?_
    refine se_icmp_ge (pc := 7) (tgt := 44) dC_damagesWeight_7 (by decide) (fun q1 => ?_) (fun q1 => ?_)
    · refine se_iload_n (pc := 44) rfl dC_damagesWeight_44 ?_
      exact se_iret (pc := 45) dC_damagesWeight_45 rfl ⟨rfl, rfl⟩
    · refine se_iload_n (pc := 10) rfl dC_damagesWeight_10 ?_
      refine se_aload_n (pc := 11) rfl dC_damagesWeight_11 ?_
      refine se_getf (pc := 12) clC 6 dC_damagesWeight_12 wd_64 rfl (by decide) hC.1 rfl ?_
      refine se_icmp_ge (pc := 15) (tgt := 44) dC_damagesWeight_15 (by decide) (fun q2 => ?_) (fun q2 => absurd q2 (fun z => z (by rw [hnd]; exact Int32.le_refl _)))
      refine se_iload_n (pc := 44) rfl dC_damagesWeight_44 ?_
      exact se_iret (pc := 45) dC_damagesWeight_45 rfl ⟨rfl, rfl⟩
  | succ n ih =>
    intro i hi
    have hlt : i < st_nd S := by omega
    have hj : i < 100 := by omega
    refine se_iload_n (pc := 4) rfl dC_damagesWeight_4 ?_
    refine se_bipush (pc := 5) 100 (by decide) dC_damagesWeight_5 ?_
    refine se_icmp_ge (pc := 7) (tgt := 44) dC_damagesWeight_7 (by decide) (fun q1 => absurd q1 (nI_ge (b := 100) hj (by decide))) (fun q1 => ?_)
    refine se_iload_n (pc := 10) rfl dC_damagesWeight_10 ?_
    refine se_aload_n (pc := 11) rfl dC_damagesWeight_11 ?_
    refine se_getf (pc := 12) clC 6 dC_damagesWeight_12 wd_64 rfl (by decide) hC.1 rfl ?_
    refine se_icmp_ge (pc := 15) (tgt := 44) dC_damagesWeight_15 (by decide) (fun q2 => absurd q2 (by rw [hnd]; exact nI_ge hlt (by omega))) (fun q2 => ?_)
    refine se_aload_n (pc := 18) rfl dC_damagesWeight_18 ?_
    refine se_iload_n (pc := 19) rfl dC_damagesWeight_19 ?_
    refine se_aload_n (pc := 20) rfl dC_damagesWeight_20 ?_
    refine se_invV (pc := 21) (as := [.int (nI i), .ref a]) (st := []) (vok sc) kC_isOpenDamage dC_damagesWeight_21 ⟨wd_376, wd_378, sl_5, wd_1⟩ rfl hC.1 rfl (Nat.le_of_ble_eq_true rfl) (Nat.le_of_ble_eq_true rfl) (c_C_isOpenDamage hC hV hj) (C2 := 0) (S2 := 0) (by omega) (by omega) (fun v21 h21 _ q21 => ?_) (fun x hx => absurd hx List.not_mem_nil) (fun v21 h21 _ q21 => ?_)
    rotate_left
    · cases q21.2
    obtain ⟨rfl, q21⟩ := q21
    cases q21
    refine se_if_eq (pc := 24) (tgt := 38) dC_damagesWeight_24 (by decide) (fun q3 => ?_) (fun q3 => ?_)
    · refine se_iinc (pc := 38) 1 (by decide) rfl dC_damagesWeight_38 [some (.ref o), some (.ref a), some (.int (st_w2 S v i)), some (.int (nI (i + 1)))] (by rw [nI_1]; rfl) ?_
      refine se_goto (pc := 41) (tgt := 4) dC_damagesWeight_41 (by decide) ?_
      have e9 : st_w2 S v i = st_w2 S v (i + 1) := by clear ih hC hV; simp only [st_b0] at *; simp_all [st_w2]
      rw [e9]
      exact ih (i + 1) (by omega)
    · refine se_iload_n (pc := 27) rfl dC_damagesWeight_27 ?_
      refine se_aload_n (pc := 28) rfl dC_damagesWeight_28 ?_
      refine se_getf (pc := 29) clC 3 dC_damagesWeight_29 wd_61 rfl (by decide) hC.1 rfl ?_
      refine se_iload_n (pc := 32) rfl dC_damagesWeight_32 ?_
      refine se_ialdN (pc := 33) 0 dC_damagesWeight_33 rfl hC.2.2.2.2.1 hj (by decide) ?_
      refine se_iconst (pc := 34) 1 (by decide) dC_damagesWeight_34 ?_
      refine se_isub (pc := 35) dC_damagesWeight_35 ?_
      refine se_iadd (pc := 36) dC_damagesWeight_36 ?_
      refine se_istore_n (pc := 37) dC_damagesWeight_37 (by decide) [some (.ref o), some (.ref a), some (.int ((st_w2 S v i) + ((S 22 0 i) - 1))), some (.int (nI i))] rfl ?_
      refine se_iinc (pc := 38) 1 (by decide) rfl dC_damagesWeight_38 [some (.ref o), some (.ref a), some (.int ((st_w2 S v i) + ((S 22 0 i) - 1))), some (.int (nI (i + 1)))] (by rw [nI_1]; rfl) ?_
      refine se_goto (pc := 41) (tgt := 4) dC_damagesWeight_41 (by decide) ?_
      have e9 : (st_w2 S v i) + ((S 22 0 i) - 1) = st_w2 S v (i + 1) := by clear ih hC hV; simp only [st_b0] at *; simp_all [st_w2]
      rw [e9]
      exact ih (i + 1) (by omega)
set_option maxHeartbeats 1000000 in
set_option maxRecDepth 100000 in
theorem c_C_damagesWeight {o a b v : Nat} {β : Nat → Nat} {S : st_S} (hd : 1 ≤ d) (hC : is_C o β S h) (hV : is_V h a b S v) (hnd : S 25 0 0 = nI (st_nd S)) (hn : st_nd S ≤ 100) : se_W (vG sc) l d mC_damagesWeight 0 (se_ent 4 [.ref o, .ref a]) [] h 0 0 (fun o h' => h' = h ∧ o = .inl (some (.int (st_w2 S v (st_nd S))))) := by
  obtain ⟨d, rfl⟩ : ∃ e, d = e + 1 := ⟨d - 1, by omega⟩
  show se_W (vG sc) l (d + 1) mC_damagesWeight 0 [some (.ref o), some (.ref a), none, none] [] h 0 0 _
  refine se_iconst (pc := 0) 0 (by decide) dC_damagesWeight_0 ?_
  refine se_istore_n (pc := 1) dC_damagesWeight_1 (by decide) [some (.ref o), some (.ref a), some (.int 0), none] rfl ?_
  refine se_iconst (pc := 2) 0 (by decide) dC_damagesWeight_2 ?_
  refine se_istore_n (pc := 3) dC_damagesWeight_3 (by decide) [some (.ref o), some (.ref a), some (.int 0), some (.int 0)] rfl ?_
  exact lp_C_damagesWeight hC hV hnd hn (st_nd S) 0 (by omega)
set_option maxHeartbeats 1000000 in
set_option maxRecDepth 100000 in
theorem lp_C_openDamages {o a b v : Nat} {β : Nat → Nat} {S : st_S} (hC : is_C o β S h) (hV : is_V h a b S v) (hnd : S 25 0 0 = nI (st_nd S)) (hn : st_nd S ≤ 100) : ∀ (n : Nat) (i : Nat), i + n = st_nd S → se_W (vG sc) l (d + 1) mC_openDamages 4 [some (.ref o), some (.ref a), some (.int (st_n2 S v i)), some (.int (nI i))] [] h 0 0 (fun o h' => h' = h ∧ o = .inl (some (.int (st_n2 S v (st_nd S))))) := by
  intro n
  induction n with
  | zero =>
    intro i hi
    obtain rfl : i = st_nd S := by omega
    refine se_iload_n (pc := 4) rfl dC_openDamages_4 ?_
    refine se_bipush (pc := 5) 100 (by decide) dC_openDamages_5 ?_
    refine se_icmp_ge (pc := 7) (tgt := 36) dC_openDamages_7 (by decide) (fun q1 => ?_) (fun q1 => ?_)
    · refine se_iload_n (pc := 36) rfl dC_openDamages_36 ?_
      exact se_iret (pc := 37) dC_openDamages_37 rfl ⟨rfl, rfl⟩
    · refine se_iload_n (pc := 10) rfl dC_openDamages_10 ?_
      refine se_aload_n (pc := 11) rfl dC_openDamages_11 ?_
      refine se_getf (pc := 12) clC 6 dC_openDamages_12 wd_64 rfl (by decide) hC.1 rfl ?_
      refine se_icmp_ge (pc := 15) (tgt := 36) dC_openDamages_15 (by decide) (fun q2 => ?_) (fun q2 => absurd q2 (fun z => z (by rw [hnd]; exact Int32.le_refl _)))
      refine se_iload_n (pc := 36) rfl dC_openDamages_36 ?_
      exact se_iret (pc := 37) dC_openDamages_37 rfl ⟨rfl, rfl⟩
  | succ n ih =>
    intro i hi
    have hlt : i < st_nd S := by omega
    have hj : i < 100 := by omega
    refine se_iload_n (pc := 4) rfl dC_openDamages_4 ?_
    refine se_bipush (pc := 5) 100 (by decide) dC_openDamages_5 ?_
    refine se_icmp_ge (pc := 7) (tgt := 36) dC_openDamages_7 (by decide) (fun q1 => absurd q1 (nI_ge (b := 100) hj (by decide))) (fun q1 => ?_)
    refine se_iload_n (pc := 10) rfl dC_openDamages_10 ?_
    refine se_aload_n (pc := 11) rfl dC_openDamages_11 ?_
    refine se_getf (pc := 12) clC 6 dC_openDamages_12 wd_64 rfl (by decide) hC.1 rfl ?_
    refine se_icmp_ge (pc := 15) (tgt := 36) dC_openDamages_15 (by decide) (fun q2 => absurd q2 (by rw [hnd]; exact nI_ge hlt (by omega))) (fun q2 => ?_)
    refine se_aload_n (pc := 18) rfl dC_openDamages_18 ?_
    refine se_iload_n (pc := 19) rfl dC_openDamages_19 ?_
    refine se_aload_n (pc := 20) rfl dC_openDamages_20 ?_
    refine se_invV (pc := 21) (as := [.int (nI i), .ref a]) (st := []) (vok sc) kC_isOpenDamage dC_openDamages_21 ⟨wd_376, wd_378, sl_5, wd_1⟩ rfl hC.1 rfl (Nat.le_of_ble_eq_true rfl) (Nat.le_of_ble_eq_true rfl) (c_C_isOpenDamage hC hV hj) (C2 := 0) (S2 := 0) (by omega) (by omega) (fun v21 h21 _ q21 => ?_) (fun x hx => absurd hx List.not_mem_nil) (fun v21 h21 _ q21 => ?_)
    rotate_left
    · cases q21.2
    obtain ⟨rfl, q21⟩ := q21
    cases q21
    refine se_if_eq (pc := 24) (tgt := 30) dC_openDamages_24 (by decide) (fun q3 => ?_) (fun q3 => ?_)
    · refine se_iinc (pc := 30) 1 (by decide) rfl dC_openDamages_30 [some (.ref o), some (.ref a), some (.int (st_n2 S v i)), some (.int (nI (i + 1)))] (by rw [nI_1]; rfl) ?_
      refine se_goto (pc := 33) (tgt := 4) dC_openDamages_33 (by decide) ?_
      have e9 : st_n2 S v i = st_n2 S v (i + 1) := by clear ih hC hV; simp only [st_b0] at *; simp_all [st_n2]
      rw [e9]
      exact ih (i + 1) (by omega)
    · refine se_iinc (pc := 27) 1 (by decide) rfl dC_openDamages_27 [some (.ref o), some (.ref a), some (.int ((st_n2 S v i) + 1)), some (.int (nI i))] rfl ?_
      refine se_iinc (pc := 30) 1 (by decide) rfl dC_openDamages_30 [some (.ref o), some (.ref a), some (.int ((st_n2 S v i) + 1)), some (.int (nI (i + 1)))] (by rw [nI_1]; rfl) ?_
      refine se_goto (pc := 33) (tgt := 4) dC_openDamages_33 (by decide) ?_
      have e9 : (st_n2 S v i) + 1 = st_n2 S v (i + 1) := by clear ih hC hV; simp only [st_b0] at *; simp_all [st_n2]
      rw [e9]
      exact ih (i + 1) (by omega)
set_option maxHeartbeats 1000000 in
set_option maxRecDepth 100000 in
theorem c_C_openDamages {o a b v : Nat} {β : Nat → Nat} {S : st_S} (hd : 1 ≤ d) (hC : is_C o β S h) (hV : is_V h a b S v) (hnd : S 25 0 0 = nI (st_nd S)) (hn : st_nd S ≤ 100) : se_W (vG sc) l d mC_openDamages 0 (se_ent 4 [.ref o, .ref a]) [] h 0 0 (fun o h' => h' = h ∧ o = .inl (some (.int (st_n2 S v (st_nd S))))) := by
  obtain ⟨d, rfl⟩ : ∃ e, d = e + 1 := ⟨d - 1, by omega⟩
  show se_W (vG sc) l (d + 1) mC_openDamages 0 [some (.ref o), some (.ref a), none, none] [] h 0 0 _
  refine se_iconst (pc := 0) 0 (by decide) dC_openDamages_0 ?_
  refine se_istore_n (pc := 1) dC_openDamages_1 (by decide) [some (.ref o), some (.ref a), some (.int 0), none] rfl ?_
  refine se_iconst (pc := 2) 0 (by decide) dC_openDamages_2 ?_
  refine se_istore_n (pc := 3) dC_openDamages_3 (by decide) [some (.ref o), some (.ref a), some (.int 0), some (.int 0)] rfl ?_
  exact lp_C_openDamages hC hV hnd hn (st_nd S) 0 (by omega)
set_option maxHeartbeats 1000000 in
set_option maxRecDepth 100000 in
theorem c_C_canRun {o a b k v : Nat} {β : Nat → Nat} {S : st_S} (hd : 3 ≤ d) (hC : is_C o β S h) (hV : is_V h a b S v) (hK : is_K h b S k) (hnd : S 25 0 0 = nI (st_nd S)) (hn : st_nd S ≤ 100) : se_W (vG sc) l d mC_canRun 0 (se_ent 2 [.ref o, .ref a]) [] h 0 0 (fun o h' => h' = h ∧ o = .inl (some (.int (st_b (st_ru S k v))))) := by
  obtain ⟨d, rfl⟩ : ∃ e, d = e + 1 := ⟨d - 1, by omega⟩
  show se_W (vG sc) l (d + 1) mC_canRun 0 [some (.ref o), some (.ref a)] [] h 0 0 _
  refine se_aload_n (pc := 0) rfl dC_canRun_0 ?_
  refine se_getf (pc := 1) clV 9 dC_canRun_1 wd_202 rfl (by decide) hV.1 rfl ?_
  refine se_if_ne (pc := 4) (tgt := 29) dC_canRun_4 (by decide) (fun q1 => ?_) (fun q1 => ?_)
  · refine se_iconst (pc := 29) 0 (by decide) dC_canRun_29 ?_
    exact se_zret (pc := 30) dC_canRun_30 rfl (by decide) ⟨rfl, by first | (simp_all [st_b, st_ru]; done) | (simp_all [st_b, st_ru, Int32.le_iff_toInt_le, Int32.lt_iff_toInt_lt]; omega)⟩
  · refine se_aload_n (pc := 7) rfl dC_canRun_7 ?_
    refine se_aload_n (pc := 8) rfl dC_canRun_8 ?_
    refine se_getf (pc := 9) clC 7 dC_canRun_9 wd_65 rfl (by decide) hC.1 rfl ?_
    refine se_invV (pc := 12) (as := [.int (S 26 0 0)]) (st := []) (vok sc) kV_checksWeight dC_canRun_12 ⟨wd_366, wd_367, wd_368, wd_9⟩ rfl hV.1 rfl (Nat.le_of_ble_eq_true rfl) (Nat.le_of_ble_eq_true rfl) (c_V_checksWeight (by omega) hV hK) (C2 := 0) (S2 := 0) (by omega) (by omega) (fun v12 h12 _ q12 => ?_) (fun x hx => absurd hx List.not_mem_nil) (fun v12 h12 _ q12 => ?_)
    rotate_left
    · cases q12.2
    obtain ⟨rfl, q12⟩ := q12
    cases q12
    refine se_aload_n (pc := 15) rfl dC_canRun_15 ?_
    refine se_aload_n (pc := 16) rfl dC_canRun_16 ?_
    refine se_invV (pc := 17) (as := [.ref a]) (st := [.int (st_w1 S k v (S 26 0 0) 10)]) (vok sc) kC_damagesWeight dC_canRun_17 ⟨wd_372, wd_374, sl_4, wd_1⟩ rfl hC.1 rfl (Nat.le_of_ble_eq_true rfl) (Nat.le_of_ble_eq_true rfl) (c_C_damagesWeight (by omega) hC hV hnd hn) (C2 := 0) (S2 := 0) (by omega) (by omega) (fun v17 h17 _ q17 => ?_) (fun x hx => absurd hx List.not_mem_nil) (fun v17 h17 _ q17 => ?_)
    rotate_left
    · cases q17.2
    obtain ⟨rfl, q17⟩ := q17
    cases q17
    refine se_iadd (pc := 20) dC_canRun_20 ?_
    refine se_iconst (pc := 21) 2 (by decide) dC_canRun_21 ?_
    refine se_icmp_ge (pc := 22) (tgt := 29) dC_canRun_22 (by decide) (fun q2 => ?_) (fun q2 => ?_)
    · refine se_iconst (pc := 29) 0 (by decide) dC_canRun_29 ?_
      exact se_zret (pc := 30) dC_canRun_30 rfl (by decide) ⟨rfl, by first | (simp_all [st_b, st_ru]; done) | (simp_all [st_b, st_ru, Int32.le_iff_toInt_le, Int32.lt_iff_toInt_lt]; omega)⟩
    · refine se_iconst (pc := 25) 1 (by decide) dC_canRun_25 ?_
      refine se_goto (pc := 26) (tgt := 30) dC_canRun_26 (by decide) ?_
      exact se_zret (pc := 30) dC_canRun_30 rfl (by decide) ⟨rfl, by first | (simp_all [st_b, st_ru]; done) | (simp_all [st_b, st_ru, Int32.le_iff_toInt_le, Int32.lt_iff_toInt_lt]; omega)⟩
set_option maxHeartbeats 1000000 in
set_option maxRecDepth 100000 in
theorem lp_C_damageReason {o a b v : Nat} {β : Nat → Nat} {S : st_S} {x : Int32} (hC : is_C o β S h) (hV : is_V h a b S v) (hnd : S 25 0 0 = nI (st_nd S)) (hn : st_nd S ≤ 100) : ∀ (n : Nat) (i : Nat) (y : Int32), i + n = st_nd S → se_W (vG sc) l (d + 1) mC_damageReason 5 [some (.ref o), some (.ref a), some (.int x), some (.int y), some (.int (nI i))] [] h 0 0 (fun o h' => h' = h ∧ o = .inl (some (.int (st_dr S v n i y)))) := by
  intro n
  induction n with
  | zero =>
    intro i y hi
    obtain rfl : i = st_nd S := by omega
    refine se_iload (pc := 5) rfl dC_damageReason_5 ?_
    refine se_bipush (pc := 7) 100 (by decide) dC_damageReason_7 ?_
    refine se_icmp_ge (pc := 9) (tgt := 63) dC_damageReason_9 (by decide) (fun q1 => ?_) (fun q1 => ?_)
    · refine se_iconst (pc := 63) (-1) (by decide) dC_damageReason_63 ?_
      exact se_iret (pc := 64) dC_damageReason_64 rfl ⟨rfl, rfl⟩
    · refine se_iload (pc := 12) rfl dC_damageReason_12 ?_
      refine se_aload_n (pc := 14) rfl dC_damageReason_14 ?_
      refine se_getf (pc := 15) clC 6 dC_damageReason_15 wd_64 rfl (by decide) hC.1 rfl ?_
      refine se_icmp_ge (pc := 18) (tgt := 63) dC_damageReason_18 (by decide) (fun q2 => ?_) (fun q2 => absurd q2 (fun z => z (by rw [hnd]; exact Int32.le_refl _)))
      refine se_iconst (pc := 63) (-1) (by decide) dC_damageReason_63 ?_
      exact se_iret (pc := 64) dC_damageReason_64 rfl ⟨rfl, rfl⟩
  | succ n ih =>
    intro i y hi
    have hlt : i < st_nd S := by omega
    have hj : i < 100 := by omega
    refine se_iload (pc := 5) rfl dC_damageReason_5 ?_
    refine se_bipush (pc := 7) 100 (by decide) dC_damageReason_7 ?_
    refine se_icmp_ge (pc := 9) (tgt := 63) dC_damageReason_9 (by decide) (fun q1 => absurd q1 (nI_ge (b := 100) hj (by decide))) (fun q1 => ?_)
    refine se_iload (pc := 12) rfl dC_damageReason_12 ?_
    refine se_aload_n (pc := 14) rfl dC_damageReason_14 ?_
    refine se_getf (pc := 15) clC 6 dC_damageReason_15 wd_64 rfl (by decide) hC.1 rfl ?_
    refine se_icmp_ge (pc := 18) (tgt := 63) dC_damageReason_18 (by decide) (fun q2 => absurd q2 (by rw [hnd]; exact nI_ge hlt (by omega))) (fun q2 => ?_)
    refine se_aload_n (pc := 21) rfl dC_damageReason_21 ?_
    refine se_iload (pc := 22) rfl dC_damageReason_22 ?_
    refine se_aload_n (pc := 24) rfl dC_damageReason_24 ?_
    refine se_invV (pc := 25) (as := [.int (nI i), .ref a]) (st := []) (vok sc) kC_isOpenDamage dC_damageReason_25 ⟨wd_376, wd_378, sl_5, wd_1⟩ rfl hC.1 rfl (Nat.le_of_ble_eq_true rfl) (Nat.le_of_ble_eq_true rfl) (c_C_isOpenDamage hC hV hj) (C2 := 0) (S2 := 0) (by omega) (by omega) (fun v25 h25 _ q25 => ?_) (fun x hx => absurd hx List.not_mem_nil) (fun v25 h25 _ q25 => ?_)
    rotate_left
    · cases q25.2
    obtain ⟨rfl, q25⟩ := q25
    cases q25
    refine se_if_eq (pc := 28) (tgt := 57) dC_damageReason_28 (by decide) (fun q3 => ?_) (fun q3 => ?_)
    · refine se_iinc (pc := 57) 1 (by decide) rfl dC_damageReason_57 [some (.ref o), some (.ref a), some (.int x), some (.int y), some (.int (nI (i + 1)))] (by rw [nI_1]; rfl) ?_
      refine se_goto (pc := 60) (tgt := 5) dC_damageReason_60 (by decide) ?_
      have e9 : st_dr S v (n + 1) i y = st_dr S v n (i + 1) (y) := by clear ih hC hV; simp only [st_b0] at *; simp_all [st_dr]
      rw [e9]
      exact ih (i + 1) _ (by omega)
    · refine se_iload_n (pc := 31) rfl dC_damageReason_31 ?_
      refine se_if_ne (pc := 32) (tgt := 54) dC_damageReason_32 (by decide) (fun q4 => ?_) (fun q4 => ?_)
      · refine se_iinc (pc := 54) (-1) (by decide) rfl dC_damageReason_54 [some (.ref o), some (.ref a), some (.int x), some (.int (y + (-1))), some (.int (nI i))] rfl ?_
        refine se_iinc (pc := 57) 1 (by decide) rfl dC_damageReason_57 [some (.ref o), some (.ref a), some (.int x), some (.int (y + (-1))), some (.int (nI (i + 1)))] (by rw [nI_1]; rfl) ?_
        refine se_goto (pc := 60) (tgt := 5) dC_damageReason_60 (by decide) ?_
        have e9 : st_dr S v (n + 1) i y = st_dr S v n (i + 1) (y + (-1)) := by clear ih hC hV; simp only [st_b0] at *; simp_all [st_dr]
        rw [e9]
        exact ih (i + 1) _ (by omega)
      · refine se_sipush (pc := 35) 10000 (by decide) dC_damageReason_35 ?_
        refine se_aload_n (pc := 38) rfl dC_damageReason_38 ?_
        refine se_getf (pc := 39) clC 3 dC_damageReason_39 wd_61 rfl (by decide) hC.1 rfl ?_
        refine se_iload (pc := 42) rfl dC_damageReason_42 ?_
        refine se_ialdN (pc := 44) 0 dC_damageReason_44 rfl hC.2.2.2.2.1 hj (by decide) ?_
        refine se_imul (pc := 45) dC_damageReason_45 ?_
        refine se_sipush (pc := 46) 1000 (by decide) dC_damageReason_46 ?_
        refine se_iadd (pc := 49) dC_damageReason_49 ?_
        refine se_iload (pc := 50) rfl dC_damageReason_50 ?_
        refine se_iadd (pc := 52) dC_damageReason_52 ?_
        exact se_iret (pc := 53) dC_damageReason_53 rfl ⟨rfl, by simp only [st_b0] at *; simp_all [st_dr]⟩
set_option maxHeartbeats 1000000 in
set_option maxRecDepth 100000 in
theorem c_C_damageReason {o a b v : Nat} {β : Nat → Nat} {S : st_S} {x : Int32} (hd : 1 ≤ d) (hC : is_C o β S h) (hV : is_V h a b S v) (hnd : S 25 0 0 = nI (st_nd S)) (hn : st_nd S ≤ 100) : se_W (vG sc) l d mC_damageReason 0 (se_ent 5 [.ref o, .ref a, .int x]) [] h 0 0 (fun o h' => h' = h ∧ o = .inl (some (.int (st_dr S v (st_nd S) 0 x)))) := by
  obtain ⟨d, rfl⟩ : ∃ e, d = e + 1 := ⟨d - 1, by omega⟩
  show se_W (vG sc) l (d + 1) mC_damageReason 0 [some (.ref o), some (.ref a), some (.int x), none, none] [] h 0 0 _
  refine se_iload_n (pc := 0) rfl dC_damageReason_0 ?_
  refine se_istore_n (pc := 1) dC_damageReason_1 (by decide) [some (.ref o), some (.ref a), some (.int x), some (.int x), none] rfl ?_
  refine se_iconst (pc := 2) 0 (by decide) dC_damageReason_2 ?_
  refine se_istore (pc := 3) dC_damageReason_3 (by decide) [some (.ref o), some (.ref a), some (.int x), some (.int x), some (.int 0)] rfl ?_
  exact lp_C_damageReason hC hV hnd hn (st_nd S) 0 _ (by omega)
end LOOPS
