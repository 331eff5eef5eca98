section LEAF2
variable {sc : List (Nat × Nat × (Nat → Int32))} {l : Launch} {d : Nat} {h : se_H}
set_option maxHeartbeats 1000000 in
set_option maxRecDepth 100000 in
theorem c_V_hasFailed {a b k v j : Nat} {S : st_S} (hd : 1 ≤ d) (hV : is_V h a b S v) (hK : is_K h b S k) (hj : j < 10) : se_W (vG sc) l d mV_hasFailed 0 (se_ent 2 [.ref a, .int (nI j)]) [] h 0 0 (fun o h' => h' = h ∧ o = .inl (some (.int (st_b (st_fa S k v j))))) := by
  obtain ⟨d, rfl⟩ : ∃ e, d = e + 1 := ⟨d - 1, by omega⟩
  show se_W (vG sc) l (d + 1) mV_hasFailed 0 [some (.ref a), some (.int (nI j))] [] h 0 0 _
  refine se_aload_n (pc := 0) rfl dV_hasFailed_0 ?_
  refine se_getf (pc := 1) clV 1 dV_hasFailed_1 wd_188 rfl (by decide) hV.1 rfl ?_
  refine se_getf (pc := 4) clK 0 dV_hasFailed_4 wd_29 rfl (by decide) hK.1 rfl ?_
  refine se_iload_n (pc := 7) rfl dV_hasFailed_7 ?_
  refine se_zaldN (pc := 8) 1 dV_hasFailed_8 rfl hK.2.1 hj (by decide) ?_
  refine se_if_eq (pc := 9) (tgt := 43) dV_hasFailed_9 (by decide) (fun q1 => ?_) (fun q1 => ?_)
  · refine se_iconst (pc := 43) 0 (by decide) dV_hasFailed_43 ?_
    exact se_zret (pc := 44) dV_hasFailed_44 rfl (by decide) ⟨rfl, by simp_all [st_b, st_fa]⟩
  · refine se_aload_n (pc := 12) rfl dV_hasFailed_12 ?_
    refine se_getf (pc := 13) clV 6 dV_hasFailed_13 wd_197 rfl (by decide) hV.1 rfl ?_
    refine se_iload_n (pc := 16) rfl dV_hasFailed_16 ?_
    refine se_ialdN (pc := 17) 0 dV_hasFailed_17 rfl hV.2.2.2.1 hj (by decide) ?_
    refine se_iconst (pc := 18) (-1) (by decide) dV_hasFailed_18 ?_
    refine se_icmp_eq (pc := 19) (tgt := 43) dV_hasFailed_19 (by decide) (fun q2 => ?_) (fun q2 => ?_)
    · refine se_iconst (pc := 43) 0 (by decide) dV_hasFailed_43 ?_
      exact se_zret (pc := 44) dV_hasFailed_44 rfl (by decide) ⟨rfl, by simp_all [st_b, st_fa]⟩
    · refine se_aload_n (pc := 22) rfl dV_hasFailed_22 ?_
      refine se_getf (pc := 23) clV 1 dV_hasFailed_23 wd_188 rfl (by decide) hV.1 rfl ?_
      refine se_iload_n (pc := 26) rfl dV_hasFailed_26 ?_
      refine se_aload_n (pc := 27) rfl dV_hasFailed_27 ?_
      refine se_getf (pc := 28) clV 5 dV_hasFailed_28 wd_195 rfl (by decide) hV.1 rfl ?_
      refine se_iload_n (pc := 31) rfl dV_hasFailed_31 ?_
      refine se_ialdN (pc := 32) 0 dV_hasFailed_32 rfl hV.2.2.1 hj (by decide) ?_
      refine se_invV (pc := 33) (as := [.int (nI j), .int (S 7 v j)]) (st := []) (vok sc) kK_isWithin dV_hasFailed_33 ⟨wd_348, wd_331, wd_332, wd_2⟩ rfl hK.1 rfl (Nat.le_of_ble_eq_true rfl) (Nat.le_of_ble_eq_true rfl) (c_K_isWithin hK hj) (C2 := 0) (S2 := 0) (by omega) (by omega) (fun v33 h33 _ q33 => ?_) (fun x hx => absurd hx List.not_mem_nil) (fun v33 h33 _ q33 => ?_)
      rotate_left
      · cases q33.2
      obtain ⟨rfl, q33⟩ := q33
      cases q33
      refine se_if_ne (pc := 36) (tgt := 43) dV_hasFailed_36 (by decide) (fun q3 => ?_) (fun q3 => ?_)
      · refine se_iconst (pc := 43) 0 (by decide) dV_hasFailed_43 ?_
        exact se_zret (pc := 44) dV_hasFailed_44 rfl (by decide) ⟨rfl, by simp_all [st_b, st_fa]⟩
      · refine se_iconst (pc := 39) 1 (by decide) dV_hasFailed_39 ?_
        refine se_goto (pc := 40) (tgt := 44) dV_hasFailed_40 (by decide) ?_
        exact se_zret (pc := 44) dV_hasFailed_44 rfl (by decide) ⟨rfl, by simp_all [st_b, st_fa]⟩
set_option maxHeartbeats 1000000 in
set_option maxRecDepth 100000 in
theorem c_V_hasSkipped {a b k v j : Nat} {S : st_S} {x : Int32} (hV : is_V h a b S v) (hK : is_K h b S k) (hj : j < 10) : se_W (vG sc) l d mV_hasSkipped 0 (se_ent 4 [.ref a, .int (nI j), .int x]) [] h 0 0 (fun o h' => h' = h ∧ o = .inl (some (.int (st_b (st_sk S k v j x))))) := by
  show se_W (vG sc) l d mV_hasSkipped 0 [some (.ref a), some (.int (nI j)), some (.int x), none] [] h 0 0 _
  refine se_aload_n (pc := 0) rfl dV_hasSkipped_0 ?_
  refine se_getf (pc := 1) clV 1 dV_hasSkipped_1 wd_188 rfl (by decide) hV.1 rfl ?_
  refine se_getf (pc := 4) clK 0 dV_hasSkipped_4 wd_29 rfl (by decide) hK.1 rfl ?_
  refine se_iload_n (pc := 7) rfl dV_hasSkipped_7 ?_
  refine se_zaldN (pc := 8) 1 dV_hasSkipped_8 rfl hK.2.1 hj (by decide) ?_
  refine se_if_ne (pc := 9) (tgt := 14) dV_hasSkipped_9 (by decide) (fun q1 => ?_) (fun q1 => ?_)
  · refine se_aload_n (pc := 14) rfl dV_hasSkipped_14 ?_
    refine se_getf (pc := 15) clV 1 dV_hasSkipped_15 wd_188 rfl (by decide) hV.1 rfl ?_
    refine se_getf (pc := 18) clK 4 dV_hasSkipped_18 wd_37 rfl (by decide) hK.1 rfl ?_
    refine se_iload_n (pc := 21) rfl dV_hasSkipped_21 ?_
    refine se_ialdN (pc := 22) 0 dV_hasSkipped_22 rfl hK.2.2.2.2.2.1 hj (by decide) ?_
    refine se_if_ne (pc := 23) (tgt := 45) dV_hasSkipped_23 (by decide) (fun q2 => ?_) (fun q2 => ?_)
    · refine se_aload_n (pc := 45) rfl dV_hasSkipped_45 ?_
      refine se_getf (pc := 46) clV 6 dV_hasSkipped_46 wd_197 rfl (by decide) hV.1 rfl ?_
      refine se_iload_n (pc := 49) rfl dV_hasSkipped_49 ?_
      refine se_ialdN (pc := 50) 0 dV_hasSkipped_50 rfl hV.2.2.2.1 hj (by decide) ?_
      refine se_iconst (pc := 51) (-1) (by decide) dV_hasSkipped_51 ?_
      refine se_icmp_ne (pc := 52) (tgt := 62) dV_hasSkipped_52 (by decide) (fun q3 => ?_) (fun q3 => ?_)
      · refine se_aload_n (pc := 62) rfl dV_hasSkipped_62 ?_
        refine se_getf (pc := 63) clV 6 dV_hasSkipped_63 wd_197 rfl (by decide) hV.1 rfl ?_
        refine se_iload_n (pc := 66) rfl dV_hasSkipped_66 ?_
        refine se_ialdN (pc := 67) 0 dV_hasSkipped_67 rfl hV.2.2.2.1 hj (by decide) ?_
        refine se_istore_n (pc := 68) dV_hasSkipped_68 (by decide) [some (.ref a), some (.int (nI j)), some (.int x), some (.int (S 8 v j))] rfl ?_
        refine se_iload_n (pc := 69) rfl dV_hasSkipped_69 ?_
        refine se_iload_n (pc := 70) rfl dV_hasSkipped_70 ?_
        refine se_isub (pc := 71) dV_hasSkipped_71 ?_
        refine se_aload_n (pc := 72) rfl dV_hasSkipped_72 ?_
        refine se_getf (pc := 73) clV 1 dV_hasSkipped_73 wd_188 rfl (by decide) hV.1 rfl ?_
        refine se_getf (pc := 76) clK 4 dV_hasSkipped_76 wd_37 rfl (by decide) hK.1 rfl ?_
        refine se_iload_n (pc := 79) rfl dV_hasSkipped_79 ?_
        refine se_ialdN (pc := 80) 0 dV_hasSkipped_80 rfl hK.2.2.2.2.2.1 hj (by decide) ?_
        refine se_icmp_lt (pc := 81) (tgt := 88) dV_hasSkipped_81 (by decide) (fun q4 => ?_) (fun q4 => ?_)
        · refine se_iconst (pc := 88) 0 (by decide) dV_hasSkipped_88 ?_
          exact se_zret (pc := 89) dV_hasSkipped_89 rfl (by decide) ⟨rfl, by first | (simp_all [st_b, st_sk]; done) | (simp_all [st_b, st_sk, Int32.le_iff_toInt_le, Int32.lt_iff_toInt_lt]; omega)⟩
        · refine se_iconst (pc := 84) 1 (by decide) dV_hasSkipped_84 ?_
          refine se_goto (pc := 85) (tgt := 89) dV_hasSkipped_85 (by decide) ?_
          exact se_zret (pc := 89) dV_hasSkipped_89 rfl (by decide) ⟨rfl, by first | (simp_all [st_b, st_sk]; done) | (simp_all [st_b, st_sk, Int32.le_iff_toInt_le, Int32.lt_iff_toInt_lt]; omega)⟩
      · refine se_aload_n (pc := 55) rfl dV_hasSkipped_55 ?_
        refine se_getf (pc := 56) clV 3 dV_hasSkipped_56 wd_192 rfl (by decide) hV.1 rfl ?_
        refine se_goto (pc := 59) (tgt := 68) dV_hasSkipped_59 (by decide) ?_
        refine se_istore_n (pc := 68) dV_hasSkipped_68 (by decide) [some (.ref a), some (.int (nI j)), some (.int x), some (.int (S 13 v 0))] rfl ?_
        refine se_iload_n (pc := 69) rfl dV_hasSkipped_69 ?_
        refine se_iload_n (pc := 70) rfl dV_hasSkipped_70 ?_
        refine se_isub (pc := 71) dV_hasSkipped_71 ?_
        refine se_aload_n (pc := 72) rfl dV_hasSkipped_72 ?_
        refine se_getf (pc := 73) clV 1 dV_hasSkipped_73 wd_188 rfl (by decide) hV.1 rfl ?_
        refine se_getf (pc := 76) clK 4 dV_hasSkipped_76 wd_37 rfl (by decide) hK.1 rfl ?_
        refine se_iload_n (pc := 79) rfl dV_hasSkipped_79 ?_
        refine se_ialdN (pc := 80) 0 dV_hasSkipped_80 rfl hK.2.2.2.2.2.1 hj (by decide) ?_
        refine se_icmp_lt (pc := 81) (tgt := 88) dV_hasSkipped_81 (by decide) (fun q5 => ?_) (fun q5 => ?_)
        · refine se_iconst (pc := 88) 0 (by decide) dV_hasSkipped_88 ?_
          exact se_zret (pc := 89) dV_hasSkipped_89 rfl (by decide) ⟨rfl, by first | (simp_all [st_b, st_sk]; done) | (simp_all [st_b, st_sk, Int32.le_iff_toInt_le, Int32.lt_iff_toInt_lt]; omega)⟩
        · refine se_iconst (pc := 84) 1 (by decide) dV_hasSkipped_84 ?_
          refine se_goto (pc := 85) (tgt := 89) dV_hasSkipped_85 (by decide) ?_
          exact se_zret (pc := 89) dV_hasSkipped_89 rfl (by decide) ⟨rfl, by first | (simp_all [st_b, st_sk]; done) | (simp_all [st_b, st_sk, Int32.le_iff_toInt_le, Int32.lt_iff_toInt_lt]; omega)⟩
    · refine se_aload_n (pc := 26) rfl dV_hasSkipped_26 ?_
      refine se_getf (pc := 27) clV 12 dV_hasSkipped_27 wd_207 rfl (by decide) hV.1 rfl ?_
      refine se_aload_n (pc := 30) rfl dV_hasSkipped_30 ?_
      refine se_getf (pc := 31) clV 8 dV_hasSkipped_31 wd_201 rfl (by decide) hV.1 rfl ?_
      refine se_iload_n (pc := 34) rfl dV_hasSkipped_34 ?_
      refine se_ialdN (pc := 35) 0 dV_hasSkipped_35 rfl hV.2.2.2.2.2 hj (by decide) ?_
      refine se_icmp_eq (pc := 36) (tgt := 43) dV_hasSkipped_36 (by decide) (fun q6 => ?_) (fun q6 => ?_)
      · refine se_iconst (pc := 43) 0 (by decide) dV_hasSkipped_43 ?_
        exact se_zret (pc := 44) dV_hasSkipped_44 rfl (by decide) ⟨rfl, by first | (simp_all [st_b, st_sk]; done) | (simp_all [st_b, st_sk, Int32.le_iff_toInt_le, Int32.lt_iff_toInt_lt]; omega)⟩
      · refine se_iconst (pc := 39) 1 (by decide) dV_hasSkipped_39 ?_
        refine se_goto (pc := 40) (tgt := 44) dV_hasSkipped_40 (by decide) ?_
        exact se_zret (pc := 44) dV_hasSkipped_44 rfl (by decide) ⟨rfl, by first | (simp_all [st_b, st_sk]; done) | (simp_all [st_b, st_sk, Int32.le_iff_toInt_le, Int32.lt_iff_toInt_lt]; omega)⟩
  · refine se_iconst (pc := 12) 0 (by decide) dV_hasSkipped_12 ?_
    exact se_zret (pc := 13) dV_hasSkipped_13 rfl (by decide) ⟨rfl, by first | (simp_all [st_b, st_sk]; done) | (simp_all [st_b, st_sk, Int32.le_iff_toInt_le, Int32.lt_iff_toInt_lt]; omega)⟩
set_option maxHeartbeats 1000000 in
set_option maxRecDepth 100000 in
theorem c_K_enter {a k j : Nat} {S : st_S} {x1 x2 x3 x4 : Int32} (hK : is_K h a S k) (hj : j < 10) : se_W (vG sc) l d mK_enter 0 (se_ent 6 [.ref a, .int (nI j), .int x1, .int x2, .int x3, .int x4]) [] h 0 0 (fun o h' => o = .inl none ∧ h' = ((((((h.set (a + 1) (.inl (.boolean, (10, .inl (upd (S 0 k) j 1)))))).set (a + 2) (.inl (.int, (10, .inl (upd (S 1 k) j x1))))).set (a + 3) (.inl (.int, (10, .inl (upd (S 2 k) j x2))))).set (a + 4) (.inl (.int, (10, .inl (upd (S 3 k) j x3))))).set (a + 5) (.inl (.int, (10, .inl (upd (S 4 k) j x4)))))) := by
  show se_W (vG sc) l d mK_enter 0 [some (.ref a), some (.int (nI j)), some (.int x1), some (.int x2), some (.int x3), some (.int x4)] [] h 0 0 _
  refine se_aload_n (pc := 0) rfl dK_enter_0 ?_
  refine se_getf (pc := 1) clK 0 dK_enter_1 wd_28 rfl (by decide) hK.1 rfl ?_
  refine se_iload_n (pc := 4) rfl dK_enter_4 ?_
  refine se_iconst (pc := 5) 1 (by decide) dK_enter_5 ?_
  refine se_zastN (pc := 6) 1 dK_enter_6 rfl hK.2.1 hj (by decide) (Or.inr rfl) ?_
  refine se_aload_n (pc := 7) rfl dK_enter_7 ?_
  refine se_getf (pc := 8) clK 1 dK_enter_8 wd_31 rfl (by decide) (st_ne hK.1 (by omega)) rfl ?_
  refine se_iload_n (pc := 11) rfl dK_enter_11 ?_
  refine se_iload_n (pc := 12) rfl dK_enter_12 ?_
  refine se_iastN (pc := 13) 0 dK_enter_13 rfl (st_ne hK.2.2.1 (by omega)) hj (by decide) ?_
  refine se_aload_n (pc := 14) rfl dK_enter_14 ?_
  refine se_getf (pc := 15) clK 2 dK_enter_15 wd_32 rfl (by decide) (st_ne (st_ne hK.1 (by omega)) (by omega)) rfl ?_
  refine se_iload_n (pc := 18) rfl dK_enter_18 ?_
  refine se_iload_n (pc := 19) rfl dK_enter_19 ?_
  refine se_iastN (pc := 20) 0 dK_enter_20 rfl (st_ne (st_ne hK.2.2.2.1 (by omega)) (by omega)) hj (by decide) ?_
  refine se_aload_n (pc := 21) rfl dK_enter_21 ?_
  refine se_getf (pc := 22) clK 3 dK_enter_22 wd_33 rfl (by decide) (st_ne (st_ne (st_ne hK.1 (by omega)) (by omega)) (by omega)) rfl ?_
  refine se_iload_n (pc := 25) rfl dK_enter_25 ?_
  refine se_iload (pc := 26) rfl dK_enter_26 ?_
  refine se_iastN (pc := 28) 0 dK_enter_28 rfl (st_ne (st_ne (st_ne hK.2.2.2.2.1 (by omega)) (by omega)) (by omega)) hj (by decide) ?_
  refine se_aload_n (pc := 29) rfl dK_enter_29 ?_
  refine se_getf (pc := 30) clK 4 dK_enter_30 wd_36 rfl (by decide) (st_ne (st_ne (st_ne (st_ne hK.1 (by omega)) (by omega)) (by omega)) (by omega)) rfl ?_
  refine se_iload_n (pc := 33) rfl dK_enter_33 ?_
  refine se_iload (pc := 34) rfl dK_enter_34 ?_
  refine se_iastN (pc := 36) 0 dK_enter_36 rfl (st_ne (st_ne (st_ne (st_ne hK.2.2.2.2.2.1 (by omega)) (by omega)) (by omega)) (by omega)) hj (by decide) ?_
  exact se_vret (pc := 37) dK_enter_37 rfl ⟨rfl, rfl⟩
set_option maxHeartbeats 1000000 in
set_option maxRecDepth 100000 in
theorem c_V_keepAnswer {a b v j : Nat} {S : st_S} {x1 x2 x3 : Int32} (hV : is_V h a b S v) (hj : j < 10) : se_W (vG sc) l d mV_keepAnswer 0 (se_ent 5 [.ref a, .int (nI j), .int x1, .int x2, .int x3]) [] h 0 0 (fun o h' => o = .inl none ∧ h' = ((((h.set (a + 2) (.inl (.int, (10, .inl (upd (S 7 v) j x1))))).set (a + 3) (.inl (.int, (10, .inl (upd (S 8 v) j x2))))).set (a + 4) (.inl (.int, (10, .inl (upd (S 9 v) j x3))))).set (a + 5) (.inl (.int, (10, .inl (upd (S 10 v) j (S 17 v 0))))))) := by
  show se_W (vG sc) l d mV_keepAnswer 0 [some (.ref a), some (.int (nI j)), some (.int x1), some (.int x2), some (.int x3)] [] h 0 0 _
  refine se_aload_n (pc := 0) rfl dV_keepAnswer_0 ?_
  refine se_getf (pc := 1) clV 5 dV_keepAnswer_1 wd_195 rfl (by decide) hV.1 rfl ?_
  refine se_iload_n (pc := 4) rfl dV_keepAnswer_4 ?_
  refine se_iload_n (pc := 5) rfl dV_keepAnswer_5 ?_
  refine se_iastN (pc := 6) 0 dV_keepAnswer_6 rfl hV.2.2.1 hj (by decide) ?_
  refine se_aload_n (pc := 7) rfl dV_keepAnswer_7 ?_
  refine se_getf (pc := 8) clV 6 dV_keepAnswer_8 wd_197 rfl (by decide) (st_ne hV.1 (by omega)) rfl ?_
  refine se_iload_n (pc := 11) rfl dV_keepAnswer_11 ?_
  refine se_iload_n (pc := 12) rfl dV_keepAnswer_12 ?_
  refine se_iastN (pc := 13) 0 dV_keepAnswer_13 rfl (st_ne hV.2.2.2.1 (by omega)) hj (by decide) ?_
  refine se_aload_n (pc := 14) rfl dV_keepAnswer_14 ?_
  refine se_getf (pc := 15) clV 7 dV_keepAnswer_15 wd_199 rfl (by decide) (st_ne (st_ne hV.1 (by omega)) (by omega)) rfl ?_
  refine se_iload_n (pc := 18) rfl dV_keepAnswer_18 ?_
  refine se_iload (pc := 19) rfl dV_keepAnswer_19 ?_
  refine se_iastN (pc := 21) 0 dV_keepAnswer_21 rfl (st_ne (st_ne hV.2.2.2.2.1 (by omega)) (by omega)) hj (by decide) ?_
  refine se_aload_n (pc := 22) rfl dV_keepAnswer_22 ?_
  refine se_getf (pc := 23) clV 8 dV_keepAnswer_23 wd_201 rfl (by decide) (st_ne (st_ne (st_ne hV.1 (by omega)) (by omega)) (by omega)) rfl ?_
  refine se_iload_n (pc := 26) rfl dV_keepAnswer_26 ?_
  refine se_aload_n (pc := 27) rfl dV_keepAnswer_27 ?_
  refine se_getf (pc := 28) clV 12 dV_keepAnswer_28 wd_207 rfl (by decide) (st_ne (st_ne (st_ne hV.1 (by omega)) (by omega)) (by omega)) rfl ?_
  refine se_iastN (pc := 31) 0 dV_keepAnswer_31 rfl (st_ne (st_ne (st_ne hV.2.2.2.2.2 (by omega)) (by omega)) (by omega)) hj (by decide) ?_
  exact se_vret (pc := 32) dV_keepAnswer_32 rfl ⟨rfl, rfl⟩
set_option maxHeartbeats 1000000 in
set_option maxRecDepth 100000 in
theorem c_V_keepUse {a b v : Nat} {S : st_S} {x : Int32} (hV : is_V h a b S v) : se_W (vG sc) l d mV_keepUse 0 (se_ent 2 [.ref a, .int x]) [] h 0 0 (fun o h' => (o = .inl (some (.int 0)) ∧ x < S 15 v 0 ∧ h' = h.set a (.inr (1, [.int (nI v), .ref b, .int (S 12 v 0), .int (S 13 v 0), .ref (a + 1), .ref (a + 2), .ref (a + 3), .ref (a + 4), .ref (a + 5), .int (S 14 v 0), .int (S 15 v 0), .int (S 16 v 0 + 1), .int (S 17 v 0 + 1), .int (S 18 v 0), .int (S 19 v 0), .int (S 20 v 0)]))) ∨ (o = .inl (some (.int 1)) ∧ ¬ x < S 15 v 0 ∧ h' = h.set a (.inr (1, [.int (nI v), .ref b, .int (S 12 v 0), .int (S 13 v 0), .ref (a + 1), .ref (a + 2), .ref (a + 3), .ref (a + 4), .ref (a + 5), .int (S 14 v 0), .int x, .int (S 16 v 0), .int (S 17 v 0 + 1), .int (S 18 v 0), .int (S 19 v 0), .int (S 20 v 0)])))) := by
  show se_W (vG sc) l d mV_keepUse 0 [some (.ref a), some (.int x)] [] h 0 0 _
  refine se_aload_n (pc := 0) rfl dV_keepUse_0 ?_
  refine se_dup (pc := 1) rfl dV_keepUse_1 ?_
  refine se_getf (pc := 2) clV 12 dV_keepUse_2 wd_207 rfl (by decide) hV.1 rfl ?_
  refine se_iconst (pc := 5) 1 (by decide) dV_keepUse_5 ?_
  refine se_iadd (pc := 6) dV_keepUse_6 ?_
  refine se_putf (pc := 7) clV 12 dV_keepUse_7 wd_207 rfl (by decide) rfl (fun _ => ⟨rfl, rfl⟩) hV.1 (Nat.le_of_ble_eq_true rfl) ?_
  refine se_iload_n (pc := 10) rfl dV_keepUse_10 ?_
  refine se_aload_n (pc := 11) rfl dV_keepUse_11 ?_
  refine se_getf (pc := 12) clV 10 dV_keepUse_12 wd_203 rfl (by decide) (st_eq hV.1) rfl ?_
  refine se_icmp_ge (pc := 15) (tgt := 30) dV_keepUse_15 (by decide) (fun q1 => ?_) (fun q1 => ?_)
  · refine se_aload_n (pc := 30) rfl dV_keepUse_30 ?_
    refine se_iload_n (pc := 31) rfl dV_keepUse_31 ?_
    refine se_putf (pc := 32) clV 10 dV_keepUse_32 wd_203 rfl (by decide) rfl (fun _ => ⟨rfl, rfl⟩) (st_eq hV.1) (Nat.le_of_ble_eq_true rfl) ?_
    refine se_iconst (pc := 35) 1 (by decide) dV_keepUse_35 ?_
    exact se_zret (pc := 36) dV_keepUse_36 rfl (by decide) (Or.inr ⟨rfl, by simp_all, by simp⟩)
  · refine se_aload_n (pc := 18) rfl dV_keepUse_18 ?_
    refine se_dup (pc := 19) rfl dV_keepUse_19 ?_
    refine se_getf (pc := 20) clV 11 dV_keepUse_20 wd_205 rfl (by decide) (st_eq hV.1) rfl ?_
    refine se_iconst (pc := 23) 1 (by decide) dV_keepUse_23 ?_
    refine se_iadd (pc := 24) dV_keepUse_24 ?_
    refine se_putf (pc := 25) clV 11 dV_keepUse_25 wd_205 rfl (by decide) rfl (fun _ => ⟨rfl, rfl⟩) (st_eq hV.1) (Nat.le_of_ble_eq_true rfl) ?_
    refine se_iconst (pc := 28) 0 (by decide) dV_keepUse_28 ?_
    exact se_zret (pc := 29) dV_keepUse_29 rfl (by decide) (Or.inl ⟨rfl, by simp_all, by simp⟩)
set_option maxHeartbeats 1000000 in
set_option maxRecDepth 100000 in
theorem c_C_knownKind {o : Nat} {β : Nat → Nat} {S : st_S} {x : Int32} (hd : 6 ≤ d) (hC : is_C o β S h) : se_W (vG sc) l d mC_knownKind 0 (se_ent 2 [.ref o, .int x]) [] h 1 6 (fun u h' => h' = h ∧ ((∃ j, j < 5 ∧ x = nI j ∧ u = .inl (some (.ref (st_K o j)))) ∨ (u = .inr "java/lang/IllegalArgumentException" ∧ (x < 0 ∨ nI 5 ≤ x)))) := by
  show se_W (vG sc) l d mC_knownKind 0 [some (.ref o), some (.int x)] [] h 1 6 _
  rcases st_ix x (n := 5) (by decide) with (hx | hx) | ⟨j, hj, rfl⟩
  · refine se_iload_n (pc := 0) rfl dC_knownKind_0 ?_
    refine se_if_lt (pc := 1) (tgt := 18) dC_knownKind_1 (by decide) (fun q1 => ?_) (fun q1 => absurd q1 (fun z => z hx))
    exact vth (pc := 18) (text := "no such kind") exIllegalArgumentException rfl rfl (by decide +kernel) dC_knownKind_18 dC_knownKind_21 dC_knownKind_22 dC_knownKind_24 dC_knownKind_27 (Nat.le_of_ble_eq_true rfl) (by omega) (by omega) (by omega) ⟨rfl, Or.inr ⟨rfl, Or.inl hx⟩⟩
  · refine se_iload_n (pc := 0) rfl dC_knownKind_0 ?_
    refine se_if_lt (pc := 1) (tgt := 18) dC_knownKind_1 (by decide) (fun q1 => ?_) (fun q1 => ?_)
    · exact vth (pc := 18) (text := "no such kind") exIllegalArgumentException rfl rfl (by decide +kernel) dC_knownKind_18 dC_knownKind_21 dC_knownKind_22 dC_knownKind_24 dC_knownKind_27 (Nat.le_of_ble_eq_true rfl) (by omega) (by omega) (by omega) ⟨rfl, Or.inr ⟨rfl, Or.inr hx⟩⟩
    · refine se_iload_n (pc := 4) rfl dC_knownKind_4 ?_
      refine se_iconst (pc := 5) 5 (by decide) dC_knownKind_5 ?_
      refine se_icmp_ge (pc := 6) (tgt := 18) dC_knownKind_6 (by decide) (fun q2 => ?_) (fun q2 => absurd q2 (fun z => z hx))
      exact vth (pc := 18) (text := "no such kind") exIllegalArgumentException rfl rfl (by decide +kernel) dC_knownKind_18 dC_knownKind_21 dC_knownKind_22 dC_knownKind_24 dC_knownKind_27 (Nat.le_of_ble_eq_true rfl) (by omega) (by omega) (by omega) ⟨rfl, Or.inr ⟨rfl, Or.inr hx⟩⟩
  · refine se_iload_n (pc := 0) rfl dC_knownKind_0 ?_
    refine se_if_lt (pc := 1) (tgt := 18) dC_knownKind_1 (by decide) (fun q1 => absurd q1 (nI_pos (by omega))) (fun q1 => ?_)
    refine se_iload_n (pc := 4) rfl dC_knownKind_4 ?_
    refine se_iconst (pc := 5) 5 (by decide) dC_knownKind_5 ?_
    refine se_icmp_ge (pc := 6) (tgt := 18) dC_knownKind_6 (by decide) (fun q2 => absurd q2 (nI_ge (b := 5) (by omega) (by decide))) (fun q2 => ?_)
    refine se_aload_n (pc := 9) rfl dC_knownKind_9 ?_
    refine se_getf (pc := 10) clC 0 dC_knownKind_10 wd_58 rfl (by decide) hC.1 rfl ?_
    refine se_iload_n (pc := 13) rfl dC_knownKind_13 ?_
    refine se_aaldN (pc := 14) 3 dC_knownKind_14 rfl hC.2.1 (by omega) (by decide) (some (st_K o j)) (if_pos hj) ?_
    refine se_ifnonnull (pc := 15) (tgt := 28) dC_knownKind_15 (by decide) ?_
    refine se_aload_n (pc := 28) rfl dC_knownKind_28 ?_
    refine se_getf (pc := 29) clC 0 dC_knownKind_29 wd_58 rfl (by decide) hC.1 rfl ?_
    refine se_iload_n (pc := 32) rfl dC_knownKind_32 ?_
    refine se_aaldN (pc := 33) 3 dC_knownKind_33 rfl hC.2.1 (by omega) (by decide) (some (st_K o j)) (if_pos hj) ?_
    exact se_aret (pc := 34) (r := some (st_K o j)) dC_knownKind_34 rfl ⟨rfl, Or.inl ⟨j, hj, rfl, rfl⟩⟩
set_option maxHeartbeats 1000000 in
set_option maxRecDepth 100000 in
theorem c_C_knownVehicle {o : Nat} {β : Nat → Nat} {S : st_S} {x : Int32} (hd : 6 ≤ d) (hC : is_C o β S h) (hn : st_nv S ≤ 20) : se_W (vG sc) l d mC_knownVehicle 0 (se_ent 2 [.ref o, .int x]) [] h 1 6 (fun u h' => h' = h ∧ ((∃ j, j < st_nv S ∧ x = nI j ∧ u = .inl (some (.ref (β j)))) ∨ (u = .inr "java/lang/IllegalArgumentException" ∧ (x < 0 ∨ nI (st_nv S) ≤ x)))) := by
  show se_W (vG sc) l d mC_knownVehicle 0 [some (.ref o), some (.int x)] [] h 1 6 _
  rcases st_ix x (n := 20) (by decide) with (hx | hx) | ⟨j, hj20, rfl⟩
  · refine se_iload_n (pc := 0) rfl dC_knownVehicle_0 ?_
    refine se_if_lt (pc := 1) (tgt := 19) dC_knownVehicle_1 (by decide) (fun q1 => ?_) (fun q1 => absurd q1 (fun z => z hx))
    exact vth (pc := 19) (text := "no such vehicle") exIllegalArgumentException rfl rfl (by decide +kernel) dC_knownVehicle_19 dC_knownVehicle_22 dC_knownVehicle_23 dC_knownVehicle_25 dC_knownVehicle_28 (Nat.le_of_ble_eq_true rfl) (by omega) (by omega) (by omega) ⟨rfl, Or.inr ⟨rfl, Or.inl hx⟩⟩
  · refine se_iload_n (pc := 0) rfl dC_knownVehicle_0 ?_
    refine se_if_lt (pc := 1) (tgt := 19) dC_knownVehicle_1 (by decide) (fun q1 => ?_) (fun q1 => ?_)
    · exact vth (pc := 19) (text := "no such vehicle") exIllegalArgumentException rfl rfl (by decide +kernel) dC_knownVehicle_19 dC_knownVehicle_22 dC_knownVehicle_23 dC_knownVehicle_25 dC_knownVehicle_28 (Nat.le_of_ble_eq_true rfl) (by omega) (by omega) (by omega) ⟨rfl, Or.inr ⟨rfl, Or.inr (Int32.le_trans (nI_le hn (by decide)) hx)⟩⟩
    · refine se_iload_n (pc := 4) rfl dC_knownVehicle_4 ?_
      refine se_bipush (pc := 5) 20 (by decide) dC_knownVehicle_5 ?_
      refine se_icmp_ge (pc := 7) (tgt := 19) dC_knownVehicle_7 (by decide) (fun q2 => ?_) (fun q2 => absurd q2 (fun z => z hx))
      exact vth (pc := 19) (text := "no such vehicle") exIllegalArgumentException rfl rfl (by decide +kernel) dC_knownVehicle_19 dC_knownVehicle_22 dC_knownVehicle_23 dC_knownVehicle_25 dC_knownVehicle_28 (Nat.le_of_ble_eq_true rfl) (by omega) (by omega) (by omega) ⟨rfl, Or.inr ⟨rfl, Or.inr (Int32.le_trans (nI_le hn (by decide)) hx)⟩⟩
  · by_cases hj : j < st_nv S
    · refine se_iload_n (pc := 0) rfl dC_knownVehicle_0 ?_
      refine se_if_lt (pc := 1) (tgt := 19) dC_knownVehicle_1 (by decide) (fun q1 => absurd q1 (nI_pos (by omega))) (fun q1 => ?_)
      refine se_iload_n (pc := 4) rfl dC_knownVehicle_4 ?_
      refine se_bipush (pc := 5) 20 (by decide) dC_knownVehicle_5 ?_
      refine se_icmp_ge (pc := 7) (tgt := 19) dC_knownVehicle_7 (by decide) (fun q2 => absurd q2 (nI_ge (b := 20) (by omega) (by decide))) (fun q2 => ?_)
      refine se_aload_n (pc := 10) rfl dC_knownVehicle_10 ?_
      refine se_getf (pc := 11) clC 1 dC_knownVehicle_11 wd_59 rfl (by decide) hC.1 rfl ?_
      refine se_iload_n (pc := 14) rfl dC_knownVehicle_14 ?_
      refine se_aaldN (pc := 15) 4 dC_knownVehicle_15 rfl hC.2.2.1 hj20 (by decide) (some (β j)) (if_pos hj) ?_
      refine se_ifnonnull (pc := 16) (tgt := 29) dC_knownVehicle_16 (by decide) ?_
      refine se_aload_n (pc := 29) rfl dC_knownVehicle_29 ?_
      refine se_getf (pc := 30) clC 1 dC_knownVehicle_30 wd_59 rfl (by decide) hC.1 rfl ?_
      refine se_iload_n (pc := 33) rfl dC_knownVehicle_33 ?_
      refine se_aaldN (pc := 34) 4 dC_knownVehicle_34 rfl hC.2.2.1 hj20 (by decide) (some (β j)) (if_pos hj) ?_
      exact se_aret (pc := 35) (r := some (β j)) dC_knownVehicle_35 rfl ⟨rfl, Or.inl ⟨j, hj, rfl, rfl⟩⟩
    · refine se_iload_n (pc := 0) rfl dC_knownVehicle_0 ?_
      refine se_if_lt (pc := 1) (tgt := 19) dC_knownVehicle_1 (by decide) (fun q1 => absurd q1 (nI_pos (by omega))) (fun q1 => ?_)
      refine se_iload_n (pc := 4) rfl dC_knownVehicle_4 ?_
      refine se_bipush (pc := 5) 20 (by decide) dC_knownVehicle_5 ?_
      refine se_icmp_ge (pc := 7) (tgt := 19) dC_knownVehicle_7 (by decide) (fun q2 => absurd q2 (nI_ge (b := 20) (by omega) (by decide))) (fun q2 => ?_)
      refine se_aload_n (pc := 10) rfl dC_knownVehicle_10 ?_
      refine se_getf (pc := 11) clC 1 dC_knownVehicle_11 wd_59 rfl (by decide) hC.1 rfl ?_
      refine se_iload_n (pc := 14) rfl dC_knownVehicle_14 ?_
      refine se_aaldN (pc := 15) 4 dC_knownVehicle_15 rfl hC.2.2.1 hj20 (by decide) none (if_neg hj) ?_
      refine se_ifnonnullN (pc := 16) dC_knownVehicle_16 ?_
      exact vth (pc := 19) (text := "no such vehicle") exIllegalArgumentException rfl rfl (by decide +kernel) dC_knownVehicle_19 dC_knownVehicle_22 dC_knownVehicle_23 dC_knownVehicle_25 dC_knownVehicle_28 (Nat.le_of_ble_eq_true rfl) (by omega) (by omega) (by omega) ⟨rfl, Or.inr ⟨rfl, Or.inr (nI_le (by omega) (by omega))⟩⟩
end LEAF2
