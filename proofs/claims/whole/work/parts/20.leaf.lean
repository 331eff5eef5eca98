section LEAF
variable {sc : List (Nat × Nat × (Nat → Int32))} {l : Launch} {d : Nat} {h : se_H}
set_option maxRecDepth 100000 in
theorem c_C_checkItem {i : Int32} (hd : 6 ≤ d) : se_W (vG sc) l d mC_checkItem 0 (se_ent 1 [.int i]) [] h 1 6 (fun o h' => h' = h ∧ ((o = .inl none ∧ (¬ i < 0 ∧ i < 10)) ∨ (o = .inr "java/lang/IllegalArgumentException" ∧ (i < 0 ∨ ¬ i < 10)))) := by
  show se_W (vG sc) l d mC_checkItem 0 [some (.int i)] [] h 1 6 _
  refine se_iload_n (pc := 0) rfl dC_checkItem_0 ?_
  refine se_if_lt (pc := 1) (tgt := 10) dC_checkItem_1 (by decide) (fun q1 => ?_) (fun q1 => ?_)
  · exact vth (pc := 10) (text := "no such item") exIllegalArgumentException rfl rfl (by decide +kernel) dC_checkItem_10 dC_checkItem_13 dC_checkItem_14 dC_checkItem_16 dC_checkItem_19 (Nat.le_of_ble_eq_true rfl) (by omega) (by omega) (by omega) ⟨rfl, by simp [*]⟩
  · refine se_iload_n (pc := 4) rfl dC_checkItem_4 ?_
    refine se_bipush (pc := 5) 10 (by decide) dC_checkItem_5 ?_
    refine se_icmp_lt (pc := 7) (tgt := 20) dC_checkItem_7 (by decide) (fun q2 => ?_) (fun q2 => ?_)
    · exact se_vret (pc := 20) dC_checkItem_20 rfl ⟨rfl, by simp [*]⟩
    · exact vth (pc := 10) (text := "no such item") exIllegalArgumentException rfl rfl (by decide +kernel) dC_checkItem_10 dC_checkItem_13 dC_checkItem_14 dC_checkItem_16 dC_checkItem_19 (Nat.le_of_ble_eq_true rfl) (by omega) (by omega) (by omega) ⟨rfl, by simp [*]⟩
set_option maxRecDepth 100000 in
theorem c_C_checkThing {i : Int32} (hd : 6 ≤ d) : se_W (vG sc) l d mC_checkThing 0 (se_ent 1 [.int i]) [] h 1 6 (fun o h' => h' = h ∧ ((o = .inl none ∧ (¬ i < 0 ∧ i < 10)) ∨ (o = .inr "java/lang/IllegalArgumentException" ∧ (i < 0 ∨ ¬ i < 10)))) := by
  show se_W (vG sc) l d mC_checkThing 0 [some (.int i)] [] h 1 6 _
  refine se_iload_n (pc := 0) rfl dC_checkThing_0 ?_
  refine se_if_lt (pc := 1) (tgt := 10) dC_checkThing_1 (by decide) (fun q1 => ?_) (fun q1 => ?_)
  · exact vth (pc := 10) (text := "no such thing") exIllegalArgumentException rfl rfl (by decide +kernel) dC_checkThing_10 dC_checkThing_13 dC_checkThing_14 dC_checkThing_16 dC_checkThing_19 (Nat.le_of_ble_eq_true rfl) (by omega) (by omega) (by omega) ⟨rfl, by simp [*]⟩
  · refine se_iload_n (pc := 4) rfl dC_checkThing_4 ?_
    refine se_bipush (pc := 5) 10 (by decide) dC_checkThing_5 ?_
    refine se_icmp_lt (pc := 7) (tgt := 20) dC_checkThing_7 (by decide) (fun q2 => ?_) (fun q2 => ?_)
    · exact se_vret (pc := 20) dC_checkThing_20 rfl ⟨rfl, by simp [*]⟩
    · exact vth (pc := 10) (text := "no such thing") exIllegalArgumentException rfl rfl (by decide +kernel) dC_checkThing_10 dC_checkThing_13 dC_checkThing_14 dC_checkThing_16 dC_checkThing_19 (Nat.le_of_ble_eq_true rfl) (by omega) (by omega) (by omega) ⟨rfl, by simp [*]⟩
set_option maxRecDepth 100000 in
theorem c_C_checkPerson {i : Int32} (hd : 6 ≤ d) : se_W (vG sc) l d mC_checkPerson 0 (se_ent 1 [.int i]) [] h 1 6 (fun o h' => h' = h ∧ ((o = .inl none ∧ (¬ i < 0 ∧ i < 40)) ∨ (o = .inr "java/lang/IllegalArgumentException" ∧ (i < 0 ∨ ¬ i < 40)))) := by
  show se_W (vG sc) l d mC_checkPerson 0 [some (.int i)] [] h 1 6 _
  refine se_iload_n (pc := 0) rfl dC_checkPerson_0 ?_
  refine se_if_lt (pc := 1) (tgt := 10) dC_checkPerson_1 (by decide) (fun q1 => ?_) (fun q1 => ?_)
  · exact vth (pc := 10) (text := "no such person") exIllegalArgumentException rfl rfl (by decide +kernel) dC_checkPerson_10 dC_checkPerson_13 dC_checkPerson_14 dC_checkPerson_16 dC_checkPerson_19 (Nat.le_of_ble_eq_true rfl) (by omega) (by omega) (by omega) ⟨rfl, by simp [*]⟩
  · refine se_iload_n (pc := 4) rfl dC_checkPerson_4 ?_
    refine se_bipush (pc := 5) 40 (by decide) dC_checkPerson_5 ?_
    refine se_icmp_lt (pc := 7) (tgt := 20) dC_checkPerson_7 (by decide) (fun q2 => ?_) (fun q2 => ?_)
    · exact se_vret (pc := 20) dC_checkPerson_20 rfl ⟨rfl, by simp [*]⟩
    · exact vth (pc := 10) (text := "no such person") exIllegalArgumentException rfl rfl (by decide +kernel) dC_checkPerson_10 dC_checkPerson_13 dC_checkPerson_14 dC_checkPerson_16 dC_checkPerson_19 (Nat.le_of_ble_eq_true rfl) (by omega) (by omega) (by omega) ⟨rfl, by simp [*]⟩
set_option maxRecDepth 100000 in
theorem c_C_checkRange {x a b : Int32} (hd : 6 ≤ d) : se_W (vG sc) l d mC_checkRange 0 (se_ent 3 [.int x, .int a, .int b]) [] h 1 6 (fun o h' => h' = h ∧ ((o = .inl none ∧ (¬ x < a ∧ x ≤ b)) ∨ (o = .inr "java/lang/IndexOutOfBoundsException" ∧ (x < a ∨ ¬ x ≤ b)))) := by
  show se_W (vG sc) l d mC_checkRange 0 [some (.int x), some (.int a), some (.int b)] [] h 1 6 _
  refine se_iload_n (pc := 0) rfl dC_checkRange_0 ?_
  refine se_iload_n (pc := 1) rfl dC_checkRange_1 ?_
  refine se_icmp_lt (pc := 2) (tgt := 10) dC_checkRange_2 (by decide) (fun q1 => ?_) (fun q1 => ?_)
  · exact vth (pc := 10) (text := "outside of its range") exIndexOutOfBoundsException rfl rfl (by decide +kernel) dC_checkRange_10 dC_checkRange_13 dC_checkRange_14 dC_checkRange_16 dC_checkRange_19 (Nat.le_of_ble_eq_true rfl) (by omega) (by omega) (by omega) ⟨rfl, by simp [*]⟩
  · refine se_iload_n (pc := 5) rfl dC_checkRange_5 ?_
    refine se_iload_n (pc := 6) rfl dC_checkRange_6 ?_
    refine se_icmp_le (pc := 7) (tgt := 20) dC_checkRange_7 (by decide) (fun q2 => ?_) (fun q2 => ?_)
    · exact se_vret (pc := 20) dC_checkRange_20 rfl ⟨rfl, by simp [*]⟩
    · exact vth (pc := 10) (text := "outside of its range") exIndexOutOfBoundsException rfl rfl (by decide +kernel) dC_checkRange_10 dC_checkRange_13 dC_checkRange_14 dC_checkRange_16 dC_checkRange_19 (Nat.le_of_ble_eq_true rfl) (by omega) (by omega) (by omega) ⟨rfl, by simp [*]⟩
set_option maxRecDepth 100000 in
theorem c_C_checkPlace {i : Int32} (hd : 6 ≤ d) : se_W (vG sc) l d mC_checkPlace 0 (se_ent 1 [.int i]) [] h 1 6 (fun o h' => h' = h ∧ ((o = .inl none ∧ 0 ≤ i) ∨ (o = .inr "java/lang/IndexOutOfBoundsException" ∧ ¬ 0 ≤ i))) := by
  show se_W (vG sc) l d mC_checkPlace 0 [some (.int i)] [] h 1 6 _
  refine se_iload_n (pc := 0) rfl dC_checkPlace_0 ?_
  refine se_if_ge (pc := 1) (tgt := 14) dC_checkPlace_1 (by decide) (fun q1 => ?_) (fun q1 => ?_)
  · exact se_vret (pc := 14) dC_checkPlace_14 rfl ⟨rfl, by simp [*]⟩
  · exact vth (pc := 4) (text := "the place is below 0") exIndexOutOfBoundsException rfl rfl (by decide +kernel) dC_checkPlace_4 dC_checkPlace_7 dC_checkPlace_8 dC_checkPlace_10 dC_checkPlace_13 (Nat.le_of_ble_eq_true rfl) (by omega) (by omega) (by omega) ⟨rfl, by simp [*]⟩
set_option maxRecDepth 100000 in
theorem c_C_checkRoom {x y z : Int32} (hd : 6 ≤ d) : se_W (vG sc) l d mC_checkRoom 0 (se_ent 3 [.int x, .int y, .int z]) [] h 1 6 (fun o h' => h' = h ∧ ((o = .inl none ∧ y ≤ z - x) ∨ (o = .inr "java/lang/UnsupportedOperationException" ∧ ¬ y ≤ z - x))) := by
  show se_W (vG sc) l d mC_checkRoom 0 [some (.int x), some (.int y), some (.int z)] [] h 1 6 _
  refine se_iload_n (pc := 0) rfl dC_checkRoom_0 ?_
  refine se_iload_n (pc := 1) rfl dC_checkRoom_1 ?_
  refine se_iload_n (pc := 2) rfl dC_checkRoom_2 ?_
  refine se_isub (pc := 3) dC_checkRoom_3 ?_
  refine se_icmp_le (pc := 4) (tgt := 17) dC_checkRoom_4 (by decide) (fun q1 => ?_) (fun q1 => ?_)
  · exact se_vret (pc := 17) dC_checkRoom_17 rfl ⟨rfl, by simp [*]⟩
  · exact vth (pc := 7) (text := "no room for so much more") exUnsupportedOperationException rfl rfl (by decide +kernel) dC_checkRoom_7 dC_checkRoom_10 dC_checkRoom_11 dC_checkRoom_13 dC_checkRoom_16 (Nat.le_of_ble_eq_true rfl) (by omega) (by omega) (by omega) ⟨rfl, by simp [*]⟩
set_option maxRecDepth 100000 in
theorem c_C_checkListed {a k j : Nat} {S : st_S} (hd : 6 ≤ d) (hK : is_K h a S k) (hj : j < 10) : se_W (vG sc) l d mC_checkListed 0 (se_ent 2 [.ref a, .int (nI j)]) [] h 1 6 (fun o h' => h' = h ∧ ((o = .inl none ∧ ¬ S 0 k j = 0) ∨ (o = .inr "java/lang/IllegalStateException" ∧ S 0 k j = 0))) := by
  show se_W (vG sc) l d mC_checkListed 0 [some (.ref a), some (.int (nI j))] [] h 1 6 _
  refine se_aload_n (pc := 0) rfl dC_checkListed_0 ?_
  refine se_getf (pc := 1) clK 0 dC_checkListed_1 wd_30 rfl (by decide) hK.1 rfl ?_
  refine se_iload_n (pc := 4) rfl dC_checkListed_4 ?_
  refine se_zaldN (pc := 5) 1 dC_checkListed_5 rfl hK.2.1 hj (by decide) ?_
  refine se_if_ne (pc := 6) (tgt := 19) dC_checkListed_6 (by decide) (fun q1 => ?_) (fun q1 => ?_)
  · exact se_vret (pc := 19) dC_checkListed_19 rfl ⟨rfl, by simp [*]⟩
  · exact vth (pc := 9) (text := "the item is not on the list") exIllegalStateException rfl rfl (by decide +kernel) dC_checkListed_9 dC_checkListed_12 dC_checkListed_13 dC_checkListed_15 dC_checkListed_18 (Nat.le_of_ble_eq_true rfl) (by omega) (by omega) (by omega) ⟨rfl, by simp [*]⟩
set_option maxRecDepth 100000 in
theorem c_C_oneOrZero {x : Int32} : se_W (vG sc) l d mC_oneOrZero 0 (se_ent 1 [.int x]) [] h 0 0 (fun o h' => h' = h ∧ o = .inl (some (.int (if x = 0 then 0 else 1)))) := by
  show se_W (vG sc) l d mC_oneOrZero 0 [some (.int x)] [] h 0 0 _
  refine se_iload_n (pc := 0) rfl dC_oneOrZero_0 ?_
  refine se_if_eq (pc := 1) (tgt := 8) dC_oneOrZero_1 (by decide) (fun q1 => ?_) (fun q1 => ?_)
  · refine se_iconst (pc := 8) 0 (by decide) dC_oneOrZero_8 ?_
    exact se_iret (pc := 9) dC_oneOrZero_9 rfl ⟨rfl, by simp [*]⟩
  · refine se_iconst (pc := 4) 1 (by decide) dC_oneOrZero_4 ?_
    refine se_goto (pc := 5) (tgt := 9) dC_oneOrZero_5 (by decide) ?_
    exact se_iret (pc := 9) dC_oneOrZero_9 rfl ⟨rfl, by simp [*]⟩
set_option maxRecDepth 100000 in
theorem c_K_isWithin {a k j : Nat} {S : st_S} {x : Int32} (hK : is_K h a S k) (hj : j < 10) : se_W (vG sc) l d mK_isWithin 0 (se_ent 3 [.ref a, .int (nI j), .int x]) [] h 0 0 (fun o h' => h' = h ∧ o = .inl (some (.int (st_b (st_wi S k j x))))) := by
  show se_W (vG sc) l d mK_isWithin 0 [some (.ref a), some (.int (nI j)), some (.int x)] [] h 0 0 _
  refine se_iload_n (pc := 0) rfl dK_isWithin_0 ?_
  refine se_aload_n (pc := 1) rfl dK_isWithin_1 ?_
  refine se_getf (pc := 2) clK 1 dK_isWithin_2 wd_31 rfl (by decide) hK.1 rfl ?_
  refine se_iload_n (pc := 5) rfl dK_isWithin_5 ?_
  refine se_ialdN (pc := 6) 0 dK_isWithin_6 rfl hK.2.2.1 hj (by decide) ?_
  refine se_icmp_lt (pc := 7) (tgt := 24) dK_isWithin_7 (by decide) (fun q1 => ?_) (fun q1 => ?_)
  · refine se_iconst (pc := 24) 0 (by decide) dK_isWithin_24 ?_
    exact se_zret (pc := 25) dK_isWithin_25 rfl (by decide) ⟨rfl, by first | (simp_all [st_b, st_wi]; done) | (simp_all [st_b, st_wi, Int32.le_iff_toInt_le, Int32.lt_iff_toInt_lt]; omega)⟩
  · refine se_iload_n (pc := 10) rfl dK_isWithin_10 ?_
    refine se_aload_n (pc := 11) rfl dK_isWithin_11 ?_
    refine se_getf (pc := 12) clK 2 dK_isWithin_12 wd_32 rfl (by decide) hK.1 rfl ?_
    refine se_iload_n (pc := 15) rfl dK_isWithin_15 ?_
    refine se_ialdN (pc := 16) 0 dK_isWithin_16 rfl hK.2.2.2.1 hj (by decide) ?_
    refine se_icmp_gt (pc := 17) (tgt := 24) dK_isWithin_17 (by decide) (fun q2 => ?_) (fun q2 => ?_)
    · refine se_iconst (pc := 24) 0 (by decide) dK_isWithin_24 ?_
      exact se_zret (pc := 25) dK_isWithin_25 rfl (by decide) ⟨rfl, by first | (simp_all [st_b, st_wi]; done) | (simp_all [st_b, st_wi, Int32.le_iff_toInt_le, Int32.lt_iff_toInt_lt]; omega)⟩
    · refine se_iconst (pc := 20) 1 (by decide) dK_isWithin_20 ?_
      refine se_goto (pc := 21) (tgt := 25) dK_isWithin_21 (by decide) ?_
      exact se_zret (pc := 25) dK_isWithin_25 rfl (by decide) ⟨rfl, by first | (simp_all [st_b, st_wi]; done) | (simp_all [st_b, st_wi, Int32.le_iff_toInt_le, Int32.lt_iff_toInt_lt]; omega)⟩
end LEAF
