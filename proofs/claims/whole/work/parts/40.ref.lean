/-! THE REFERENCE: its arrays by the same state -/
def rf_l (S : st_S) (t : Nat) : Nat → Int32 := fun j => S t (j / 10) (j % 10)
def rf_v (S : st_S) (t : Nat) : Nat → Int32 := fun j => S t j 0
def st_an (S : st_S) (v i : Nat) : Bool := !decide (S 8 v i = -1)
def rf_an (S : st_S) : Nat → Int32 := fun j => st_b (st_an S (j / 10) (j % 10))
def rf_at (S : st_S) : Nat → Int32 := fun j => if st_an S (j / 10) (j % 10) then S 8 (j / 10) (j % 10) else 0
def rf_by (S : st_S) : Nat → Int32 := fun j => if st_an S (j / 10) (j % 10) then S 9 (j / 10) (j % 10) else 0
def rf_ky (S : st_S) : Nat → Int32 := fun j => if j < st_nv S then S 20 j 0 else 0
theorem nx10 {a b : Nat} : (10 : Int32) * nI a + nI b = nI (10 * a + b) := by
  rw [show (10 : Int32) = nI 10 from rfl, pk_mul, nI_add]
theorem rf_d {k i : Nat} (hi : i < 10) : (10 * k + i) / 10 = k ∧ (10 * k + i) % 10 = i := by omega
theorem rf_l_at {S : st_S} {t k i : Nat} (hi : i < 10) : rf_l S t (10 * k + i) = S t k i := by
  simp only [rf_l, (rf_d hi).1, (rf_d hi).2]
theorem rf_v_at {S : st_S} {t v : Nat} : rf_v S t v = S t v 0 := rfl
theorem rf_kd {S : st_S} {v : Nat} (h : S 11 v 0 = nI (st_kd S v)) : rf_v S 11 v = nI (st_kd S v) := h
theorem rf_an_at {S : st_S} {k i : Nat} (hi : i < 10) : rf_an S (10 * k + i) = st_b (st_an S k i) := by
  simp only [rf_an, (rf_d hi).1, (rf_d hi).2]
theorem rf_at_at {S : st_S} {k i : Nat} (hi : i < 10) (h : ¬ st_b (st_an S k i) = 0) : rf_at S (10 * k + i) = S 8 k i := by
  simp only [rf_at, (rf_d hi).1, (rf_d hi).2]
  rw [if_pos]
  cases hb : st_an S k i
  · rw [hb] at h; exact absurd rfl h
  · rfl
theorem rf_by_at {S : st_S} {k i : Nat} (hi : i < 10) (h : ¬ st_b (st_an S k i) = 0) : rf_by S (10 * k + i) = S 9 k i := by
  simp only [rf_by, (rf_d hi).1, (rf_d hi).2]
  rw [if_pos]
  cases hb : st_an S k i
  · rw [hb] at h; exact absurd rfl h
  · rfl
theorem rf_ky_at {S : st_S} {v : Nat} (h : v < st_nv S) : rf_ky S v = S 20 v 0 := by simp [rf_ky, h]
/-- the reference's object; t: what it says of the last refusal -/
def is_R (S : st_S) (t : Int32) (h : se_H) : Prop :=
  h[41]? = some (.inr (3, [.int t, .int (S 26 0 0), .ref 42, .ref 43, .ref 44, .ref 45, .ref 46, .ref 47, .int (S 24 0 0), .ref 48, .ref 49, .ref 50, .ref 51, .ref 52, .ref 53, .ref 54, .ref 55, .ref 56, .ref 57, .ref 58, .ref 59, .ref 60, .ref 61, .ref 62, .ref 63, .int (S 25 0 0), .ref 64, .ref 65, .ref 66])) ∧
  h[42]? = some (.inl (.boolean, (50, .inl (rf_l S 0)))) ∧
  h[43]? = some (.inl (.int, (50, .inl (rf_l S 1)))) ∧
  h[44]? = some (.inl (.int, (50, .inl (rf_l S 2)))) ∧
  h[45]? = some (.inl (.int, (50, .inl (rf_l S 3)))) ∧
  h[46]? = some (.inl (.int, (50, .inl (rf_l S 4)))) ∧
  h[47]? = some (.inl (.int, (50, .inl (rf_l S 5)))) ∧
  h[48]? = some (.inl (.int, (20, .inl (rf_v S 11)))) ∧
  h[49]? = some (.inl (.boolean, (20, .inl (rf_v S 12)))) ∧
  h[50]? = some (.inl (.boolean, (20, .inl (rf_v S 14)))) ∧
  h[51]? = some (.inl (.int, (20, .inl (rf_v S 13)))) ∧
  h[52]? = some (.inl (.int, (20, .inl (rf_v S 15)))) ∧
  h[53]? = some (.inl (.int, (20, .inl (rf_v S 16)))) ∧
  h[54]? = some (.inl (.int, (20, .inl (rf_v S 17)))) ∧
  h[55]? = some (.inl (.int, (20, .inl (rf_v S 18)))) ∧
  h[56]? = some (.inl (.int, (20, .inl (rf_v S 19)))) ∧
  h[57]? = some (.inl (.int, (20, .inl (rf_ky S)))) ∧
  h[58]? = some (.inl (.int, (200, .inl (rf_l S 6)))) ∧
  h[59]? = some (.inl (.boolean, (200, .inl (rf_an S)))) ∧
  h[60]? = some (.inl (.int, (200, .inl (rf_l S 7)))) ∧
  h[61]? = some (.inl (.int, (200, .inl (rf_at S)))) ∧
  h[62]? = some (.inl (.int, (200, .inl (rf_by S)))) ∧
  h[63]? = some (.inl (.int, (200, .inl (rf_l S 10)))) ∧
  h[64]? = some (.inl (.int, (100, .inl (S 21 0)))) ∧
  h[65]? = some (.inl (.int, (100, .inl (S 22 0)))) ∧
  h[66]? = some (.inl (.int, (100, .inl (S 23 0))))
def st_fR (h h' : se_H) : Prop := h'.length = h.length ∧ ∀ a, a < 41 ∨ 67 ≤ a → h'[a]? = h[a]?
theorem fR_rf (h : se_H) : st_fR h h := ⟨rfl, fun _ _ => rfl⟩
theorem fR_tr {h h1 h2 : se_H} (a : st_fR h h1) (b : st_fR h1 h2) : st_fR h h2 := ⟨b.1.trans a.1, fun q h3 => (b.2 q h3).trans (a.2 q h3)⟩
theorem fR_set {h : se_H} {a : Nat} {x : se_E} (h1 : 41 ≤ a) (h2 : a < 67) : st_fR h (h.set a x) := ⟨List.length_set, fun q h3 => by rw [List.getElem?_set, if_neg (by omega)]⟩
/-- and further what holds of every state -/
def st_J (S : st_S) : Prop := (∀ v, v < st_nv S → S 11 v 0 = nI (st_kd S v))
section REF
variable {sc : List (Nat × Nat × (Nat → Int32))} {l : Launch} {d : Nat} {h : se_H} {S : st_S} {t : Int32}
set_option maxHeartbeats 4000000 in
set_option maxRecDepth 100000 in
theorem c_R_in {x a b : Int32} : se_W (vG sc) l d mR_in 0 (se_ent 3 [.int x, .int a, .int b]) [] h 0 0 (fun u h' => h' = h ∧ u = .inl (some (.int (st_b (st_in a b x))))) := by
  show se_W (vG sc) l d mR_in 0 [some (.int x), some (.int a), some (.int b)] [] h 0 0 _
  refine se_iload_n (pc := 0) rfl dR_in_0 ?_
  refine se_iload_n (pc := 1) rfl dR_in_1 ?_
  refine se_icmp_lt (pc := 2) (tgt := 14) dR_in_2 (by decide) (fun q1 => ?_) (fun q1 => ?_)
  · refine se_iconst (pc := 14) 0 (by decide) dR_in_14 ?_
    exact se_zret (pc := 15) dR_in_15 rfl (by first | decide | exact st_b01 _) ⟨rfl, by first | (simp_all [st_b, st_in]; done) | (simp_all [st_b, st_in, Int32.le_iff_toInt_le, Int32.lt_iff_toInt_lt]; omega)⟩
  · refine se_iload_n (pc := 5) rfl dR_in_5 ?_
    refine se_iload_n (pc := 6) rfl dR_in_6 ?_
    refine se_icmp_gt (pc := 7) (tgt := 14) dR_in_7 (by decide) (fun q2 => ?_) (fun q2 => ?_)
    · refine se_iconst (pc := 14) 0 (by decide) dR_in_14 ?_
      exact se_zret (pc := 15) dR_in_15 rfl (by first | decide | exact st_b01 _) ⟨rfl, by first | (simp_all [st_b, st_in]; done) | (simp_all [st_b, st_in, Int32.le_iff_toInt_le, Int32.lt_iff_toInt_lt]; omega)⟩
    · refine se_iconst (pc := 10) 1 (by decide) dR_in_10 ?_
      refine se_goto (pc := 11) (tgt := 15) dR_in_11 (by decide) ?_
      exact se_zret (pc := 15) dR_in_15 rfl (by first | decide | exact st_b01 _) ⟨rfl, by first | (simp_all [st_b, st_in]; done) | (simp_all [st_b, st_in, Int32.le_iff_toInt_le, Int32.lt_iff_toInt_lt]; omega)⟩
def st_go (x y z : Int32) : Int32 := if x = 0 then 1 else if y = 0 then 2 else if z = 0 then 3 else 0
set_option maxHeartbeats 4000000 in
set_option maxRecDepth 100000 in
theorem c_R_goes {x y z : Int32} (hR : is_R S t h) : se_W (vG sc) l d mR_goes 0 (se_ent 4 [.ref 41, .int x, .int y, .int z]) [] h 0 0 (fun u h' => h' = h.set 41 (.inr (3, [.int (st_go x y z), .int (S 26 0 0), .ref 42, .ref 43, .ref 44, .ref 45, .ref 46, .ref 47, .int (S 24 0 0), .ref 48, .ref 49, .ref 50, .ref 51, .ref 52, .ref 53, .ref 54, .ref 55, .ref 56, .ref 57, .ref 58, .ref 59, .ref 60, .ref 61, .ref 62, .ref 63, .int (S 25 0 0), .ref 64, .ref 65, .ref 66])) ∧ u = .inl (some (.int (if st_go x y z = 0 then 1 else 0)))) := by
  show se_W (vG sc) l d mR_goes 0 [some (.ref 41), some (.int x), some (.int y), some (.int z)] [] h 0 0 _
  refine se_aload_n (pc := 0) rfl dR_goes_0 ?_
  refine se_iload_n (pc := 1) rfl dR_goes_1 ?_
  refine se_if_ne (pc := 2) (tgt := 9) dR_goes_2 (by decide) (fun q1 => ?_) (fun q1 => ?_)
  · refine se_iload_n (pc := 9) rfl dR_goes_9 ?_
    refine se_if_ne (pc := 10) (tgt := 17) dR_goes_10 (by decide) (fun q2 => ?_) (fun q2 => ?_)
    · refine se_iload_n (pc := 17) rfl dR_goes_17 ?_
      refine se_if_ne (pc := 18) (tgt := 25) dR_goes_18 (by decide) (fun q3 => ?_) (fun q3 => ?_)
      · refine se_iconst (pc := 25) 0 (by decide) dR_goes_25 ?_
        refine se_putf (pc := 26) clR 0 dR_goes_26 wd_553 rfl (by decide) rfl (fun _ => ⟨rfl, rfl⟩) hR.1 (Nat.le_of_ble_eq_true rfl) ?_
        refine se_aload_n (pc := 29) rfl dR_goes_29 ?_
        refine se_getf (pc := 30) clR 0 dR_goes_30 wd_553 rfl (by decide) (st_eq hR.1) rfl ?_
        refine se_if_ne (pc := 33) (tgt := 40) dR_goes_33 (by decide) (fun q4 => ?_) (fun q4 => ?_)
        · refine se_iconst (pc := 40) 0 (by decide) dR_goes_40 ?_
          exact se_zret (pc := 41) dR_goes_41 rfl (by decide) ⟨by simp_all [st_go], by simp_all [st_go]⟩
        · refine se_iconst (pc := 36) 1 (by decide) dR_goes_36 ?_
          refine se_goto (pc := 37) (tgt := 41) dR_goes_37 (by decide) ?_
          exact se_zret (pc := 41) dR_goes_41 rfl (by decide) ⟨by simp_all [st_go], by simp_all [st_go]⟩
      · refine se_iconst (pc := 21) 3 (by decide) dR_goes_21 ?_
        refine se_goto (pc := 22) (tgt := 26) dR_goes_22 (by decide) ?_
        refine se_putf (pc := 26) clR 0 dR_goes_26 wd_553 rfl (by decide) rfl (fun _ => ⟨rfl, rfl⟩) hR.1 (Nat.le_of_ble_eq_true rfl) ?_
        refine se_aload_n (pc := 29) rfl dR_goes_29 ?_
        refine se_getf (pc := 30) clR 0 dR_goes_30 wd_553 rfl (by decide) (st_eq hR.1) rfl ?_
        refine se_if_ne (pc := 33) (tgt := 40) dR_goes_33 (by decide) (fun q5 => ?_) (fun q5 => ?_)
        · refine se_iconst (pc := 40) 0 (by decide) dR_goes_40 ?_
          exact se_zret (pc := 41) dR_goes_41 rfl (by decide) ⟨by simp_all [st_go], by simp_all [st_go]⟩
        · refine se_iconst (pc := 36) 1 (by decide) dR_goes_36 ?_
          refine se_goto (pc := 37) (tgt := 41) dR_goes_37 (by decide) ?_
          exact se_zret (pc := 41) dR_goes_41 rfl (by decide) ⟨by simp_all [st_go], by simp_all [st_go]⟩
    · refine se_iconst (pc := 13) 2 (by decide) dR_goes_13 ?_
      refine se_goto (pc := 14) (tgt := 26) dR_goes_14 (by decide) ?_
      refine se_putf (pc := 26) clR 0 dR_goes_26 wd_553 rfl (by decide) rfl (fun _ => ⟨rfl, rfl⟩) hR.1 (Nat.le_of_ble_eq_true rfl) ?_
      refine se_aload_n (pc := 29) rfl dR_goes_29 ?_
      refine se_getf (pc := 30) clR 0 dR_goes_30 wd_553 rfl (by decide) (st_eq hR.1) rfl ?_
      refine se_if_ne (pc := 33) (tgt := 40) dR_goes_33 (by decide) (fun q6 => ?_) (fun q6 => ?_)
      · refine se_iconst (pc := 40) 0 (by decide) dR_goes_40 ?_
        exact se_zret (pc := 41) dR_goes_41 rfl (by decide) ⟨by simp_all [st_go], by simp_all [st_go]⟩
      · refine se_iconst (pc := 36) 1 (by decide) dR_goes_36 ?_
        refine se_goto (pc := 37) (tgt := 41) dR_goes_37 (by decide) ?_
        exact se_zret (pc := 41) dR_goes_41 rfl (by decide) ⟨by simp_all [st_go], by simp_all [st_go]⟩
  · refine se_iconst (pc := 5) 1 (by decide) dR_goes_5 ?_
    refine se_goto (pc := 6) (tgt := 26) dR_goes_6 (by decide) ?_
    refine se_putf (pc := 26) clR 0 dR_goes_26 wd_553 rfl (by decide) rfl (fun _ => ⟨rfl, rfl⟩) hR.1 (Nat.le_of_ble_eq_true rfl) ?_
    refine se_aload_n (pc := 29) rfl dR_goes_29 ?_
    refine se_getf (pc := 30) clR 0 dR_goes_30 wd_553 rfl (by decide) (st_eq hR.1) rfl ?_
    refine se_if_ne (pc := 33) (tgt := 40) dR_goes_33 (by decide) (fun q7 => ?_) (fun q7 => ?_)
    · refine se_iconst (pc := 40) 0 (by decide) dR_goes_40 ?_
      exact se_zret (pc := 41) dR_goes_41 rfl (by decide) ⟨by simp_all [st_go], by simp_all [st_go]⟩
    · refine se_iconst (pc := 36) 1 (by decide) dR_goes_36 ?_
      refine se_goto (pc := 37) (tgt := 41) dR_goes_37 (by decide) ?_
      exact se_zret (pc := 41) dR_goes_41 rfl (by decide) ⟨by simp_all [st_go], by simp_all [st_go]⟩
set_option maxHeartbeats 4000000 in
set_option maxRecDepth 100000 in
theorem c_R_isItem {x : Int32} (hd : 1 ≤ d) : se_W (vG sc) l d mR_isItem 0 (se_ent 1 [.int x]) [] h 0 0 (fun u h' => h' = h ∧ u = .inl (some (.int (st_b (st_in 0 9 x))))) := by
  obtain ⟨d, rfl⟩ : ∃ e, d = e + 1 := ⟨d - 1, by omega⟩
  show se_W (vG sc) l (d + 1) mR_isItem 0 [some (.int x)] [] h 0 0 _
  refine se_iload_n (pc := 0) rfl dR_isItem_0 ?_
  refine se_iconst (pc := 1) 0 (by decide) dR_isItem_1 ?_
  refine se_bipush (pc := 2) 9 (by decide) dR_isItem_2 ?_
  refine se_invS (pc := 4) (as := [.int x, .int 0, .int 9]) (st := []) (vok sc) kR_in dR_isItem_4 ⟨wd_652, wd_653, wd_3⟩ rfl (Nat.le_of_ble_eq_true rfl) (Nat.le_of_ble_eq_true rfl) (c_R_in) (C2 := 0) (S2 := 0) (by omega) (by omega) (fun v4 h4 _ q4 => ?_) (fun x hx => absurd hx List.not_mem_nil) (fun v4 h4 _ q4 => ?_)
  rotate_left
  · cases q4.2
  obtain ⟨rfl, q4⟩ := q4
  cases q4
  exact se_zret (pc := 7) dR_isItem_7 rfl (by first | decide | exact st_b01 _) ⟨rfl, rfl⟩
set_option maxHeartbeats 4000000 in
set_option maxRecDepth 100000 in
theorem c_R_isKind {x : Int32} (hd : 1 ≤ d) : se_W (vG sc) l d mR_isKind 0 (se_ent 1 [.int x]) [] h 0 0 (fun u h' => h' = h ∧ u = .inl (some (.int (st_b (st_in 0 4 x))))) := by
  obtain ⟨d, rfl⟩ : ∃ e, d = e + 1 := ⟨d - 1, by omega⟩
  show se_W (vG sc) l (d + 1) mR_isKind 0 [some (.int x)] [] h 0 0 _
  refine se_iload_n (pc := 0) rfl dR_isKind_0 ?_
  refine se_iconst (pc := 1) 0 (by decide) dR_isKind_1 ?_
  refine se_iconst (pc := 2) 4 (by decide) dR_isKind_2 ?_
  refine se_invS (pc := 3) (as := [.int x, .int 0, .int 4]) (st := []) (vok sc) kR_in dR_isKind_3 ⟨wd_652, wd_653, wd_3⟩ rfl (Nat.le_of_ble_eq_true rfl) (Nat.le_of_ble_eq_true rfl) (c_R_in) (C2 := 0) (S2 := 0) (by omega) (by omega) (fun v3 h3 _ q3 => ?_) (fun x hx => absurd hx List.not_mem_nil) (fun v3 h3 _ q3 => ?_)
  rotate_left
  · cases q3.2
  obtain ⟨rfl, q3⟩ := q3
  cases q3
  exact se_zret (pc := 6) dR_isKind_6 rfl (by first | decide | exact st_b01 _) ⟨rfl, rfl⟩
set_option maxHeartbeats 4000000 in
set_option maxRecDepth 100000 in
theorem c_R_isPerson {x : Int32} (hd : 1 ≤ d) : se_W (vG sc) l d mR_isPerson 0 (se_ent 1 [.int x]) [] h 0 0 (fun u h' => h' = h ∧ u = .inl (some (.int (st_b (st_in 0 39 x))))) := by
  obtain ⟨d, rfl⟩ : ∃ e, d = e + 1 := ⟨d - 1, by omega⟩
  show se_W (vG sc) l (d + 1) mR_isPerson 0 [some (.int x)] [] h 0 0 _
  refine se_iload_n (pc := 0) rfl dR_isPerson_0 ?_
  refine se_iconst (pc := 1) 0 (by decide) dR_isPerson_1 ?_
  refine se_bipush (pc := 2) 39 (by decide) dR_isPerson_2 ?_
  refine se_invS (pc := 4) (as := [.int x, .int 0, .int 39]) (st := []) (vok sc) kR_in dR_isPerson_4 ⟨wd_652, wd_653, wd_3⟩ rfl (Nat.le_of_ble_eq_true rfl) (Nat.le_of_ble_eq_true rfl) (c_R_in) (C2 := 0) (S2 := 0) (by omega) (by omega) (fun v4 h4 _ q4 => ?_) (fun x hx => absurd hx List.not_mem_nil) (fun v4 h4 _ q4 => ?_)
  rotate_left
  · cases q4.2
  obtain ⟨rfl, q4⟩ := q4
  cases q4
  exact se_zret (pc := 7) dR_isPerson_7 rfl (by first | decide | exact st_b01 _) ⟨rfl, rfl⟩
set_option maxHeartbeats 4000000 in
set_option maxRecDepth 100000 in
theorem c_R_isThing {x : Int32} (hd : 1 ≤ d) : se_W (vG sc) l d mR_isThing 0 (se_ent 1 [.int x]) [] h 0 0 (fun u h' => h' = h ∧ u = .inl (some (.int (st_b (st_in 0 9 x))))) := by
  obtain ⟨d, rfl⟩ : ∃ e, d = e + 1 := ⟨d - 1, by omega⟩
  show se_W (vG sc) l (d + 1) mR_isThing 0 [some (.int x)] [] h 0 0 _
  refine se_iload_n (pc := 0) rfl dR_isThing_0 ?_
  refine se_iconst (pc := 1) 0 (by decide) dR_isThing_1 ?_
  refine se_bipush (pc := 2) 9 (by decide) dR_isThing_2 ?_
  refine se_invS (pc := 4) (as := [.int x, .int 0, .int 9]) (st := []) (vok sc) kR_in dR_isThing_4 ⟨wd_652, wd_653, wd_3⟩ rfl (Nat.le_of_ble_eq_true rfl) (Nat.le_of_ble_eq_true rfl) (c_R_in) (C2 := 0) (S2 := 0) (by omega) (by omega) (fun v4 h4 _ q4 => ?_) (fun x hx => absurd hx List.not_mem_nil) (fun v4 h4 _ q4 => ?_)
  rotate_left
  · cases q4.2
  obtain ⟨rfl, q4⟩ := q4
  cases q4
  exact se_zret (pc := 7) dR_isThing_7 rfl (by first | decide | exact st_b01 _) ⟨rfl, rfl⟩
set_option maxHeartbeats 4000000 in
set_option maxRecDepth 100000 in
theorem c_R_isVehicle {x : Int32} (hd : 1 ≤ d) (hR : is_R S t h) : se_W (vG sc) l d mR_isVehicle 0 (se_ent 2 [.ref 41, .int x]) [] h 0 0 (fun u h' => h' = h ∧ u = .inl (some (.int (st_b (st_in 0 (S 24 0 0 - 1) x))))) := by
  obtain ⟨d, rfl⟩ : ∃ e, d = e + 1 := ⟨d - 1, by omega⟩
  show se_W (vG sc) l (d + 1) mR_isVehicle 0 [some (.ref 41), some (.int x)] [] h 0 0 _
  refine se_iload_n (pc := 0) rfl dR_isVehicle_0 ?_
  refine se_iconst (pc := 1) 0 (by decide) dR_isVehicle_1 ?_
  refine se_aload_n (pc := 2) rfl dR_isVehicle_2 ?_
  refine se_getf (pc := 3) clR 8 dR_isVehicle_3 wd_561 rfl (by decide) hR.1 rfl ?_
  refine se_iconst (pc := 6) 1 (by decide) dR_isVehicle_6 ?_
  refine se_isub (pc := 7) dR_isVehicle_7 ?_
  refine se_invS (pc := 8) (as := [.int x, .int 0, .int ((S 24 0 0) - 1)]) (st := []) (vok sc) kR_in dR_isVehicle_8 ⟨wd_652, wd_653, wd_3⟩ rfl (Nat.le_of_ble_eq_true rfl) (Nat.le_of_ble_eq_true rfl) (c_R_in) (C2 := 0) (S2 := 0) (by omega) (by omega) (fun v8 h8 _ q8 => ?_) (fun x hx => absurd hx List.not_mem_nil) (fun v8 h8 _ q8 => ?_)
  rotate_left
  · cases q8.2
  obtain ⟨rfl, q8⟩ := q8
  cases q8
  exact se_zret (pc := 11) dR_isVehicle_11 rfl (by first | decide | exact st_b01 _) ⟨rfl, rfl⟩
set_option maxHeartbeats 4000000 in
set_option maxRecDepth 100000 in
theorem c_R_rule {v i : Nat} (hR : is_R S t h) (hJ : S 11 v 0 = nI (st_kd S v)) (hv : v < 20) (hk : st_kd S v < 5) (hi : i < 10) : se_W (vG sc) l d mR_rule 0 (se_ent 3 [.ref 41, .int (nI v), .int (nI i)]) [] h 0 0 (fun u h' => h' = h ∧ u = .inl (some (.int (nI (10 * st_kd S v + i))))) := by
  show se_W (vG sc) l d mR_rule 0 [some (.ref 41), some (.int (nI v)), some (.int (nI i))] [] h 0 0 _
  refine se_bipush (pc := 0) 10 (by decide) dR_rule_0 ?_
  refine se_aload_n (pc := 2) rfl dR_rule_2 ?_
  refine se_getf (pc := 3) clR 9 dR_rule_3 wd_562 rfl (by decide) hR.1 rfl ?_
  refine se_iload_n (pc := 6) rfl dR_rule_6 ?_
  refine se_ialdN (pc := 7) 0 dR_rule_7 rfl hR.2.2.2.2.2.2.2.1 (by omega) (by decide) ?_
  rw [rf_kd (by assumption)]
  refine se_imul (pc := 8) dR_rule_8 ?_
  refine se_iload_n (pc := 9) rfl dR_rule_9 ?_
  refine se_iadd (pc := 10) dR_rule_10 ?_
  rw [nx10]
  exact se_iret (pc := 11) dR_rule_11 rfl ⟨rfl, rfl⟩
set_option maxHeartbeats 4000000 in
set_option maxRecDepth 100000 in
theorem c_R_isWithin {v i : Nat} {x : Int32} (hd : 1 ≤ d) (hR : is_R S t h) (hJ : S 11 v 0 = nI (st_kd S v)) (hv : v < 20) (hk : st_kd S v < 5) (hi : i < 10) : se_W (vG sc) l d mR_isWithin 0 (se_ent 4 [.ref 41, .int (nI v), .int (nI i), .int x]) [] h 0 0 (fun u h' => h' = h ∧ u = .inl (some (.int (st_b (st_wi S (st_kd S v) i x))))) := by
  obtain ⟨d, rfl⟩ : ∃ e, d = e + 1 := ⟨d - 1, by omega⟩
  show se_W (vG sc) l (d + 1) mR_isWithin 0 [some (.ref 41), some (.int (nI v)), some (.int (nI i)), some (.int x)] [] h 0 0 _
  refine se_iload_n (pc := 0) rfl dR_isWithin_0 ?_
  refine se_aload_n (pc := 1) rfl dR_isWithin_1 ?_
  refine se_getf (pc := 2) clR 3 dR_isWithin_2 wd_556 rfl (by decide) hR.1 rfl ?_
  refine se_aload_n (pc := 5) rfl dR_isWithin_5 ?_
  refine se_iload_n (pc := 6) rfl dR_isWithin_6 ?_
  refine se_iload_n (pc := 7) rfl dR_isWithin_7 ?_
  refine se_invV (pc := 8) (as := [.int (nI v), .int (nI i)]) (st := [.ref 43, .int x]) (vok sc) kR_rule dR_isWithin_8 ⟨wd_683, wd_685, sl_12, wd_3⟩ rfl hR.1 rfl (Nat.le_of_ble_eq_true rfl) (Nat.le_of_ble_eq_true rfl) (c_R_rule hR hJ hv hk hi) (C2 := 0) (S2 := 0) (by omega) (by omega) (fun v8 h8 _ q8 => ?_) (fun x hx => absurd hx List.not_mem_nil) (fun v8 h8 _ q8 => ?_)
  rotate_left
  · cases q8.2
  obtain ⟨rfl, q8⟩ := q8
  cases q8
  refine se_ialdN (pc := 11) 0 dR_isWithin_11 rfl hR.2.2.1 (by omega) (by decide) ?_
  rw [rf_l_at (by omega)]
  refine se_aload_n (pc := 12) rfl dR_isWithin_12 ?_
  refine se_getf (pc := 13) clR 4 dR_isWithin_13 wd_557 rfl (by decide) hR.1 rfl ?_
  refine se_aload_n (pc := 16) rfl dR_isWithin_16 ?_
  refine se_iload_n (pc := 17) rfl dR_isWithin_17 ?_
  refine se_iload_n (pc := 18) rfl dR_isWithin_18 ?_
  refine se_invV (pc := 19) (as := [.int (nI v), .int (nI i)]) (st := [.ref 44, .int (S 1 (st_kd S v) i), .int x]) (vok sc) kR_rule dR_isWithin_19 ⟨wd_683, wd_685, sl_12, wd_3⟩ rfl hR.1 rfl (Nat.le_of_ble_eq_true rfl) (Nat.le_of_ble_eq_true rfl) (c_R_rule hR hJ hv hk hi) (C2 := 0) (S2 := 0) (by omega) (by omega) (fun v19 h19 _ q19 => ?_) (fun x hx => absurd hx List.not_mem_nil) (fun v19 h19 _ q19 => ?_)
  rotate_left
  · cases q19.2
  obtain ⟨rfl, q19⟩ := q19
  cases q19
  refine se_ialdN (pc := 22) 0 dR_isWithin_22 rfl hR.2.2.2.1 (by omega) (by decide) ?_
  rw [rf_l_at (by omega)]
  refine se_invS (pc := 23) (as := [.int x, .int (S 1 (st_kd S v) i), .int (S 2 (st_kd S v) i)]) (st := []) (vok sc) kR_in dR_isWithin_23 ⟨wd_652, wd_653, wd_3⟩ rfl (Nat.le_of_ble_eq_true rfl) (Nat.le_of_ble_eq_true rfl) (c_R_in) (C2 := 0) (S2 := 0) (by omega) (by omega) (fun v23 h23 _ q23 => ?_) (fun x hx => absurd hx List.not_mem_nil) (fun v23 h23 _ q23 => ?_)
  rotate_left
  · cases q23.2
  obtain ⟨rfl, q23⟩ := q23
  cases q23
  exact se_zret (pc := 26) dR_isWithin_26 rfl (by first | decide | exact st_b01 _) ⟨rfl, rfl⟩
set_option maxHeartbeats 4000000 in
set_option maxRecDepth 100000 in
theorem c_R_fails {v i : Nat} (hd : 2 ≤ d) (hR : is_R S t h) (hJ : S 11 v 0 = nI (st_kd S v)) (hv : v < 20) (hk : st_kd S v < 5) (hi : i < 10) : se_W (vG sc) l d mR_fails 0 (se_ent 3 [.ref 41, .int (nI v), .int (nI i)]) [] h 0 0 (fun u h' => h' = h ∧ u = .inl (some (.int (st_b (st_fa S (st_kd S v) v i))))) := by
  obtain ⟨d, rfl⟩ : ∃ e, d = e + 1 := ⟨d - 1, by omega⟩
  show se_W (vG sc) l (d + 1) mR_fails 0 [some (.ref 41), some (.int (nI v)), some (.int (nI i))] [] h 0 0 _
  refine se_aload_n (pc := 0) rfl dR_fails_0 ?_
  refine se_getf (pc := 1) clR 2 dR_fails_1 wd_555 rfl (by decide) hR.1 rfl ?_
  refine se_aload_n (pc := 4) rfl dR_fails_4 ?_
  refine se_iload_n (pc := 5) rfl dR_fails_5 ?_
  refine se_iload_n (pc := 6) rfl dR_fails_6 ?_
  refine se_invV (pc := 7) (as := [.int (nI v), .int (nI i)]) (st := [.ref 42]) (vok sc) kR_rule dR_fails_7 ⟨wd_683, wd_685, sl_12, wd_3⟩ rfl hR.1 rfl (Nat.le_of_ble_eq_true rfl) (Nat.le_of_ble_eq_true rfl) (c_R_rule hR hJ hv hk hi) (C2 := 0) (S2 := 0) (by omega) (by omega) (fun v7 h7 _ q7 => ?_) (fun x hx => absurd hx List.not_mem_nil) (fun v7 h7 _ q7 => ?_)
  rotate_left
  · cases q7.2
  obtain ⟨rfl, q7⟩ := q7
  cases q7
  refine se_zaldN (pc := 10) 1 dR_fails_10 rfl hR.2.1 (by omega) (by decide) ?_
  rw [rf_l_at (by omega)]
  refine se_if_eq (pc := 11) (tgt := 52) dR_fails_11 (by decide) (fun q1 => ?_) (fun q1 => ?_)
  · refine se_iconst (pc := 52) 0 (by decide) dR_fails_52 ?_
    exact se_zret (pc := 53) dR_fails_53 rfl (by decide) ⟨rfl, by (try simp only [st_b0] at *); simp_all [st_b, st_fa, st_an]⟩
  · refine se_aload_n (pc := 14) rfl dR_fails_14 ?_
    refine se_getf (pc := 15) clR 20 dR_fails_15 wd_573 rfl (by decide) hR.1 rfl ?_
    refine se_bipush (pc := 18) 10 (by decide) dR_fails_18 ?_
    refine se_iload_n (pc := 20) rfl dR_fails_20 ?_
    refine se_imul (pc := 21) dR_fails_21 ?_
    refine se_iload_n (pc := 22) rfl dR_fails_22 ?_
    refine se_iadd (pc := 23) dR_fails_23 ?_
    rw [nx10]
    refine se_zaldN (pc := 24) 1 dR_fails_24 rfl hR.2.2.2.2.2.2.2.2.2.2.2.2.2.2.2.2.2.2.1 (by omega) (by decide) ?_
    rw [rf_an_at (by omega)]
    refine se_if_eq (pc := 25) (tgt := 52) dR_fails_25 (by decide) (fun q2 => ?_) (fun q2 => ?_)
    · refine se_iconst (pc := 52) 0 (by decide) dR_fails_52 ?_
      exact se_zret (pc := 53) dR_fails_53 rfl (by decide) ⟨rfl, by (try simp only [st_b0] at *); simp_all [st_b, st_fa, st_an]⟩
    · refine se_aload_n (pc := 28) rfl dR_fails_28 ?_
      refine se_iload_n (pc := 29) rfl dR_fails_29 ?_
      refine se_iload_n (pc := 30) rfl dR_fails_30 ?_
      refine se_aload_n (pc := 31) rfl dR_fails_31 ?_
      refine se_getf (pc := 32) clR 21 dR_fails_32 wd_574 rfl (by decide) hR.1 rfl ?_
      refine se_bipush (pc := 35) 10 (by decide) dR_fails_35 ?_
      refine se_iload_n (pc := 37) rfl dR_fails_37 ?_
      refine se_imul (pc := 38) dR_fails_38 ?_
      refine se_iload_n (pc := 39) rfl dR_fails_39 ?_
      refine se_iadd (pc := 40) dR_fails_40 ?_
      rw [nx10]
      refine se_ialdN (pc := 41) 0 dR_fails_41 rfl hR.2.2.2.2.2.2.2.2.2.2.2.2.2.2.2.2.2.2.2.1 (by omega) (by decide) ?_
      rw [rf_l_at (by omega)]
      refine se_invV (pc := 42) (as := [.int (nI v), .int (nI i), .int (S 7 v i)]) (st := []) (vok sc) kR_isWithin dR_fails_42 ⟨wd_687, wd_689, sl_13, wd_3⟩ rfl hR.1 rfl (Nat.le_of_ble_eq_true rfl) (Nat.le_of_ble_eq_true rfl) (c_R_isWithin (by omega) hR hJ hv hk hi) (C2 := 0) (S2 := 0) (by omega) (by omega) (fun v42 h42 _ q42 => ?_) (fun x hx => absurd hx List.not_mem_nil) (fun v42 h42 _ q42 => ?_)
      rotate_left
      · cases q42.2
      obtain ⟨rfl, q42⟩ := q42
      cases q42
      refine se_if_ne (pc := 45) (tgt := 52) dR_fails_45 (by decide) (fun q3 => ?_) (fun q3 => ?_)
      · refine se_iconst (pc := 52) 0 (by decide) dR_fails_52 ?_
        exact se_zret (pc := 53) dR_fails_53 rfl (by decide) ⟨rfl, by (try simp only [st_b0] at *); simp_all [st_b, st_fa, st_an]⟩
      · refine se_iconst (pc := 48) 1 (by decide) dR_fails_48 ?_
        refine se_goto (pc := 49) (tgt := 53) dR_fails_49 (by decide) ?_
        exact se_zret (pc := 53) dR_fails_53 rfl (by decide) ⟨rfl, by (try simp only [st_b0] at *); simp_all [st_b, st_fa, st_an]⟩
end REF
