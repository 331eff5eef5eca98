/-! WHAT HOLDS OF EVERY STATE is kept by every call -/
def st_V (n : Nat) (S : st_S) : Prop := st_I S ∧ st_F S ∧ st_Q n S
section KEEP
variable {n : Nat} {S : st_S} {t a b : Nat} {x : Int32}
theorem st_xs {m j : Nat} (hm : m < 2 ^ 31) (h : st_x m x = some j) : x = nI j ∧ j < m := by
  rcases st_ix x hm with q | ⟨i, hi, rfl⟩
  · rw [st_x_none q] at h; cases h
  · rw [st_x_some hm hi] at h; cases h; exact ⟨rfl, hi⟩
theorem up1 {P : Int32 → Prop} (h : ∀ v, P (S t v 0)) (hx : P x) : ∀ v, P (st_up S t a b x t v 0) := by
  intro v
  simp only [st_up, true_and]
  split
  · exact hx
  · exact h v
theorem up2 {P : Int32 → Prop} (h : ∀ v i, P (S t v i)) (hx : P x) : ∀ v i, P (st_up S t a b x t v i) := by
  intro v i
  simp only [st_up, true_and]
  split
  · exact hx
  · exact h v i
theorem Q_s (hQ : st_Q n S) : st_Q (n + 1) S := by
  obtain ⟨a1, a2, a3, a4, a5, a6, a7, a8, a9, a10, a11⟩ := hQ
  exact ⟨a1, a2, a3, a4, a5, a6, a7, a8, fun v i => by obtain ⟨U, U', h1, h2, h3⟩ := a9 v i; exact ⟨U, U', h1, by omega, h3⟩, a10, a11⟩
theorem V_s (h : st_V n S) : st_V (n + 1) S := ⟨h.1, h.2.1, Q_s h.2.2⟩
theorem F_in (h : st_F S) (ha : a < st_nv S) (ht : 24 ≠ t) : st_F (st_up S t a b x) := by
  intro v hv t' h1 h2
  rw [nv_up ht] at hv
  by_cases e : t' = t
  · subst e; rw [up_ne2 (by omega)]; exact h v hv t' h1 h2
  · rw [up_ne e]; exact h v hv t' h1 h2
theorem F_out (h : st_F S) (ht : t < 6 ∨ 20 < t) (h24 : 24 ≠ t) : st_F (st_up S t a b x) := by
  intro v hv t' h1 h2
  rw [nv_up h24] at hv
  rw [up_ne (by omega)]; exact h v hv t' h1 h2
theorem Q_ne (hQ : st_Q n S) (h0 : t = 1 ∨ t = 2 ∨ t = 4 ∨ t = 5 ∨ t = 12 ∨ t = 13 ∨ t = 14 ∨ t = 16 ∨ t = 20 ∨ t = 21) : st_Q n (st_up S t a b x) := by
  obtain ⟨a1, a2, a3, a4, a5, a6, a7, a8, a9, a10, a11⟩ := hQ
  rcases h0 with rfl | rfl | rfl | rfl | rfl | rfl | rfl | rfl | rfl | rfl <;> refine ⟨?_, ?_, ?_, ?_, ?_, ?_, ?_, ?_, ?_, ?_, ?_⟩ <;> simp (decide := true) only [up_ne, nd_up, nv_up, kd_up] <;> assumption
theorem Q_6 (hQ : st_Q n S) (hx : ∃ y, y ≤ 99 ∧ x = nI y) : st_Q n (st_up S 6 a b x) := by
  obtain ⟨a1, a2, a3, a4, a5, a6, a7, a8, a9, a10, a11⟩ := hQ
  refine ⟨?_, ?_, ?_, ?_, up2 (P := fun z => ∃ y, y ≤ 99 ∧ z = nI y) a5 hx, ?_, ?_, ?_, ?_, ?_, ?_⟩ <;> simp (decide := true) only [up_ne, nd_up, nv_up, kd_up] <;> assumption
theorem Q_18 (hQ : st_Q n S) (hx : ∃ y, y ≤ 1000000000 ∧ x = nI y) : st_Q n (st_up S 18 a b x) := by
  obtain ⟨a1, a2, a3, a4, a5, a6, a7, a8, a9, a10, a11⟩ := hQ
  refine ⟨?_, ?_, ?_, ?_, ?_, up1 (P := fun z => ∃ y, y ≤ 1000000000 ∧ z = nI y) a6 hx, ?_, ?_, ?_, ?_, ?_⟩ <;> simp (decide := true) only [up_ne, nd_up, nv_up, kd_up] <;> assumption
theorem Q_19 (hQ : st_Q n S) (hx : ∃ y, y ≤ 1000000000 ∧ x = nI y) : st_Q n (st_up S 19 a b x) := by
  obtain ⟨a1, a2, a3, a4, a5, a6, a7, a8, a9, a10, a11⟩ := hQ
  refine ⟨?_, ?_, ?_, ?_, ?_, ?_, up1 (P := fun z => ∃ y, y ≤ 1000000000 ∧ z = nI y) a7 hx, ?_, ?_, ?_, ?_⟩ <;> simp (decide := true) only [up_ne, nd_up, nv_up, kd_up] <;> assumption
theorem Q_15 (hQ : st_Q n S) (hx : ∃ y, y ≤ 1000000 ∧ x = nI y) : st_Q n (st_up S 15 a b x) := by
  obtain ⟨a1, a2, a3, a4, a5, a6, a7, a8, a9, a10, a11⟩ := hQ
  refine ⟨?_, ?_, ?_, ?_, ?_, ?_, ?_, up1 (P := fun z => ∃ y, y ≤ 1000000 ∧ z = nI y) a8 hx, ?_, ?_, ?_⟩ <;> simp (decide := true) only [up_ne, nd_up, nv_up, kd_up] <;> assumption
theorem Q_23 (hQ : st_Q n S) (hx : ∃ y, y ≤ 9999 ∧ x = nI y) : st_Q n (st_up S 23 0 b x) := by
  obtain ⟨a1, a2, a3, a4, a5, a6, a7, a8, a9, a10, a11⟩ := hQ
  refine ⟨?_, ?_, ?_, fun e => ?_, ?_, ?_, ?_, ?_, ?_, ?_, ?_⟩
  case refine_4 =>
    simp only [st_up, true_and]
    split
    · exact hx
    · exact a4 e
  all_goals simp (decide := true) only [up_ne, nd_up, nv_up, kd_up] <;> assumption
theorem Q_0 (hQ : st_Q n S) : st_Q n (st_up S 0 a b 0) := by
  obtain ⟨a1, a2, a3, a4, a5, a6, a7, a8, a9, a10, a11⟩ := hQ
  refine ⟨?_, fun k i => ?_, ?_, ?_, ?_, ?_, ?_, ?_, ?_, ?_, ?_⟩
  case refine_2 =>
    simp only [st_up, true_and]
    by_cases e : k = a ∧ i = b
    · exact Or.inl (if_pos e)
    · rw [if_neg e, if_neg (by intro q; exact absurd q.1 (by decide))]; exact a2 k i
  all_goals simp (decide := true) only [up_ne, nd_up, nv_up, kd_up] <;> assumption
theorem Q_3 (hQ : st_Q n S) {g : Nat} (h1 : 1 ≤ g) (h2 : g ≤ 3) : st_Q n (st_up S 3 a b (nI g)) := by
  obtain ⟨a1, a2, a3, a4, a5, a6, a7, a8, a9, a10, a11⟩ := hQ
  refine ⟨?_, fun k i => ?_, ?_, ?_, ?_, ?_, ?_, ?_, ?_, ?_, ?_⟩
  case refine_2 =>
    rw [up_ne (show (0 : Nat) ≠ 3 by decide)]
    rcases a2 k i with q | q
    · exact Or.inl q
    · refine Or.inr ?_
      simp only [st_up, true_and]
      split
      · exact ⟨g, h1, h2, rfl⟩
      · exact q
  all_goals simp (decide := true) only [up_ne, nd_up, nv_up, kd_up] <;> assumption
theorem Q_01 (hQ : st_Q n S) {g : Nat} (h1 : 1 ≤ g) (h2 : g ≤ 3) {y z : Int32} : st_Q n (st_up (st_up (st_up (st_up S 0 a b x) 1 a b y) 2 a b z) 3 a b (nI g)) := by
  obtain ⟨a1, a2, a3, a4, a5, a6, a7, a8, a9, a10, a11⟩ := hQ
  refine ⟨?_, fun k i => ?_, ?_, ?_, ?_, ?_, ?_, ?_, ?_, ?_, ?_⟩
  case refine_2 =>
    by_cases e : k = a ∧ i = b
    · obtain ⟨rfl, rfl⟩ := e
      exact Or.inr ⟨g, h1, h2, up_v⟩
    · have e0 : st_up (st_up (st_up (st_up S 0 a b x) 1 a b y) 2 a b z) 3 a b (nI g) 0 k i = S 0 k i := by
        rw [up_ne (by decide), up_ne (by decide), up_ne (by decide)]; simp only [st_up, true_and]; rw [if_neg e]
      have e3 : st_up (st_up (st_up (st_up S 0 a b x) 1 a b y) 2 a b z) 3 a b (nI g) 3 k i = S 3 k i := by
        have : st_up (st_up (st_up (st_up S 0 a b x) 1 a b y) 2 a b z) 3 a b (nI g) 3 k i = st_up (st_up (st_up S 0 a b x) 1 a b y) 2 a b z 3 k i := by
          show (if (3 = 3 ∧ k = a ∧ i = b) then _ else _) = _
          rw [if_neg (fun q => e q.2)]
        rw [this, up_ne (by decide), up_ne (by decide), up_ne (by decide)]
      rw [e0, e3]; exact a2 k i
  all_goals simp (decide := true) only [up_ne, nd_up, nv_up, kd_up] <;> assumption
theorem Q_ans (hQ : st_Q n S) {p : Int32} : st_Q n (st_up (st_up (st_up (st_up S 7 a b x) 8 a b (S 26 0 0)) 9 a b p) 10 a b (S 17 a 0)) := by
  have hr := q_hr hQ
  obtain ⟨a1, a2, a3, a4, a5, a6, a7, a8, a9, a10, a11⟩ := hQ
  have ne : ∀ {T : st_S} {t v i : Nat} {y : Int32}, ¬ (v = a ∧ i = b) → st_up T t a b y t v i = T t v i := fun {T t v i y} e => by
    show (if (t = t ∧ v = a ∧ i = b) then _ else _) = _
    rw [if_neg (fun q => e q.2)]
  refine ⟨?_, ?_, ?_, ?_, ?_, ?_, ?_, ?_, fun v i => ?_, fun v i h8 => ?_, ?_⟩
  case refine_9 =>
    rw [up_ne (show (17 : Nat) ≠ 10 by decide), up_ne (show (17 : Nat) ≠ 9 by decide), up_ne (show (17 : Nat) ≠ 8 by decide), up_ne (show (17 : Nat) ≠ 7 by decide)]
    by_cases e : v = a ∧ i = b
    · obtain ⟨rfl, rfl⟩ := e
      obtain ⟨U, U', h1, h2, h3, h4⟩ := a9 v i
      exact ⟨U, U, Nat.le_refl _, h2, h3, by rw [up_v]; exact h3⟩
    · rw [ne e, up_ne (show (10 : Nat) ≠ 9 by decide), up_ne (show (10 : Nat) ≠ 8 by decide), up_ne (show (10 : Nat) ≠ 7 by decide)]; exact a9 v i
  case refine_10 =>
    by_cases e : v = a ∧ i = b
    · obtain ⟨rfl, rfl⟩ := e
      rw [up_ne (show (8 : Nat) ≠ 10 by decide), up_ne (show (8 : Nat) ≠ 9 by decide), up_v] at h8
      exact absurd h8 hr
    · rw [up_ne (show (8 : Nat) ≠ 10 by decide), up_ne (show (8 : Nat) ≠ 9 by decide), ne e, up_ne (show (8 : Nat) ≠ 7 by decide)] at h8
      obtain ⟨b1, b2, b3⟩ := a10 v i h8
      refine ⟨?_, ?_, ?_⟩
      · rw [up_ne (by decide), up_ne (by decide), up_ne (by decide), ne e]; exact b1
      · rw [up_ne (by decide), ne e, up_ne (by decide), up_ne (by decide)]; exact b2
      · rw [ne e, up_ne (by decide), up_ne (by decide), up_ne (by decide)]; exact b3
  all_goals simp (decide := true) only [up_ne, nd_up, nv_up, kd_up] <;> assumption
theorem Q_17 (hQ : st_Q n S) : st_Q (n + 1) (st_up S 17 a 0 (S 17 a 0 + 1)) := by
  obtain ⟨a1, a2, a3, a4, a5, a6, a7, a8, a9, a10, a11⟩ := hQ
  refine ⟨?_, ?_, ?_, ?_, ?_, ?_, ?_, ?_, fun v i => ?_, ?_, ?_⟩
  case refine_9 =>
    rw [up_ne (show (10 : Nat) ≠ 17 by decide)]
    obtain ⟨U, U', h1, h2, h3, h4⟩ := a9 v i
    by_cases e : v = a
    · subst e
      exact ⟨U + 1, U', by omega, by omega, by rw [up_v, h3, nI_1], h4⟩
    · exact ⟨U, U', h1, by omega, by rw [up_ne2 e]; exact h3, h4⟩
  all_goals simp (decide := true) only [up_ne, nd_up, nv_up, kd_up] <;> assumption
theorem Q_dam (hQ : st_Q n S) (hI : st_I S) {y : Int32} {g : Nat} (h1 : 1 ≤ g) (h2 : g ≤ 3) (hd : st_nd S < 100) : st_Q n (st_up (st_up (st_up S 21 0 (st_nd S) y) 22 0 (st_nd S) (nI g)) 25 0 0 (nI (st_nd S) + 1)) := by
  obtain ⟨a1, a2, a3, a4, a5, a6, a7, a8, a9, a10, a11⟩ := hQ
  have en : st_nd (st_up (st_up (st_up S 21 0 (st_nd S) y) 22 0 (st_nd S) (nI g)) 25 0 0 (nI (st_nd S) + 1)) = st_nd S + 1 := by
    show (st_up _ 25 0 0 (nI (st_nd S) + 1) 25 0 0).toNatClampNeg = _
    rw [up_v, nI_1, nI_clamp (by omega)]
  refine ⟨?_, ?_, fun e he => ?_, ?_, ?_, ?_, ?_, ?_, ?_, ?_, ?_⟩
  case refine_3 =>
    rw [en] at he
    rw [up_ne (show (22 : Nat) ≠ 25 by decide)]
    by_cases q : e = st_nd S
    · subst q; exact ⟨g, h1, h2, up_v⟩
    · obtain ⟨g', b1, b2, b3⟩ := a3 e (by omega)
      refine ⟨g', b1, b2, ?_⟩
      rw [up_eq, up_ne (show (22 : Nat) ≠ 21 by decide), upd, if_neg q]; exact b3
  all_goals simp (decide := true) only [up_ne, nv_up, kd_up] <;> assumption
theorem I_dam (hI : st_I S) {y z : Int32} (hd : st_nd S < 100) : st_I (st_up (st_up (st_up S 21 0 (st_nd S) y) 22 0 (st_nd S) z) 25 0 0 (nI (st_nd S) + 1)) := by
  have en : st_nd (st_up (st_up (st_up S 21 0 (st_nd S) y) 22 0 (st_nd S) z) 25 0 0 (nI (st_nd S) + 1)) = st_nd S + 1 := by
    show (st_up _ 25 0 0 (nI (st_nd S) + 1) 25 0 0).toNatClampNeg = _
    rw [up_v, nI_1, nI_clamp (by omega)]
  obtain ⟨h1, h2, h3, h4, h5⟩ := hI
  refine ⟨?_, ?_, ?_, ?_, ?_⟩
  · simp (decide := true) only [up_ne, nv_up]; exact h1
  · simp (decide := true) only [nv_up]; exact h2
  · rw [en, up_v, nI_1]
  · rw [en]; omega
  · simp (decide := true) only [nv_up, kd_up]; exact h5
theorem V_veh (h : st_V n S) {k : Nat} {s : Int32} (hk : k < 5) (hn : st_nv S < 20) : st_V n (st_nV S (nI k) s) := by
  obtain ⟨⟨i1, i2, i3, i4, i5⟩, hF, a1, a2, a3, a4, a5, a6, a7, a8, a9, a10, a11⟩ := h
  have en := nV_nv (S := S) (k := nI k) (s := s) i2
  have nt : ∀ {t}, t ≠ 11 → t ≠ 12 → t ≠ 13 → t ≠ 24 → st_nV S (nI k) s t = S t := nV_t
  have ed : st_nd (st_nV S (nI k) s) = st_nd S := by simp only [st_nd]; rw [nt (by decide) (by decide) (by decide) (by decide)]
  have ekn : st_kd (st_nV S (nI k) s) (st_nv S) = k := by
    show (st_nV S (nI k) s 11 (st_nv S) 0).toNatClampNeg = k
    rw [nV_11, nI_clamp (by omega)]
  have eko : ∀ v, v ≠ st_nv S → st_kd (st_nV S (nI k) s) v = st_kd S v := fun v hv => by
    show (st_nV S (nI k) s 11 v 0).toNatClampNeg = _
    rw [nV_v hv (by decide)]; rfl
  refine ⟨⟨?_, ?_, ?_, ?_, ?_⟩, ?_, ?_, ?_, ?_, ?_, ?_, ?_, ?_, ?_, ?_, ?_, ?_⟩
  · rw [en, nV_24, nI_1]
  · rw [en]; omega
  · rw [ed, nt (by decide) (by decide) (by decide) (by decide)]; exact i3
  · rw [ed]; exact i4
  · intro v hv
    rw [en] at hv
    by_cases e : v = st_nv S
    · subst e; rw [ekn]; exact hk
    · rw [eko v e]; exact i5 v (by omega)
  · intro v hv t h1 h2
    rw [en] at hv
    rw [nV_v (by omega) (by omega)]; exact hF v (by omega) t h1 h2
  · rw [nt (by decide) (by decide) (by decide) (by decide)]; exact a1
  · rw [nt (t := 0) (by decide) (by decide) (by decide) (by decide), nt (t := 3) (by decide) (by decide) (by decide) (by decide)]; exact a2
  · rw [ed, nt (by decide) (by decide) (by decide) (by decide)]; exact a3
  · rw [nt (by decide) (by decide) (by decide) (by decide)]; exact a4
  · rw [nt (by decide) (by decide) (by decide) (by decide)]; exact a5
  · rw [nt (by decide) (by decide) (by decide) (by decide)]; exact a6
  · rw [nt (by decide) (by decide) (by decide) (by decide)]; exact a7
  · rw [nt (by decide) (by decide) (by decide) (by decide)]; exact a8
  · rw [nt (t := 17) (by decide) (by decide) (by decide) (by decide), nt (t := 10) (by decide) (by decide) (by decide) (by decide)]; exact a9
  · rw [nt (t := 8) (by decide) (by decide) (by decide) (by decide), nt (t := 7) (by decide) (by decide) (by decide) (by decide), nt (t := 9) (by decide) (by decide) (by decide) (by decide), nt (t := 10) (by decide) (by decide) (by decide) (by decide)]; exact a10
  · intro v hv
    rw [en] at hv
    by_cases e : v = st_nv S
    · subst e; rw [ekn, nV_11]
    · rw [eko v e, nV_v e (by decide)]; exact a11 v (by omega)
end KEEP
