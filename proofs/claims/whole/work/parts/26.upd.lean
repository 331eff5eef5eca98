/-! the state changes at one place, and one cell of the class's with it -/
theorem up_ne {S : st_S} {t a b t' : Nat} {x : Int32} (h : t' ≠ t) : st_up S t a b x t' = S t' := by funext a' b'; simp [st_up, h]
theorem up_ne2 {S : st_S} {t a b a' : Nat} {x : Int32} (h : a' ≠ a) : st_up S t a b x t a' = S t a' := by funext b'; simp [st_up, h]
theorem up_eq {S : st_S} {t a b : Nat} {x : Int32} : st_up S t a b x t a = upd (S t a) b x := by funext b'; simp [st_up, upd]
theorem up_v {S : st_S} {t a b : Nat} {x : Int32} : st_up S t a b x t a b = x := by simp [st_up]
/-- what lies between the class's fixed cells and its vehicles stays -/
def st_fr (h h' : se_H) : Prop := h'.length = h.length ∧ ∀ a, 41 ≤ a → a < 68 → h'[a]? = h[a]?
theorem fr_rf (h : se_H) : st_fr h h := ⟨rfl, fun _ _ _ => rfl⟩
theorem fr_tr {h h1 h2 : se_H} (a : st_fr h h1) (b : st_fr h1 h2) : st_fr h h2 := ⟨b.1.trans a.1, fun q h3 h4 => (b.2 q h3 h4).trans (a.2 q h3 h4)⟩
theorem fr_set {h : se_H} {a : Nat} {x : se_E} (ha : a < 41 ∨ 68 ≤ a) : st_fr h (h.set a x) := ⟨List.length_set, fun q h1 h2 => by rw [List.getElem?_set, if_neg (by omega)]⟩
section UPD
variable {o : Nat} {β : Nat → Nat} {S : st_S} {h : se_H}
set_option maxHeartbeats 2000000 in
theorem uK0 {k j : Nat} {x : Int32} (hC : is_C o β S h) (hk : k < 5) : is_C o β (st_up S 0 k j x) (h.set (st_K o k + 1) (.inl (.boolean, (10, .inl (upd (S 0 k) j x))))) := by
  have hKk : st_K o k + 6 < o + 37 ∧ o + 2 ≤ st_K o k := by simp only [st_K]; omega
  obtain ⟨c1, c2, c3, c4, c5, c6, c7, c8, c9, c10⟩ := hC
  have e24 : st_nv (st_up S 0 k j x) = st_nv S := by simp [st_nv, up_ne]
  have e11 : ∀ v, st_kd (st_up S 0 k j x) v = st_kd S v := fun v => by simp [st_kd, up_ne]
  refine ⟨?_, ?_, ?_, ?_, ?_, ?_, ?_, ?_, ?_, ?_⟩
  · simp only [up_ne (show (24 : Nat) ≠ 0 by decide), up_ne (show (25 : Nat) ≠ 0 by decide), up_ne (show (26 : Nat) ≠ 0 by decide)]; exact st_ne c1 (by omega)
  · exact st_ne c2 (by omega)
  · rw [e24]; exact st_ne c3 (by omega)
  · rw [up_ne (show (21 : Nat) ≠ 0 by decide)]; exact st_ne c4 (by omega)
  · rw [up_ne (show (22 : Nat) ≠ 0 by decide)]; exact st_ne c5 (by omega)
  · rw [up_ne (show (23 : Nat) ≠ 0 by decide)]; exact st_ne c6 (by omega)
  · intro k' hk'
    obtain ⟨d0, d1, d2, d3, d4, d5, d6⟩ := c7 k' hk'
    by_cases hkk : k' = k
    · subst hkk
      exact ⟨st_ne d0 (by omega), by rw [up_eq]; exact st_eq d1, by rw [up_ne (show (1 : Nat) ≠ 0 by decide)]; exact st_ne d2 (by omega), by rw [up_ne (show (2 : Nat) ≠ 0 by decide)]; exact st_ne d3 (by omega), by rw [up_ne (show (3 : Nat) ≠ 0 by decide)]; exact st_ne d4 (by omega), by rw [up_ne (show (4 : Nat) ≠ 0 by decide)]; exact st_ne d5 (by omega), by rw [up_ne (show (5 : Nat) ≠ 0 by decide)]; exact st_ne d6 (by omega)⟩
    · have hdis : st_K o k' + 6 < st_K o k ∨ st_K o k + 6 < st_K o k' := by simp only [st_K]; omega
      exact ⟨st_ne d0 (by omega), by rw [up_ne2 hkk]; exact st_ne d1 (by omega), by rw [up_ne (show (1 : Nat) ≠ 0 by decide)]; exact st_ne d2 (by omega), by rw [up_ne (show (2 : Nat) ≠ 0 by decide)]; exact st_ne d3 (by omega), by rw [up_ne (show (3 : Nat) ≠ 0 by decide)]; exact st_ne d4 (by omega), by rw [up_ne (show (4 : Nat) ≠ 0 by decide)]; exact st_ne d5 (by omega), by rw [up_ne (show (5 : Nat) ≠ 0 by decide)]; exact st_ne d6 (by omega)⟩
  · intro v hv
    rw [e24] at hv
    rw [e11]
    have hb := c9 v hv
    obtain ⟨d0, d1, d2, d3, d4, d5⟩ := c8 v hv
    exact ⟨by simp only [up_ne (show (12 : Nat) ≠ 0 by decide), up_ne (show (13 : Nat) ≠ 0 by decide), up_ne (show (14 : Nat) ≠ 0 by decide), up_ne (show (15 : Nat) ≠ 0 by decide), up_ne (show (16 : Nat) ≠ 0 by decide), up_ne (show (17 : Nat) ≠ 0 by decide), up_ne (show (18 : Nat) ≠ 0 by decide), up_ne (show (19 : Nat) ≠ 0 by decide), up_ne (show (20 : Nat) ≠ 0 by decide)]; exact st_ne d0 (by omega), by rw [up_ne (show (6 : Nat) ≠ 0 by decide)]; exact st_ne d1 (by omega), by rw [up_ne (show (7 : Nat) ≠ 0 by decide)]; exact st_ne d2 (by omega), by rw [up_ne (show (8 : Nat) ≠ 0 by decide)]; exact st_ne d3 (by omega), by rw [up_ne (show (9 : Nat) ≠ 0 by decide)]; exact st_ne d4 (by omega), by rw [up_ne (show (10 : Nat) ≠ 0 by decide)]; exact st_ne d5 (by omega)⟩
  · intro v hv; rw [e24] at hv; exact c9 v hv
  · intro v w hvw hw; rw [e24] at hw; exact c10 v w hvw hw
set_option maxHeartbeats 2000000 in
theorem uK1 {k j : Nat} {x : Int32} (hC : is_C o β S h) (hk : k < 5) : is_C o β (st_up S 1 k j x) (h.set (st_K o k + 2) (.inl (.int, (10, .inl (upd (S 1 k) j x))))) := by
  have hKk : st_K o k + 6 < o + 37 ∧ o + 2 ≤ st_K o k := by simp only [st_K]; omega
  obtain ⟨c1, c2, c3, c4, c5, c6, c7, c8, c9, c10⟩ := hC
  have e24 : st_nv (st_up S 1 k j x) = st_nv S := by simp [st_nv, up_ne]
  have e11 : ∀ v, st_kd (st_up S 1 k j x) v = st_kd S v := fun v => by simp [st_kd, up_ne]
  refine ⟨?_, ?_, ?_, ?_, ?_, ?_, ?_, ?_, ?_, ?_⟩
  · simp only [up_ne (show (24 : Nat) ≠ 1 by decide), up_ne (show (25 : Nat) ≠ 1 by decide), up_ne (show (26 : Nat) ≠ 1 by decide)]; exact st_ne c1 (by omega)
  · exact st_ne c2 (by omega)
  · rw [e24]; exact st_ne c3 (by omega)
  · rw [up_ne (show (21 : Nat) ≠ 1 by decide)]; exact st_ne c4 (by omega)
  · rw [up_ne (show (22 : Nat) ≠ 1 by decide)]; exact st_ne c5 (by omega)
  · rw [up_ne (show (23 : Nat) ≠ 1 by decide)]; exact st_ne c6 (by omega)
  · intro k' hk'
    obtain ⟨d0, d1, d2, d3, d4, d5, d6⟩ := c7 k' hk'
    by_cases hkk : k' = k
    · subst hkk
      exact ⟨st_ne d0 (by omega), by rw [up_ne (show (0 : Nat) ≠ 1 by decide)]; exact st_ne d1 (by omega), by rw [up_eq]; exact st_eq d2, by rw [up_ne (show (2 : Nat) ≠ 1 by decide)]; exact st_ne d3 (by omega), by rw [up_ne (show (3 : Nat) ≠ 1 by decide)]; exact st_ne d4 (by omega), by rw [up_ne (show (4 : Nat) ≠ 1 by decide)]; exact st_ne d5 (by omega), by rw [up_ne (show (5 : Nat) ≠ 1 by decide)]; exact st_ne d6 (by omega)⟩
    · have hdis : st_K o k' + 6 < st_K o k ∨ st_K o k + 6 < st_K o k' := by simp only [st_K]; omega
      exact ⟨st_ne d0 (by omega), by rw [up_ne (show (0 : Nat) ≠ 1 by decide)]; exact st_ne d1 (by omega), by rw [up_ne2 hkk]; exact st_ne d2 (by omega), by rw [up_ne (show (2 : Nat) ≠ 1 by decide)]; exact st_ne d3 (by omega), by rw [up_ne (show (3 : Nat) ≠ 1 by decide)]; exact st_ne d4 (by omega), by rw [up_ne (show (4 : Nat) ≠ 1 by decide)]; exact st_ne d5 (by omega), by rw [up_ne (show (5 : Nat) ≠ 1 by decide)]; exact st_ne d6 (by omega)⟩
  · intro v hv
    rw [e24] at hv
    rw [e11]
    have hb := c9 v hv
    obtain ⟨d0, d1, d2, d3, d4, d5⟩ := c8 v hv
    exact ⟨by simp only [up_ne (show (12 : Nat) ≠ 1 by decide), up_ne (show (13 : Nat) ≠ 1 by decide), up_ne (show (14 : Nat) ≠ 1 by decide), up_ne (show (15 : Nat) ≠ 1 by decide), up_ne (show (16 : Nat) ≠ 1 by decide), up_ne (show (17 : Nat) ≠ 1 by decide), up_ne (show (18 : Nat) ≠ 1 by decide), up_ne (show (19 : Nat) ≠ 1 by decide), up_ne (show (20 : Nat) ≠ 1 by decide)]; exact st_ne d0 (by omega), by rw [up_ne (show (6 : Nat) ≠ 1 by decide)]; exact st_ne d1 (by omega), by rw [up_ne (show (7 : Nat) ≠ 1 by decide)]; exact st_ne d2 (by omega), by rw [up_ne (show (8 : Nat) ≠ 1 by decide)]; exact st_ne d3 (by omega), by rw [up_ne (show (9 : Nat) ≠ 1 by decide)]; exact st_ne d4 (by omega), by rw [up_ne (show (10 : Nat) ≠ 1 by decide)]; exact st_ne d5 (by omega)⟩
  · intro v hv; rw [e24] at hv; exact c9 v hv
  · intro v w hvw hw; rw [e24] at hw; exact c10 v w hvw hw
set_option maxHeartbeats 2000000 in
theorem uK2 {k j : Nat} {x : Int32} (hC : is_C o β S h) (hk : k < 5) : is_C o β (st_up S 2 k j x) (h.set (st_K o k + 3) (.inl (.int, (10, .inl (upd (S 2 k) j x))))) := by
  have hKk : st_K o k + 6 < o + 37 ∧ o + 2 ≤ st_K o k := by simp only [st_K]; omega
  obtain ⟨c1, c2, c3, c4, c5, c6, c7, c8, c9, c10⟩ := hC
  have e24 : st_nv (st_up S 2 k j x) = st_nv S := by simp [st_nv, up_ne]
  have e11 : ∀ v, st_kd (st_up S 2 k j x) v = st_kd S v := fun v => by simp [st_kd, up_ne]
  refine ⟨?_, ?_, ?_, ?_, ?_, ?_, ?_, ?_, ?_, ?_⟩
  · simp only [up_ne (show (24 : Nat) ≠ 2 by decide), up_ne (show (25 : Nat) ≠ 2 by decide), up_ne (show (26 : Nat) ≠ 2 by decide)]; exact st_ne c1 (by omega)
  · exact st_ne c2 (by omega)
  · rw [e24]; exact st_ne c3 (by omega)
  · rw [up_ne (show (21 : Nat) ≠ 2 by decide)]; exact st_ne c4 (by omega)
  · rw [up_ne (show (22 : Nat) ≠ 2 by decide)]; exact st_ne c5 (by omega)
  · rw [up_ne (show (23 : Nat) ≠ 2 by decide)]; exact st_ne c6 (by omega)
  · intro k' hk'
    obtain ⟨d0, d1, d2, d3, d4, d5, d6⟩ := c7 k' hk'
    by_cases hkk : k' = k
    · subst hkk
      exact ⟨st_ne d0 (by omega), by rw [up_ne (show (0 : Nat) ≠ 2 by decide)]; exact st_ne d1 (by omega), by rw [up_ne (show (1 : Nat) ≠ 2 by decide)]; exact st_ne d2 (by omega), by rw [up_eq]; exact st_eq d3, by rw [up_ne (show (3 : Nat) ≠ 2 by decide)]; exact st_ne d4 (by omega), by rw [up_ne (show (4 : Nat) ≠ 2 by decide)]; exact st_ne d5 (by omega), by rw [up_ne (show (5 : Nat) ≠ 2 by decide)]; exact st_ne d6 (by omega)⟩
    · have hdis : st_K o k' + 6 < st_K o k ∨ st_K o k + 6 < st_K o k' := by simp only [st_K]; omega
      exact ⟨st_ne d0 (by omega), by rw [up_ne (show (0 : Nat) ≠ 2 by decide)]; exact st_ne d1 (by omega), by rw [up_ne (show (1 : Nat) ≠ 2 by decide)]; exact st_ne d2 (by omega), by rw [up_ne2 hkk]; exact st_ne d3 (by omega), by rw [up_ne (show (3 : Nat) ≠ 2 by decide)]; exact st_ne d4 (by omega), by rw [up_ne (show (4 : Nat) ≠ 2 by decide)]; exact st_ne d5 (by omega), by rw [up_ne (show (5 : Nat) ≠ 2 by decide)]; exact st_ne d6 (by omega)⟩
  · intro v hv
    rw [e24] at hv
    rw [e11]
    have hb := c9 v hv
    obtain ⟨d0, d1, d2, d3, d4, d5⟩ := c8 v hv
    exact ⟨by simp only [up_ne (show (12 : Nat) ≠ 2 by decide), up_ne (show (13 : Nat) ≠ 2 by decide), up_ne (show (14 : Nat) ≠ 2 by decide), up_ne (show (15 : Nat) ≠ 2 by decide), up_ne (show (16 : Nat) ≠ 2 by decide), up_ne (show (17 : Nat) ≠ 2 by decide), up_ne (show (18 : Nat) ≠ 2 by decide), up_ne (show (19 : Nat) ≠ 2 by decide), up_ne (show (20 : Nat) ≠ 2 by decide)]; exact st_ne d0 (by omega), by rw [up_ne (show (6 : Nat) ≠ 2 by decide)]; exact st_ne d1 (by omega), by rw [up_ne (show (7 : Nat) ≠ 2 by decide)]; exact st_ne d2 (by omega), by rw [up_ne (show (8 : Nat) ≠ 2 by decide)]; exact st_ne d3 (by omega), by rw [up_ne (show (9 : Nat) ≠ 2 by decide)]; exact st_ne d4 (by omega), by rw [up_ne (show (10 : Nat) ≠ 2 by decide)]; exact st_ne d5 (by omega)⟩
  · intro v hv; rw [e24] at hv; exact c9 v hv
  · intro v w hvw hw; rw [e24] at hw; exact c10 v w hvw hw
set_option maxHeartbeats 2000000 in
theorem uK3 {k j : Nat} {x : Int32} (hC : is_C o β S h) (hk : k < 5) : is_C o β (st_up S 3 k j x) (h.set (st_K o k + 4) (.inl (.int, (10, .inl (upd (S 3 k) j x))))) := by
  have hKk : st_K o k + 6 < o + 37 ∧ o + 2 ≤ st_K o k := by simp only [st_K]; omega
  obtain ⟨c1, c2, c3, c4, c5, c6, c7, c8, c9, c10⟩ := hC
  have e24 : st_nv (st_up S 3 k j x) = st_nv S := by simp [st_nv, up_ne]
  have e11 : ∀ v, st_kd (st_up S 3 k j x) v = st_kd S v := fun v => by simp [st_kd, up_ne]
  refine ⟨?_, ?_, ?_, ?_, ?_, ?_, ?_, ?_, ?_, ?_⟩
  · simp only [up_ne (show (24 : Nat) ≠ 3 by decide), up_ne (show (25 : Nat) ≠ 3 by decide), up_ne (show (26 : Nat) ≠ 3 by decide)]; exact st_ne c1 (by omega)
  · exact st_ne c2 (by omega)
  · rw [e24]; exact st_ne c3 (by omega)
  · rw [up_ne (show (21 : Nat) ≠ 3 by decide)]; exact st_ne c4 (by omega)
  · rw [up_ne (show (22 : Nat) ≠ 3 by decide)]; exact st_ne c5 (by omega)
  · rw [up_ne (show (23 : Nat) ≠ 3 by decide)]; exact st_ne c6 (by omega)
  · intro k' hk'
    obtain ⟨d0, d1, d2, d3, d4, d5, d6⟩ := c7 k' hk'
    by_cases hkk : k' = k
    · subst hkk
      exact ⟨st_ne d0 (by omega), by rw [up_ne (show (0 : Nat) ≠ 3 by decide)]; exact st_ne d1 (by omega), by rw [up_ne (show (1 : Nat) ≠ 3 by decide)]; exact st_ne d2 (by omega), by rw [up_ne (show (2 : Nat) ≠ 3 by decide)]; exact st_ne d3 (by omega), by rw [up_eq]; exact st_eq d4, by rw [up_ne (show (4 : Nat) ≠ 3 by decide)]; exact st_ne d5 (by omega), by rw [up_ne (show (5 : Nat) ≠ 3 by decide)]; exact st_ne d6 (by omega)⟩
    · have hdis : st_K o k' + 6 < st_K o k ∨ st_K o k + 6 < st_K o k' := by simp only [st_K]; omega
      exact ⟨st_ne d0 (by omega), by rw [up_ne (show (0 : Nat) ≠ 3 by decide)]; exact st_ne d1 (by omega), by rw [up_ne (show (1 : Nat) ≠ 3 by decide)]; exact st_ne d2 (by omega), by rw [up_ne (show (2 : Nat) ≠ 3 by decide)]; exact st_ne d3 (by omega), by rw [up_ne2 hkk]; exact st_ne d4 (by omega), by rw [up_ne (show (4 : Nat) ≠ 3 by decide)]; exact st_ne d5 (by omega), by rw [up_ne (show (5 : Nat) ≠ 3 by decide)]; exact st_ne d6 (by omega)⟩
  · intro v hv
    rw [e24] at hv
    rw [e11]
    have hb := c9 v hv
    obtain ⟨d0, d1, d2, d3, d4, d5⟩ := c8 v hv
    exact ⟨by simp only [up_ne (show (12 : Nat) ≠ 3 by decide), up_ne (show (13 : Nat) ≠ 3 by decide), up_ne (show (14 : Nat) ≠ 3 by decide), up_ne (show (15 : Nat) ≠ 3 by decide), up_ne (show (16 : Nat) ≠ 3 by decide), up_ne (show (17 : Nat) ≠ 3 by decide), up_ne (show (18 : Nat) ≠ 3 by decide), up_ne (show (19 : Nat) ≠ 3 by decide), up_ne (show (20 : Nat) ≠ 3 by decide)]; exact st_ne d0 (by omega), by rw [up_ne (show (6 : Nat) ≠ 3 by decide)]; exact st_ne d1 (by omega), by rw [up_ne (show (7 : Nat) ≠ 3 by decide)]; exact st_ne d2 (by omega), by rw [up_ne (show (8 : Nat) ≠ 3 by decide)]; exact st_ne d3 (by omega), by rw [up_ne (show (9 : Nat) ≠ 3 by decide)]; exact st_ne d4 (by omega), by rw [up_ne (show (10 : Nat) ≠ 3 by decide)]; exact st_ne d5 (by omega)⟩
  · intro v hv; rw [e24] at hv; exact c9 v hv
  · intro v w hvw hw; rw [e24] at hw; exact c10 v w hvw hw
set_option maxHeartbeats 2000000 in
theorem uK4 {k j : Nat} {x : Int32} (hC : is_C o β S h) (hk : k < 5) : is_C o β (st_up S 4 k j x) (h.set (st_K o k + 5) (.inl (.int, (10, .inl (upd (S 4 k) j x))))) := by
  have hKk : st_K o k + 6 < o + 37 ∧ o + 2 ≤ st_K o k := by simp only [st_K]; omega
  obtain ⟨c1, c2, c3, c4, c5, c6, c7, c8, c9, c10⟩ := hC
  have e24 : st_nv (st_up S 4 k j x) = st_nv S := by simp [st_nv, up_ne]
  have e11 : ∀ v, st_kd (st_up S 4 k j x) v = st_kd S v := fun v => by simp [st_kd, up_ne]
  refine ⟨?_, ?_, ?_, ?_, ?_, ?_, ?_, ?_, ?_, ?_⟩
  · simp only [up_ne (show (24 : Nat) ≠ 4 by decide), up_ne (show (25 : Nat) ≠ 4 by decide), up_ne (show (26 : Nat) ≠ 4 by decide)]; exact st_ne c1 (by omega)
  · exact st_ne c2 (by omega)
  · rw [e24]; exact st_ne c3 (by omega)
  · rw [up_ne (show (21 : Nat) ≠ 4 by decide)]; exact st_ne c4 (by omega)
  · rw [up_ne (show (22 : Nat) ≠ 4 by decide)]; exact st_ne c5 (by omega)
  · rw [up_ne (show (23 : Nat) ≠ 4 by decide)]; exact st_ne c6 (by omega)
  · intro k' hk'
    obtain ⟨d0, d1, d2, d3, d4, d5, d6⟩ := c7 k' hk'
    by_cases hkk : k' = k
    · subst hkk
      exact ⟨st_ne d0 (by omega), by rw [up_ne (show (0 : Nat) ≠ 4 by decide)]; exact st_ne d1 (by omega), by rw [up_ne (show (1 : Nat) ≠ 4 by decide)]; exact st_ne d2 (by omega), by rw [up_ne (show (2 : Nat) ≠ 4 by decide)]; exact st_ne d3 (by omega), by rw [up_ne (show (3 : Nat) ≠ 4 by decide)]; exact st_ne d4 (by omega), by rw [up_eq]; exact st_eq d5, by rw [up_ne (show (5 : Nat) ≠ 4 by decide)]; exact st_ne d6 (by omega)⟩
    · have hdis : st_K o k' + 6 < st_K o k ∨ st_K o k + 6 < st_K o k' := by simp only [st_K]; omega
      exact ⟨st_ne d0 (by omega), by rw [up_ne (show (0 : Nat) ≠ 4 by decide)]; exact st_ne d1 (by omega), by rw [up_ne (show (1 : Nat) ≠ 4 by decide)]; exact st_ne d2 (by omega), by rw [up_ne (show (2 : Nat) ≠ 4 by decide)]; exact st_ne d3 (by omega), by rw [up_ne (show (3 : Nat) ≠ 4 by decide)]; exact st_ne d4 (by omega), by rw [up_ne2 hkk]; exact st_ne d5 (by omega), by rw [up_ne (show (5 : Nat) ≠ 4 by decide)]; exact st_ne d6 (by omega)⟩
  · intro v hv
    rw [e24] at hv
    rw [e11]
    have hb := c9 v hv
    obtain ⟨d0, d1, d2, d3, d4, d5⟩ := c8 v hv
    exact ⟨by simp only [up_ne (show (12 : Nat) ≠ 4 by decide), up_ne (show (13 : Nat) ≠ 4 by decide), up_ne (show (14 : Nat) ≠ 4 by decide), up_ne (show (15 : Nat) ≠ 4 by decide), up_ne (show (16 : Nat) ≠ 4 by decide), up_ne (show (17 : Nat) ≠ 4 by decide), up_ne (show (18 : Nat) ≠ 4 by decide), up_ne (show (19 : Nat) ≠ 4 by decide), up_ne (show (20 : Nat) ≠ 4 by decide)]; exact st_ne d0 (by omega), by rw [up_ne (show (6 : Nat) ≠ 4 by decide)]; exact st_ne d1 (by omega), by rw [up_ne (show (7 : Nat) ≠ 4 by decide)]; exact st_ne d2 (by omega), by rw [up_ne (show (8 : Nat) ≠ 4 by decide)]; exact st_ne d3 (by omega), by rw [up_ne (show (9 : Nat) ≠ 4 by decide)]; exact st_ne d4 (by omega), by rw [up_ne (show (10 : Nat) ≠ 4 by decide)]; exact st_ne d5 (by omega)⟩
  · intro v hv; rw [e24] at hv; exact c9 v hv
  · intro v w hvw hw; rw [e24] at hw; exact c10 v w hvw hw
set_option maxHeartbeats 2000000 in
theorem uK5 {k j : Nat} {x : Int32} (hC : is_C o β S h) (hk : k < 5) : is_C o β (st_up S 5 k j x) (h.set (st_K o k + 6) (.inl (.int, (10, .inl (upd (S 5 k) j x))))) := by
  have hKk : st_K o k + 6 < o + 37 ∧ o + 2 ≤ st_K o k := by simp only [st_K]; omega
  obtain ⟨c1, c2, c3, c4, c5, c6, c7, c8, c9, c10⟩ := hC
  have e24 : st_nv (st_up S 5 k j x) = st_nv S := by simp [st_nv, up_ne]
  have e11 : ∀ v, st_kd (st_up S 5 k j x) v = st_kd S v := fun v => by simp [st_kd, up_ne]
  refine ⟨?_, ?_, ?_, ?_, ?_, ?_, ?_, ?_, ?_, ?_⟩
  · simp only [up_ne (show (24 : Nat) ≠ 5 by decide), up_ne (show (25 : Nat) ≠ 5 by decide), up_ne (show (26 : Nat) ≠ 5 by decide)]; exact st_ne c1 (by omega)
  · exact st_ne c2 (by omega)
  · rw [e24]; exact st_ne c3 (by omega)
  · rw [up_ne (show (21 : Nat) ≠ 5 by decide)]; exact st_ne c4 (by omega)
  · rw [up_ne (show (22 : Nat) ≠ 5 by decide)]; exact st_ne c5 (by omega)
  · rw [up_ne (show (23 : Nat) ≠ 5 by decide)]; exact st_ne c6 (by omega)
  · intro k' hk'
    obtain ⟨d0, d1, d2, d3, d4, d5, d6⟩ := c7 k' hk'
    by_cases hkk : k' = k
    · subst hkk
      exact ⟨st_ne d0 (by omega), by rw [up_ne (show (0 : Nat) ≠ 5 by decide)]; exact st_ne d1 (by omega), by rw [up_ne (show (1 : Nat) ≠ 5 by decide)]; exact st_ne d2 (by omega), by rw [up_ne (show (2 : Nat) ≠ 5 by decide)]; exact st_ne d3 (by omega), by rw [up_ne (show (3 : Nat) ≠ 5 by decide)]; exact st_ne d4 (by omega), by rw [up_ne (show (4 : Nat) ≠ 5 by decide)]; exact st_ne d5 (by omega), by rw [up_eq]; exact st_eq d6⟩
    · have hdis : st_K o k' + 6 < st_K o k ∨ st_K o k + 6 < st_K o k' := by simp only [st_K]; omega
      exact ⟨st_ne d0 (by omega), by rw [up_ne (show (0 : Nat) ≠ 5 by decide)]; exact st_ne d1 (by omega), by rw [up_ne (show (1 : Nat) ≠ 5 by decide)]; exact st_ne d2 (by omega), by rw [up_ne (show (2 : Nat) ≠ 5 by decide)]; exact st_ne d3 (by omega), by rw [up_ne (show (3 : Nat) ≠ 5 by decide)]; exact st_ne d4 (by omega), by rw [up_ne (show (4 : Nat) ≠ 5 by decide)]; exact st_ne d5 (by omega), by rw [up_ne2 hkk]; exact st_ne d6 (by omega)⟩
  · intro v hv
    rw [e24] at hv
    rw [e11]
    have hb := c9 v hv
    obtain ⟨d0, d1, d2, d3, d4, d5⟩ := c8 v hv
    exact ⟨by simp only [up_ne (show (12 : Nat) ≠ 5 by decide), up_ne (show (13 : Nat) ≠ 5 by decide), up_ne (show (14 : Nat) ≠ 5 by decide), up_ne (show (15 : Nat) ≠ 5 by decide), up_ne (show (16 : Nat) ≠ 5 by decide), up_ne (show (17 : Nat) ≠ 5 by decide), up_ne (show (18 : Nat) ≠ 5 by decide), up_ne (show (19 : Nat) ≠ 5 by decide), up_ne (show (20 : Nat) ≠ 5 by decide)]; exact st_ne d0 (by omega), by rw [up_ne (show (6 : Nat) ≠ 5 by decide)]; exact st_ne d1 (by omega), by rw [up_ne (show (7 : Nat) ≠ 5 by decide)]; exact st_ne d2 (by omega), by rw [up_ne (show (8 : Nat) ≠ 5 by decide)]; exact st_ne d3 (by omega), by rw [up_ne (show (9 : Nat) ≠ 5 by decide)]; exact st_ne d4 (by omega), by rw [up_ne (show (10 : Nat) ≠ 5 by decide)]; exact st_ne d5 (by omega)⟩
  · intro v hv; rw [e24] at hv; exact c9 v hv
  · intro v w hvw hw; rw [e24] at hw; exact c10 v w hvw hw
set_option maxHeartbeats 2000000 in
theorem uV6 {v j : Nat} {x : Int32} (hC : is_C o β S h) (hv : v < st_nv S) : is_C o β (st_up S 6 v j x) (h.set (β v + 1) (.inl (.int, (10, .inl (upd (S 6 v) j x))))) := by
  obtain ⟨c1, c2, c3, c4, c5, c6, c7, c8, c9, c10⟩ := hC
  have hb := c9 v hv
  have e24 : st_nv (st_up S 6 v j x) = st_nv S := by simp [st_nv, up_ne]
  have e11 : ∀ w, st_kd (st_up S 6 v j x) w = st_kd S w := fun w => by simp [st_kd, up_ne]
  refine ⟨?_, ?_, ?_, ?_, ?_, ?_, ?_, ?_, ?_, ?_⟩
  · simp only [up_ne (show (24 : Nat) ≠ 6 by decide), up_ne (show (25 : Nat) ≠ 6 by decide), up_ne (show (26 : Nat) ≠ 6 by decide)]; exact st_ne c1 (by omega)
  · exact st_ne c2 (by omega)
  · rw [e24]; exact st_ne c3 (by omega)
  · rw [up_ne (show (21 : Nat) ≠ 6 by decide)]; exact st_ne c4 (by omega)
  · rw [up_ne (show (22 : Nat) ≠ 6 by decide)]; exact st_ne c5 (by omega)
  · rw [up_ne (show (23 : Nat) ≠ 6 by decide)]; exact st_ne c6 (by omega)
  · intro k' hk'
    have hKk : st_K o k' + 6 < o + 37 := by simp only [st_K]; omega
    obtain ⟨d0, d1, d2, d3, d4, d5, d6⟩ := c7 k' hk'
    exact ⟨st_ne d0 (by omega), by rw [up_ne (show (0 : Nat) ≠ 6 by decide)]; exact st_ne d1 (by omega), by rw [up_ne (show (1 : Nat) ≠ 6 by decide)]; exact st_ne d2 (by omega), by rw [up_ne (show (2 : Nat) ≠ 6 by decide)]; exact st_ne d3 (by omega), by rw [up_ne (show (3 : Nat) ≠ 6 by decide)]; exact st_ne d4 (by omega), by rw [up_ne (show (4 : Nat) ≠ 6 by decide)]; exact st_ne d5 (by omega), by rw [up_ne (show (5 : Nat) ≠ 6 by decide)]; exact st_ne d6 (by omega)⟩
  · intro w hw
    rw [e24] at hw
    rw [e11]
    have hbw := c9 w hw
    obtain ⟨d0, d1, d2, d3, d4, d5⟩ := c8 w hw
    by_cases hvw : w = v
    · subst hvw
      exact ⟨by simp only [up_ne (show (12 : Nat) ≠ 6 by decide), up_ne (show (13 : Nat) ≠ 6 by decide), up_ne (show (14 : Nat) ≠ 6 by decide), up_ne (show (15 : Nat) ≠ 6 by decide), up_ne (show (16 : Nat) ≠ 6 by decide), up_ne (show (17 : Nat) ≠ 6 by decide), up_ne (show (18 : Nat) ≠ 6 by decide), up_ne (show (19 : Nat) ≠ 6 by decide), up_ne (show (20 : Nat) ≠ 6 by decide)]; exact st_ne d0 (by omega), by rw [up_eq]; exact st_eq d1, by rw [up_ne (show (7 : Nat) ≠ 6 by decide)]; exact st_ne d2 (by omega), by rw [up_ne (show (8 : Nat) ≠ 6 by decide)]; exact st_ne d3 (by omega), by rw [up_ne (show (9 : Nat) ≠ 6 by decide)]; exact st_ne d4 (by omega), by rw [up_ne (show (10 : Nat) ≠ 6 by decide)]; exact st_ne d5 (by omega)⟩
    · have hdis : β w + 6 ≤ β v ∨ β v + 6 ≤ β w := by rcases Nat.lt_or_gt_of_ne hvw with q | q; exact Or.inl (c10 w v q hv); exact Or.inr (c10 v w q hw)
      exact ⟨by simp only [up_ne (show (12 : Nat) ≠ 6 by decide), up_ne (show (13 : Nat) ≠ 6 by decide), up_ne (show (14 : Nat) ≠ 6 by decide), up_ne (show (15 : Nat) ≠ 6 by decide), up_ne (show (16 : Nat) ≠ 6 by decide), up_ne (show (17 : Nat) ≠ 6 by decide), up_ne (show (18 : Nat) ≠ 6 by decide), up_ne (show (19 : Nat) ≠ 6 by decide), up_ne (show (20 : Nat) ≠ 6 by decide)]; exact st_ne d0 (by omega), by rw [up_ne2 hvw]; exact st_ne d1 (by omega), by rw [up_ne (show (7 : Nat) ≠ 6 by decide)]; exact st_ne d2 (by omega), by rw [up_ne (show (8 : Nat) ≠ 6 by decide)]; exact st_ne d3 (by omega), by rw [up_ne (show (9 : Nat) ≠ 6 by decide)]; exact st_ne d4 (by omega), by rw [up_ne (show (10 : Nat) ≠ 6 by decide)]; exact st_ne d5 (by omega)⟩
  · intro w hw; rw [e24] at hw; exact c9 w hw
  · intro w u hwu hu; rw [e24] at hu; exact c10 w u hwu hu
set_option maxHeartbeats 2000000 in
theorem uV7 {v j : Nat} {x : Int32} (hC : is_C o β S h) (hv : v < st_nv S) : is_C o β (st_up S 7 v j x) (h.set (β v + 2) (.inl (.int, (10, .inl (upd (S 7 v) j x))))) := by
  obtain ⟨c1, c2, c3, c4, c5, c6, c7, c8, c9, c10⟩ := hC
  have hb := c9 v hv
  have e24 : st_nv (st_up S 7 v j x) = st_nv S := by simp [st_nv, up_ne]
  have e11 : ∀ w, st_kd (st_up S 7 v j x) w = st_kd S w := fun w => by simp [st_kd, up_ne]
  refine ⟨?_, ?_, ?_, ?_, ?_, ?_, ?_, ?_, ?_, ?_⟩
  · simp only [up_ne (show (24 : Nat) ≠ 7 by decide), up_ne (show (25 : Nat) ≠ 7 by decide), up_ne (show (26 : Nat) ≠ 7 by decide)]; exact st_ne c1 (by omega)
  · exact st_ne c2 (by omega)
  · rw [e24]; exact st_ne c3 (by omega)
  · rw [up_ne (show (21 : Nat) ≠ 7 by decide)]; exact st_ne c4 (by omega)
  · rw [up_ne (show (22 : Nat) ≠ 7 by decide)]; exact st_ne c5 (by omega)
  · rw [up_ne (show (23 : Nat) ≠ 7 by decide)]; exact st_ne c6 (by omega)
  · intro k' hk'
    have hKk : st_K o k' + 6 < o + 37 := by simp only [st_K]; omega
    obtain ⟨d0, d1, d2, d3, d4, d5, d6⟩ := c7 k' hk'
    exact ⟨st_ne d0 (by omega), by rw [up_ne (show (0 : Nat) ≠ 7 by decide)]; exact st_ne d1 (by omega), by rw [up_ne (show (1 : Nat) ≠ 7 by decide)]; exact st_ne d2 (by omega), by rw [up_ne (show (2 : Nat) ≠ 7 by decide)]; exact st_ne d3 (by omega), by rw [up_ne (show (3 : Nat) ≠ 7 by decide)]; exact st_ne d4 (by omega), by rw [up_ne (show (4 : Nat) ≠ 7 by decide)]; exact st_ne d5 (by omega), by rw [up_ne (show (5 : Nat) ≠ 7 by decide)]; exact st_ne d6 (by omega)⟩
  · intro w hw
    rw [e24] at hw
    rw [e11]
    have hbw := c9 w hw
    obtain ⟨d0, d1, d2, d3, d4, d5⟩ := c8 w hw
    by_cases hvw : w = v
    · subst hvw
      exact ⟨by simp only [up_ne (show (12 : Nat) ≠ 7 by decide), up_ne (show (13 : Nat) ≠ 7 by decide), up_ne (show (14 : Nat) ≠ 7 by decide), up_ne (show (15 : Nat) ≠ 7 by decide), up_ne (show (16 : Nat) ≠ 7 by decide), up_ne (show (17 : Nat) ≠ 7 by decide), up_ne (show (18 : Nat) ≠ 7 by decide), up_ne (show (19 : Nat) ≠ 7 by decide), up_ne (show (20 : Nat) ≠ 7 by decide)]; exact st_ne d0 (by omega), by rw [up_ne (show (6 : Nat) ≠ 7 by decide)]; exact st_ne d1 (by omega), by rw [up_eq]; exact st_eq d2, by rw [up_ne (show (8 : Nat) ≠ 7 by decide)]; exact st_ne d3 (by omega), by rw [up_ne (show (9 : Nat) ≠ 7 by decide)]; exact st_ne d4 (by omega), by rw [up_ne (show (10 : Nat) ≠ 7 by decide)]; exact st_ne d5 (by omega)⟩
    · have hdis : β w + 6 ≤ β v ∨ β v + 6 ≤ β w := by rcases Nat.lt_or_gt_of_ne hvw with q | q; exact Or.inl (c10 w v q hv); exact Or.inr (c10 v w q hw)
      exact ⟨by simp only [up_ne (show (12 : Nat) ≠ 7 by decide), up_ne (show (13 : Nat) ≠ 7 by decide), up_ne (show (14 : Nat) ≠ 7 by decide), up_ne (show (15 : Nat) ≠ 7 by decide), up_ne (show (16 : Nat) ≠ 7 by decide), up_ne (show (17 : Nat) ≠ 7 by decide), up_ne (show (18 : Nat) ≠ 7 by decide), up_ne (show (19 : Nat) ≠ 7 by decide), up_ne (show (20 : Nat) ≠ 7 by decide)]; exact st_ne d0 (by omega), by rw [up_ne (show (6 : Nat) ≠ 7 by decide)]; exact st_ne d1 (by omega), by rw [up_ne2 hvw]; exact st_ne d2 (by omega), by rw [up_ne (show (8 : Nat) ≠ 7 by decide)]; exact st_ne d3 (by omega), by rw [up_ne (show (9 : Nat) ≠ 7 by decide)]; exact st_ne d4 (by omega), by rw [up_ne (show (10 : Nat) ≠ 7 by decide)]; exact st_ne d5 (by omega)⟩
  · intro w hw; rw [e24] at hw; exact c9 w hw
  · intro w u hwu hu; rw [e24] at hu; exact c10 w u hwu hu
set_option maxHeartbeats 2000000 in
theorem uV8 {v j : Nat} {x : Int32} (hC : is_C o β S h) (hv : v < st_nv S) : is_C o β (st_up S 8 v j x) (h.set (β v + 3) (.inl (.int, (10, .inl (upd (S 8 v) j x))))) := by
  obtain ⟨c1, c2, c3, c4, c5, c6, c7, c8, c9, c10⟩ := hC
  have hb := c9 v hv
  have e24 : st_nv (st_up S 8 v j x) = st_nv S := by simp [st_nv, up_ne]
  have e11 : ∀ w, st_kd (st_up S 8 v j x) w = st_kd S w := fun w => by simp [st_kd, up_ne]
  refine ⟨?_, ?_, ?_, ?_, ?_, ?_, ?_, ?_, ?_, ?_⟩
  · simp only [up_ne (show (24 : Nat) ≠ 8 by decide), up_ne (show (25 : Nat) ≠ 8 by decide), up_ne (show (26 : Nat) ≠ 8 by decide)]; exact st_ne c1 (by omega)
  · exact st_ne c2 (by omega)
  · rw [e24]; exact st_ne c3 (by omega)
  · rw [up_ne (show (21 : Nat) ≠ 8 by decide)]; exact st_ne c4 (by omega)
  · rw [up_ne (show (22 : Nat) ≠ 8 by decide)]; exact st_ne c5 (by omega)
  · rw [up_ne (show (23 : Nat) ≠ 8 by decide)]; exact st_ne c6 (by omega)
  · intro k' hk'
    have hKk : st_K o k' + 6 < o + 37 := by simp only [st_K]; omega
    obtain ⟨d0, d1, d2, d3, d4, d5, d6⟩ := c7 k' hk'
    exact ⟨st_ne d0 (by omega), by rw [up_ne (show (0 : Nat) ≠ 8 by decide)]; exact st_ne d1 (by omega), by rw [up_ne (show (1 : Nat) ≠ 8 by decide)]; exact st_ne d2 (by omega), by rw [up_ne (show (2 : Nat) ≠ 8 by decide)]; exact st_ne d3 (by omega), by rw [up_ne (show (3 : Nat) ≠ 8 by decide)]; exact st_ne d4 (by omega), by rw [up_ne (show (4 : Nat) ≠ 8 by decide)]; exact st_ne d5 (by omega), by rw [up_ne (show (5 : Nat) ≠ 8 by decide)]; exact st_ne d6 (by omega)⟩
  · intro w hw
    rw [e24] at hw
    rw [e11]
    have hbw := c9 w hw
    obtain ⟨d0, d1, d2, d3, d4, d5⟩ := c8 w hw
    by_cases hvw : w = v
    · subst hvw
      exact ⟨by simp only [up_ne (show (12 : Nat) ≠ 8 by decide), up_ne (show (13 : Nat) ≠ 8 by decide), up_ne (show (14 : Nat) ≠ 8 by decide), up_ne (show (15 : Nat) ≠ 8 by decide), up_ne (show (16 : Nat) ≠ 8 by decide), up_ne (show (17 : Nat) ≠ 8 by decide), up_ne (show (18 : Nat) ≠ 8 by decide), up_ne (show (19 : Nat) ≠ 8 by decide), up_ne (show (20 : Nat) ≠ 8 by decide)]; exact st_ne d0 (by omega), by rw [up_ne (show (6 : Nat) ≠ 8 by decide)]; exact st_ne d1 (by omega), by rw [up_ne (show (7 : Nat) ≠ 8 by decide)]; exact st_ne d2 (by omega), by rw [up_eq]; exact st_eq d3, by rw [up_ne (show (9 : Nat) ≠ 8 by decide)]; exact st_ne d4 (by omega), by rw [up_ne (show (10 : Nat) ≠ 8 by decide)]; exact st_ne d5 (by omega)⟩
    · have hdis : β w + 6 ≤ β v ∨ β v + 6 ≤ β w := by rcases Nat.lt_or_gt_of_ne hvw with q | q; exact Or.inl (c10 w v q hv); exact Or.inr (c10 v w q hw)
      exact ⟨by simp only [up_ne (show (12 : Nat) ≠ 8 by decide), up_ne (show (13 : Nat) ≠ 8 by decide), up_ne (show (14 : Nat) ≠ 8 by decide), up_ne (show (15 : Nat) ≠ 8 by decide), up_ne (show (16 : Nat) ≠ 8 by decide), up_ne (show (17 : Nat) ≠ 8 by decide), up_ne (show (18 : Nat) ≠ 8 by decide), up_ne (show (19 : Nat) ≠ 8 by decide), up_ne (show (20 : Nat) ≠ 8 by decide)]; exact st_ne d0 (by omega), by rw [up_ne (show (6 : Nat) ≠ 8 by decide)]; exact st_ne d1 (by omega), by rw [up_ne (show (7 : Nat) ≠ 8 by decide)]; exact st_ne d2 (by omega), by rw [up_ne2 hvw]; exact st_ne d3 (by omega), by rw [up_ne (show (9 : Nat) ≠ 8 by decide)]; exact st_ne d4 (by omega), by rw [up_ne (show (10 : Nat) ≠ 8 by decide)]; exact st_ne d5 (by omega)⟩
  · intro w hw; rw [e24] at hw; exact c9 w hw
  · intro w u hwu hu; rw [e24] at hu; exact c10 w u hwu hu
set_option maxHeartbeats 2000000 in
theorem uV9 {v j : Nat} {x : Int32} (hC : is_C o β S h) (hv : v < st_nv S) : is_C o β (st_up S 9 v j x) (h.set (β v + 4) (.inl (.int, (10, .inl (upd (S 9 v) j x))))) := by
  obtain ⟨c1, c2, c3, c4, c5, c6, c7, c8, c9, c10⟩ := hC
  have hb := c9 v hv
  have e24 : st_nv (st_up S 9 v j x) = st_nv S := by simp [st_nv, up_ne]
  have e11 : ∀ w, st_kd (st_up S 9 v j x) w = st_kd S w := fun w => by simp [st_kd, up_ne]
  refine ⟨?_, ?_, ?_, ?_, ?_, ?_, ?_, ?_, ?_, ?_⟩
  · simp only [up_ne (show (24 : Nat) ≠ 9 by decide), up_ne (show (25 : Nat) ≠ 9 by decide), up_ne (show (26 : Nat) ≠ 9 by decide)]; exact st_ne c1 (by omega)
  · exact st_ne c2 (by omega)
  · rw [e24]; exact st_ne c3 (by omega)
  · rw [up_ne (show (21 : Nat) ≠ 9 by decide)]; exact st_ne c4 (by omega)
  · rw [up_ne (show (22 : Nat) ≠ 9 by decide)]; exact st_ne c5 (by omega)
  · rw [up_ne (show (23 : Nat) ≠ 9 by decide)]; exact st_ne c6 (by omega)
  · intro k' hk'
    have hKk : st_K o k' + 6 < o + 37 := by simp only [st_K]; omega
    obtain ⟨d0, d1, d2, d3, d4, d5, d6⟩ := c7 k' hk'
    exact ⟨st_ne d0 (by omega), by rw [up_ne (show (0 : Nat) ≠ 9 by decide)]; exact st_ne d1 (by omega), by rw [up_ne (show (1 : Nat) ≠ 9 by decide)]; exact st_ne d2 (by omega), by rw [up_ne (show (2 : Nat) ≠ 9 by decide)]; exact st_ne d3 (by omega), by rw [up_ne (show (3 : Nat) ≠ 9 by decide)]; exact st_ne d4 (by omega), by rw [up_ne (show (4 : Nat) ≠ 9 by decide)]; exact st_ne d5 (by omega), by rw [up_ne (show (5 : Nat) ≠ 9 by decide)]; exact st_ne d6 (by omega)⟩
  · intro w hw
    rw [e24] at hw
    rw [e11]
    have hbw := c9 w hw
    obtain ⟨d0, d1, d2, d3, d4, d5⟩ := c8 w hw
    by_cases hvw : w = v
    · subst hvw
      exact ⟨by simp only [up_ne (show (12 : Nat) ≠ 9 by decide), up_ne (show (13 : Nat) ≠ 9 by decide), up_ne (show (14 : Nat) ≠ 9 by decide), up_ne (show (15 : Nat) ≠ 9 by decide), up_ne (show (16 : Nat) ≠ 9 by decide), up_ne (show (17 : Nat) ≠ 9 by decide), up_ne (show (18 : Nat) ≠ 9 by decide), up_ne (show (19 : Nat) ≠ 9 by decide), up_ne (show (20 : Nat) ≠ 9 by decide)]; exact st_ne d0 (by omega), by rw [up_ne (show (6 : Nat) ≠ 9 by decide)]; exact st_ne d1 (by omega), by rw [up_ne (show (7 : Nat) ≠ 9 by decide)]; exact st_ne d2 (by omega), by rw [up_ne (show (8 : Nat) ≠ 9 by decide)]; exact st_ne d3 (by omega), by rw [up_eq]; exact st_eq d4, by rw [up_ne (show (10 : Nat) ≠ 9 by decide)]; exact st_ne d5 (by omega)⟩
    · have hdis : β w + 6 ≤ β v ∨ β v + 6 ≤ β w := by rcases Nat.lt_or_gt_of_ne hvw with q | q; exact Or.inl (c10 w v q hv); exact Or.inr (c10 v w q hw)
      exact ⟨by simp only [up_ne (show (12 : Nat) ≠ 9 by decide), up_ne (show (13 : Nat) ≠ 9 by decide), up_ne (show (14 : Nat) ≠ 9 by decide), up_ne (show (15 : Nat) ≠ 9 by decide), up_ne (show (16 : Nat) ≠ 9 by decide), up_ne (show (17 : Nat) ≠ 9 by decide), up_ne (show (18 : Nat) ≠ 9 by decide), up_ne (show (19 : Nat) ≠ 9 by decide), up_ne (show (20 : Nat) ≠ 9 by decide)]; exact st_ne d0 (by omega), by rw [up_ne (show (6 : Nat) ≠ 9 by decide)]; exact st_ne d1 (by omega), by rw [up_ne (show (7 : Nat) ≠ 9 by decide)]; exact st_ne d2 (by omega), by rw [up_ne (show (8 : Nat) ≠ 9 by decide)]; exact st_ne d3 (by omega), by rw [up_ne2 hvw]; exact st_ne d4 (by omega), by rw [up_ne (show (10 : Nat) ≠ 9 by decide)]; exact st_ne d5 (by omega)⟩
  · intro w hw; rw [e24] at hw; exact c9 w hw
  · intro w u hwu hu; rw [e24] at hu; exact c10 w u hwu hu
set_option maxHeartbeats 2000000 in
theorem uV10 {v j : Nat} {x : Int32} (hC : is_C o β S h) (hv : v < st_nv S) : is_C o β (st_up S 10 v j x) (h.set (β v + 5) (.inl (.int, (10, .inl (upd (S 10 v) j x))))) := by
  obtain ⟨c1, c2, c3, c4, c5, c6, c7, c8, c9, c10⟩ := hC
  have hb := c9 v hv
  have e24 : st_nv (st_up S 10 v j x) = st_nv S := by simp [st_nv, up_ne]
  have e11 : ∀ w, st_kd (st_up S 10 v j x) w = st_kd S w := fun w => by simp [st_kd, up_ne]
  refine ⟨?_, ?_, ?_, ?_, ?_, ?_, ?_, ?_, ?_, ?_⟩
  · simp only [up_ne (show (24 : Nat) ≠ 10 by decide), up_ne (show (25 : Nat) ≠ 10 by decide), up_ne (show (26 : Nat) ≠ 10 by decide)]; exact st_ne c1 (by omega)
  · exact st_ne c2 (by omega)
  · rw [e24]; exact st_ne c3 (by omega)
  · rw [up_ne (show (21 : Nat) ≠ 10 by decide)]; exact st_ne c4 (by omega)
  · rw [up_ne (show (22 : Nat) ≠ 10 by decide)]; exact st_ne c5 (by omega)
  · rw [up_ne (show (23 : Nat) ≠ 10 by decide)]; exact st_ne c6 (by omega)
  · intro k' hk'
    have hKk : st_K o k' + 6 < o + 37 := by simp only [st_K]; omega
    obtain ⟨d0, d1, d2, d3, d4, d5, d6⟩ := c7 k' hk'
    exact ⟨st_ne d0 (by omega), by rw [up_ne (show (0 : Nat) ≠ 10 by decide)]; exact st_ne d1 (by omega), by rw [up_ne (show (1 : Nat) ≠ 10 by decide)]; exact st_ne d2 (by omega), by rw [up_ne (show (2 : Nat) ≠ 10 by decide)]; exact st_ne d3 (by omega), by rw [up_ne (show (3 : Nat) ≠ 10 by decide)]; exact st_ne d4 (by omega), by rw [up_ne (show (4 : Nat) ≠ 10 by decide)]; exact st_ne d5 (by omega), by rw [up_ne (show (5 : Nat) ≠ 10 by decide)]; exact st_ne d6 (by omega)⟩
  · intro w hw
    rw [e24] at hw
    rw [e11]
    have hbw := c9 w hw
    obtain ⟨d0, d1, d2, d3, d4, d5⟩ := c8 w hw
    by_cases hvw : w = v
    · subst hvw
      exact ⟨by simp only [up_ne (show (12 : Nat) ≠ 10 by decide), up_ne (show (13 : Nat) ≠ 10 by decide), up_ne (show (14 : Nat) ≠ 10 by decide), up_ne (show (15 : Nat) ≠ 10 by decide), up_ne (show (16 : Nat) ≠ 10 by decide), up_ne (show (17 : Nat) ≠ 10 by decide), up_ne (show (18 : Nat) ≠ 10 by decide), up_ne (show (19 : Nat) ≠ 10 by decide), up_ne (show (20 : Nat) ≠ 10 by decide)]; exact st_ne d0 (by omega), by rw [up_ne (show (6 : Nat) ≠ 10 by decide)]; exact st_ne d1 (by omega), by rw [up_ne (show (7 : Nat) ≠ 10 by decide)]; exact st_ne d2 (by omega), by rw [up_ne (show (8 : Nat) ≠ 10 by decide)]; exact st_ne d3 (by omega), by rw [up_ne (show (9 : Nat) ≠ 10 by decide)]; exact st_ne d4 (by omega), by rw [up_eq]; exact st_eq d5⟩
    · have hdis : β w + 6 ≤ β v ∨ β v + 6 ≤ β w := by rcases Nat.lt_or_gt_of_ne hvw with q | q; exact Or.inl (c10 w v q hv); exact Or.inr (c10 v w q hw)
      exact ⟨by simp only [up_ne (show (12 : Nat) ≠ 10 by decide), up_ne (show (13 : Nat) ≠ 10 by decide), up_ne (show (14 : Nat) ≠ 10 by decide), up_ne (show (15 : Nat) ≠ 10 by decide), up_ne (show (16 : Nat) ≠ 10 by decide), up_ne (show (17 : Nat) ≠ 10 by decide), up_ne (show (18 : Nat) ≠ 10 by decide), up_ne (show (19 : Nat) ≠ 10 by decide), up_ne (show (20 : Nat) ≠ 10 by decide)]; exact st_ne d0 (by omega), by rw [up_ne (show (6 : Nat) ≠ 10 by decide)]; exact st_ne d1 (by omega), by rw [up_ne (show (7 : Nat) ≠ 10 by decide)]; exact st_ne d2 (by omega), by rw [up_ne (show (8 : Nat) ≠ 10 by decide)]; exact st_ne d3 (by omega), by rw [up_ne (show (9 : Nat) ≠ 10 by decide)]; exact st_ne d4 (by omega), by rw [up_ne2 hvw]; exact st_ne d5 (by omega)⟩
  · intro w hw; rw [e24] at hw; exact c9 w hw
  · intro w u hwu hu; rw [e24] at hu; exact c10 w u hwu hu
set_option maxHeartbeats 2000000 in
theorem uV14 {v : Nat} {x : Int32} (hC : is_C o β S h) (hv : v < st_nv S) : is_C o β (st_up S 14 v 0 x) (h.set (β v) (.inr (1, [.int (nI v), .ref (st_K o (st_kd S v)), .int (S 12 v 0), .int (S 13 v 0), .ref (β v + 1), .ref (β v + 2), .ref (β v + 3), .ref (β v + 4), .ref (β v + 5), .int x, .int (S 15 v 0), .int (S 16 v 0), .int (S 17 v 0), .int (S 18 v 0), .int (S 19 v 0), .int (S 20 v 0)]))) := by
  obtain ⟨c1, c2, c3, c4, c5, c6, c7, c8, c9, c10⟩ := hC
  have hb := c9 v hv
  have e24 : st_nv (st_up S 14 v 0 x) = st_nv S := by simp [st_nv, up_ne]
  have e11 : ∀ w, st_kd (st_up S 14 v 0 x) w = st_kd S w := fun w => by simp [st_kd, up_ne]
  refine ⟨?_, ?_, ?_, ?_, ?_, ?_, ?_, ?_, ?_, ?_⟩
  · simp only [up_ne (show (24 : Nat) ≠ 14 by decide), up_ne (show (25 : Nat) ≠ 14 by decide), up_ne (show (26 : Nat) ≠ 14 by decide)]; exact st_ne c1 (by omega)
  · exact st_ne c2 (by omega)
  · rw [e24]; exact st_ne c3 (by omega)
  · rw [up_ne (show (21 : Nat) ≠ 14 by decide)]; exact st_ne c4 (by omega)
  · rw [up_ne (show (22 : Nat) ≠ 14 by decide)]; exact st_ne c5 (by omega)
  · rw [up_ne (show (23 : Nat) ≠ 14 by decide)]; exact st_ne c6 (by omega)
  · intro k' hk'
    have hKk : st_K o k' + 6 < o + 37 := by simp only [st_K]; omega
    obtain ⟨d0, d1, d2, d3, d4, d5, d6⟩ := c7 k' hk'
    exact ⟨st_ne d0 (by omega), by rw [up_ne (show (0 : Nat) ≠ 14 by decide)]; exact st_ne d1 (by omega), by rw [up_ne (show (1 : Nat) ≠ 14 by decide)]; exact st_ne d2 (by omega), by rw [up_ne (show (2 : Nat) ≠ 14 by decide)]; exact st_ne d3 (by omega), by rw [up_ne (show (3 : Nat) ≠ 14 by decide)]; exact st_ne d4 (by omega), by rw [up_ne (show (4 : Nat) ≠ 14 by decide)]; exact st_ne d5 (by omega), by rw [up_ne (show (5 : Nat) ≠ 14 by decide)]; exact st_ne d6 (by omega)⟩
  · intro w hw
    rw [e24] at hw
    rw [e11]
    have hbw := c9 w hw
    obtain ⟨d0, d1, d2, d3, d4, d5⟩ := c8 w hw
    by_cases hvw : w = v
    · subst hvw
      exact ⟨by simp only [up_ne (show (12 : Nat) ≠ 14 by decide), up_ne (show (13 : Nat) ≠ 14 by decide), up_ne (show (15 : Nat) ≠ 14 by decide), up_ne (show (16 : Nat) ≠ 14 by decide), up_ne (show (17 : Nat) ≠ 14 by decide), up_ne (show (18 : Nat) ≠ 14 by decide), up_ne (show (19 : Nat) ≠ 14 by decide), up_ne (show (20 : Nat) ≠ 14 by decide), up_v]; exact st_eq d0, by rw [up_ne (show (6 : Nat) ≠ 14 by decide)]; exact st_ne d1 (by omega), by rw [up_ne (show (7 : Nat) ≠ 14 by decide)]; exact st_ne d2 (by omega), by rw [up_ne (show (8 : Nat) ≠ 14 by decide)]; exact st_ne d3 (by omega), by rw [up_ne (show (9 : Nat) ≠ 14 by decide)]; exact st_ne d4 (by omega), by rw [up_ne (show (10 : Nat) ≠ 14 by decide)]; exact st_ne d5 (by omega)⟩
    · have hdis : β w + 6 ≤ β v ∨ β v + 6 ≤ β w := by rcases Nat.lt_or_gt_of_ne hvw with q | q; exact Or.inl (c10 w v q hv); exact Or.inr (c10 v w q hw)
      exact ⟨by simp only [up_ne (show (12 : Nat) ≠ 14 by decide), up_ne (show (13 : Nat) ≠ 14 by decide), up_ne (show (15 : Nat) ≠ 14 by decide), up_ne (show (16 : Nat) ≠ 14 by decide), up_ne (show (17 : Nat) ≠ 14 by decide), up_ne (show (18 : Nat) ≠ 14 by decide), up_ne (show (19 : Nat) ≠ 14 by decide), up_ne (show (20 : Nat) ≠ 14 by decide), up_ne2 hvw]; exact st_ne d0 (by omega), by rw [up_ne (show (6 : Nat) ≠ 14 by decide)]; exact st_ne d1 (by omega), by rw [up_ne (show (7 : Nat) ≠ 14 by decide)]; exact st_ne d2 (by omega), by rw [up_ne (show (8 : Nat) ≠ 14 by decide)]; exact st_ne d3 (by omega), by rw [up_ne (show (9 : Nat) ≠ 14 by decide)]; exact st_ne d4 (by omega), by rw [up_ne (show (10 : Nat) ≠ 14 by decide)]; exact st_ne d5 (by omega)⟩
  · intro w hw; rw [e24] at hw; exact c9 w hw
  · intro w u hwu hu; rw [e24] at hu; exact c10 w u hwu hu
set_option maxHeartbeats 2000000 in
theorem uV15 {v : Nat} {x : Int32} (hC : is_C o β S h) (hv : v < st_nv S) : is_C o β (st_up S 15 v 0 x) (h.set (β v) (.inr (1, [.int (nI v), .ref (st_K o (st_kd S v)), .int (S 12 v 0), .int (S 13 v 0), .ref (β v + 1), .ref (β v + 2), .ref (β v + 3), .ref (β v + 4), .ref (β v + 5), .int (S 14 v 0), .int x, .int (S 16 v 0), .int (S 17 v 0), .int (S 18 v 0), .int (S 19 v 0), .int (S 20 v 0)]))) := by
  obtain ⟨c1, c2, c3, c4, c5, c6, c7, c8, c9, c10⟩ := hC
  have hb := c9 v hv
  have e24 : st_nv (st_up S 15 v 0 x) = st_nv S := by simp [st_nv, up_ne]
  have e11 : ∀ w, st_kd (st_up S 15 v 0 x) w = st_kd S w := fun w => by simp [st_kd, up_ne]
  refine ⟨?_, ?_, ?_, ?_, ?_, ?_, ?_, ?_, ?_, ?_⟩
  · simp only [up_ne (show (24 : Nat) ≠ 15 by decide), up_ne (show (25 : Nat) ≠ 15 by decide), up_ne (show (26 : Nat) ≠ 15 by decide)]; exact st_ne c1 (by omega)
  · exact st_ne c2 (by omega)
  · rw [e24]; exact st_ne c3 (by omega)
  · rw [up_ne (show (21 : Nat) ≠ 15 by decide)]; exact st_ne c4 (by omega)
  · rw [up_ne (show (22 : Nat) ≠ 15 by decide)]; exact st_ne c5 (by omega)
  · rw [up_ne (show (23 : Nat) ≠ 15 by decide)]; exact st_ne c6 (by omega)
  · intro k' hk'
    have hKk : st_K o k' + 6 < o + 37 := by simp only [st_K]; omega
    obtain ⟨d0, d1, d2, d3, d4, d5, d6⟩ := c7 k' hk'
    exact ⟨st_ne d0 (by omega), by rw [up_ne (show (0 : Nat) ≠ 15 by decide)]; exact st_ne d1 (by omega), by rw [up_ne (show (1 : Nat) ≠ 15 by decide)]; exact st_ne d2 (by omega), by rw [up_ne (show (2 : Nat) ≠ 15 by decide)]; exact st_ne d3 (by omega), by rw [up_ne (show (3 : Nat) ≠ 15 by decide)]; exact st_ne d4 (by omega), by rw [up_ne (show (4 : Nat) ≠ 15 by decide)]; exact st_ne d5 (by omega), by rw [up_ne (show (5 : Nat) ≠ 15 by decide)]; exact st_ne d6 (by omega)⟩
  · intro w hw
    rw [e24] at hw
    rw [e11]
    have hbw := c9 w hw
    obtain ⟨d0, d1, d2, d3, d4, d5⟩ := c8 w hw
    by_cases hvw : w = v
    · subst hvw
      exact ⟨by simp only [up_ne (show (12 : Nat) ≠ 15 by decide), up_ne (show (13 : Nat) ≠ 15 by decide), up_ne (show (14 : Nat) ≠ 15 by decide), up_ne (show (16 : Nat) ≠ 15 by decide), up_ne (show (17 : Nat) ≠ 15 by decide), up_ne (show (18 : Nat) ≠ 15 by decide), up_ne (show (19 : Nat) ≠ 15 by decide), up_ne (show (20 : Nat) ≠ 15 by decide), up_v]; exact st_eq d0, by rw [up_ne (show (6 : Nat) ≠ 15 by decide)]; exact st_ne d1 (by omega), by rw [up_ne (show (7 : Nat) ≠ 15 by decide)]; exact st_ne d2 (by omega), by rw [up_ne (show (8 : Nat) ≠ 15 by decide)]; exact st_ne d3 (by omega), by rw [up_ne (show (9 : Nat) ≠ 15 by decide)]; exact st_ne d4 (by omega), by rw [up_ne (show (10 : Nat) ≠ 15 by decide)]; exact st_ne d5 (by omega)⟩
    · have hdis : β w + 6 ≤ β v ∨ β v + 6 ≤ β w := by rcases Nat.lt_or_gt_of_ne hvw with q | q; exact Or.inl (c10 w v q hv); exact Or.inr (c10 v w q hw)
      exact ⟨by simp only [up_ne (show (12 : Nat) ≠ 15 by decide), up_ne (show (13 : Nat) ≠ 15 by decide), up_ne (show (14 : Nat) ≠ 15 by decide), up_ne (show (16 : Nat) ≠ 15 by decide), up_ne (show (17 : Nat) ≠ 15 by decide), up_ne (show (18 : Nat) ≠ 15 by decide), up_ne (show (19 : Nat) ≠ 15 by decide), up_ne (show (20 : Nat) ≠ 15 by decide), up_ne2 hvw]; exact st_ne d0 (by omega), by rw [up_ne (show (6 : Nat) ≠ 15 by decide)]; exact st_ne d1 (by omega), by rw [up_ne (show (7 : Nat) ≠ 15 by decide)]; exact st_ne d2 (by omega), by rw [up_ne (show (8 : Nat) ≠ 15 by decide)]; exact st_ne d3 (by omega), by rw [up_ne (show (9 : Nat) ≠ 15 by decide)]; exact st_ne d4 (by omega), by rw [up_ne (show (10 : Nat) ≠ 15 by decide)]; exact st_ne d5 (by omega)⟩
  · intro w hw; rw [e24] at hw; exact c9 w hw
  · intro w u hwu hu; rw [e24] at hu; exact c10 w u hwu hu
set_option maxHeartbeats 2000000 in
theorem uV16 {v : Nat} {x : Int32} (hC : is_C o β S h) (hv : v < st_nv S) : is_C o β (st_up S 16 v 0 x) (h.set (β v) (.inr (1, [.int (nI v), .ref (st_K o (st_kd S v)), .int (S 12 v 0), .int (S 13 v 0), .ref (β v + 1), .ref (β v + 2), .ref (β v + 3), .ref (β v + 4), .ref (β v + 5), .int (S 14 v 0), .int (S 15 v 0), .int x, .int (S 17 v 0), .int (S 18 v 0), .int (S 19 v 0), .int (S 20 v 0)]))) := by
  obtain ⟨c1, c2, c3, c4, c5, c6, c7, c8, c9, c10⟩ := hC
  have hb := c9 v hv
  have e24 : st_nv (st_up S 16 v 0 x) = st_nv S := by simp [st_nv, up_ne]
  have e11 : ∀ w, st_kd (st_up S 16 v 0 x) w = st_kd S w := fun w => by simp [st_kd, up_ne]
  refine ⟨?_, ?_, ?_, ?_, ?_, ?_, ?_, ?_, ?_, ?_⟩
  · simp only [up_ne (show (24 : Nat) ≠ 16 by decide), up_ne (show (25 : Nat) ≠ 16 by decide), up_ne (show (26 : Nat) ≠ 16 by decide)]; exact st_ne c1 (by omega)
  · exact st_ne c2 (by omega)
  · rw [e24]; exact st_ne c3 (by omega)
  · rw [up_ne (show (21 : Nat) ≠ 16 by decide)]; exact st_ne c4 (by omega)
  · rw [up_ne (show (22 : Nat) ≠ 16 by decide)]; exact st_ne c5 (by omega)
  · rw [up_ne (show (23 : Nat) ≠ 16 by decide)]; exact st_ne c6 (by omega)
  · intro k' hk'
    have hKk : st_K o k' + 6 < o + 37 := by simp only [st_K]; omega
    obtain ⟨d0, d1, d2, d3, d4, d5, d6⟩ := c7 k' hk'
    exact ⟨st_ne d0 (by omega), by rw [up_ne (show (0 : Nat) ≠ 16 by decide)]; exact st_ne d1 (by omega), by rw [up_ne (show (1 : Nat) ≠ 16 by decide)]; exact st_ne d2 (by omega), by rw [up_ne (show (2 : Nat) ≠ 16 by decide)]; exact st_ne d3 (by omega), by rw [up_ne (show (3 : Nat) ≠ 16 by decide)]; exact st_ne d4 (by omega), by rw [up_ne (show (4 : Nat) ≠ 16 by decide)]; exact st_ne d5 (by omega), by rw [up_ne (show (5 : Nat) ≠ 16 by decide)]; exact st_ne d6 (by omega)⟩
  · intro w hw
    rw [e24] at hw
    rw [e11]
    have hbw := c9 w hw
    obtain ⟨d0, d1, d2, d3, d4, d5⟩ := c8 w hw
    by_cases hvw : w = v
    · subst hvw
      exact ⟨by simp only [up_ne (show (12 : Nat) ≠ 16 by decide), up_ne (show (13 : Nat) ≠ 16 by decide), up_ne (show (14 : Nat) ≠ 16 by decide), up_ne (show (15 : Nat) ≠ 16 by decide), up_ne (show (17 : Nat) ≠ 16 by decide), up_ne (show (18 : Nat) ≠ 16 by decide), up_ne (show (19 : Nat) ≠ 16 by decide), up_ne (show (20 : Nat) ≠ 16 by decide), up_v]; exact st_eq d0, by rw [up_ne (show (6 : Nat) ≠ 16 by decide)]; exact st_ne d1 (by omega), by rw [up_ne (show (7 : Nat) ≠ 16 by decide)]; exact st_ne d2 (by omega), by rw [up_ne (show (8 : Nat) ≠ 16 by decide)]; exact st_ne d3 (by omega), by rw [up_ne (show (9 : Nat) ≠ 16 by decide)]; exact st_ne d4 (by omega), by rw [up_ne (show (10 : Nat) ≠ 16 by decide)]; exact st_ne d5 (by omega)⟩
    · have hdis : β w + 6 ≤ β v ∨ β v + 6 ≤ β w := by rcases Nat.lt_or_gt_of_ne hvw with q | q; exact Or.inl (c10 w v q hv); exact Or.inr (c10 v w q hw)
      exact ⟨by simp only [up_ne (show (12 : Nat) ≠ 16 by decide), up_ne (show (13 : Nat) ≠ 16 by decide), up_ne (show (14 : Nat) ≠ 16 by decide), up_ne (show (15 : Nat) ≠ 16 by decide), up_ne (show (17 : Nat) ≠ 16 by decide), up_ne (show (18 : Nat) ≠ 16 by decide), up_ne (show (19 : Nat) ≠ 16 by decide), up_ne (show (20 : Nat) ≠ 16 by decide), up_ne2 hvw]; exact st_ne d0 (by omega), by rw [up_ne (show (6 : Nat) ≠ 16 by decide)]; exact st_ne d1 (by omega), by rw [up_ne (show (7 : Nat) ≠ 16 by decide)]; exact st_ne d2 (by omega), by rw [up_ne (show (8 : Nat) ≠ 16 by decide)]; exact st_ne d3 (by omega), by rw [up_ne (show (9 : Nat) ≠ 16 by decide)]; exact st_ne d4 (by omega), by rw [up_ne (show (10 : Nat) ≠ 16 by decide)]; exact st_ne d5 (by omega)⟩
  · intro w hw; rw [e24] at hw; exact c9 w hw
  · intro w u hwu hu; rw [e24] at hu; exact c10 w u hwu hu
set_option maxHeartbeats 2000000 in
theorem uV17 {v : Nat} {x : Int32} (hC : is_C o β S h) (hv : v < st_nv S) : is_C o β (st_up S 17 v 0 x) (h.set (β v) (.inr (1, [.int (nI v), .ref (st_K o (st_kd S v)), .int (S 12 v 0), .int (S 13 v 0), .ref (β v + 1), .ref (β v + 2), .ref (β v + 3), .ref (β v + 4), .ref (β v + 5), .int (S 14 v 0), .int (S 15 v 0), .int (S 16 v 0), .int x, .int (S 18 v 0), .int (S 19 v 0), .int (S 20 v 0)]))) := by
  obtain ⟨c1, c2, c3, c4, c5, c6, c7, c8, c9, c10⟩ := hC
  have hb := c9 v hv
  have e24 : st_nv (st_up S 17 v 0 x) = st_nv S := by simp [st_nv, up_ne]
  have e11 : ∀ w, st_kd (st_up S 17 v 0 x) w = st_kd S w := fun w => by simp [st_kd, up_ne]
  refine ⟨?_, ?_, ?_, ?_, ?_, ?_, ?_, ?_, ?_, ?_⟩
  · simp only [up_ne (show (24 : Nat) ≠ 17 by decide), up_ne (show (25 : Nat) ≠ 17 by decide), up_ne (show (26 : Nat) ≠ 17 by decide)]; exact st_ne c1 (by omega)
  · exact st_ne c2 (by omega)
  · rw [e24]; exact st_ne c3 (by omega)
  · rw [up_ne (show (21 : Nat) ≠ 17 by decide)]; exact st_ne c4 (by omega)
  · rw [up_ne (show (22 : Nat) ≠ 17 by decide)]; exact st_ne c5 (by omega)
  · rw [up_ne (show (23 : Nat) ≠ 17 by decide)]; exact st_ne c6 (by omega)
  · intro k' hk'
    have hKk : st_K o k' + 6 < o + 37 := by simp only [st_K]; omega
    obtain ⟨d0, d1, d2, d3, d4, d5, d6⟩ := c7 k' hk'
    exact ⟨st_ne d0 (by omega), by rw [up_ne (show (0 : Nat) ≠ 17 by decide)]; exact st_ne d1 (by omega), by rw [up_ne (show (1 : Nat) ≠ 17 by decide)]; exact st_ne d2 (by omega), by rw [up_ne (show (2 : Nat) ≠ 17 by decide)]; exact st_ne d3 (by omega), by rw [up_ne (show (3 : Nat) ≠ 17 by decide)]; exact st_ne d4 (by omega), by rw [up_ne (show (4 : Nat) ≠ 17 by decide)]; exact st_ne d5 (by omega), by rw [up_ne (show (5 : Nat) ≠ 17 by decide)]; exact st_ne d6 (by omega)⟩
  · intro w hw
    rw [e24] at hw
    rw [e11]
    have hbw := c9 w hw
    obtain ⟨d0, d1, d2, d3, d4, d5⟩ := c8 w hw
    by_cases hvw : w = v
    · subst hvw
      exact ⟨by simp only [up_ne (show (12 : Nat) ≠ 17 by decide), up_ne (show (13 : Nat) ≠ 17 by decide), up_ne (show (14 : Nat) ≠ 17 by decide), up_ne (show (15 : Nat) ≠ 17 by decide), up_ne (show (16 : Nat) ≠ 17 by decide), up_ne (show (18 : Nat) ≠ 17 by decide), up_ne (show (19 : Nat) ≠ 17 by decide), up_ne (show (20 : Nat) ≠ 17 by decide), up_v]; exact st_eq d0, by rw [up_ne (show (6 : Nat) ≠ 17 by decide)]; exact st_ne d1 (by omega), by rw [up_ne (show (7 : Nat) ≠ 17 by decide)]; exact st_ne d2 (by omega), by rw [up_ne (show (8 : Nat) ≠ 17 by decide)]; exact st_ne d3 (by omega), by rw [up_ne (show (9 : Nat) ≠ 17 by decide)]; exact st_ne d4 (by omega), by rw [up_ne (show (10 : Nat) ≠ 17 by decide)]; exact st_ne d5 (by omega)⟩
    · have hdis : β w + 6 ≤ β v ∨ β v + 6 ≤ β w := by rcases Nat.lt_or_gt_of_ne hvw with q | q; exact Or.inl (c10 w v q hv); exact Or.inr (c10 v w q hw)
      exact ⟨by simp only [up_ne (show (12 : Nat) ≠ 17 by decide), up_ne (show (13 : Nat) ≠ 17 by decide), up_ne (show (14 : Nat) ≠ 17 by decide), up_ne (show (15 : Nat) ≠ 17 by decide), up_ne (show (16 : Nat) ≠ 17 by decide), up_ne (show (18 : Nat) ≠ 17 by decide), up_ne (show (19 : Nat) ≠ 17 by decide), up_ne (show (20 : Nat) ≠ 17 by decide), up_ne2 hvw]; exact st_ne d0 (by omega), by rw [up_ne (show (6 : Nat) ≠ 17 by decide)]; exact st_ne d1 (by omega), by rw [up_ne (show (7 : Nat) ≠ 17 by decide)]; exact st_ne d2 (by omega), by rw [up_ne (show (8 : Nat) ≠ 17 by decide)]; exact st_ne d3 (by omega), by rw [up_ne (show (9 : Nat) ≠ 17 by decide)]; exact st_ne d4 (by omega), by rw [up_ne (show (10 : Nat) ≠ 17 by decide)]; exact st_ne d5 (by omega)⟩
  · intro w hw; rw [e24] at hw; exact c9 w hw
  · intro w u hwu hu; rw [e24] at hu; exact c10 w u hwu hu
set_option maxHeartbeats 2000000 in
theorem uV18 {v : Nat} {x : Int32} (hC : is_C o β S h) (hv : v < st_nv S) : is_C o β (st_up S 18 v 0 x) (h.set (β v) (.inr (1, [.int (nI v), .ref (st_K o (st_kd S v)), .int (S 12 v 0), .int (S 13 v 0), .ref (β v + 1), .ref (β v + 2), .ref (β v + 3), .ref (β v + 4), .ref (β v + 5), .int (S 14 v 0), .int (S 15 v 0), .int (S 16 v 0), .int (S 17 v 0), .int x, .int (S 19 v 0), .int (S 20 v 0)]))) := by
  obtain ⟨c1, c2, c3, c4, c5, c6, c7, c8, c9, c10⟩ := hC
  have hb := c9 v hv
  have e24 : st_nv (st_up S 18 v 0 x) = st_nv S := by simp [st_nv, up_ne]
  have e11 : ∀ w, st_kd (st_up S 18 v 0 x) w = st_kd S w := fun w => by simp [st_kd, up_ne]
  refine ⟨?_, ?_, ?_, ?_, ?_, ?_, ?_, ?_, ?_, ?_⟩
  · simp only [up_ne (show (24 : Nat) ≠ 18 by decide), up_ne (show (25 : Nat) ≠ 18 by decide), up_ne (show (26 : Nat) ≠ 18 by decide)]; exact st_ne c1 (by omega)
  · exact st_ne c2 (by omega)
  · rw [e24]; exact st_ne c3 (by omega)
  · rw [up_ne (show (21 : Nat) ≠ 18 by decide)]; exact st_ne c4 (by omega)
  · rw [up_ne (show (22 : Nat) ≠ 18 by decide)]; exact st_ne c5 (by omega)
  · rw [up_ne (show (23 : Nat) ≠ 18 by decide)]; exact st_ne c6 (by omega)
  · intro k' hk'
    have hKk : st_K o k' + 6 < o + 37 := by simp only [st_K]; omega
    obtain ⟨d0, d1, d2, d3, d4, d5, d6⟩ := c7 k' hk'
    exact ⟨st_ne d0 (by omega), by rw [up_ne (show (0 : Nat) ≠ 18 by decide)]; exact st_ne d1 (by omega), by rw [up_ne (show (1 : Nat) ≠ 18 by decide)]; exact st_ne d2 (by omega), by rw [up_ne (show (2 : Nat) ≠ 18 by decide)]; exact st_ne d3 (by omega), by rw [up_ne (show (3 : Nat) ≠ 18 by decide)]; exact st_ne d4 (by omega), by rw [up_ne (show (4 : Nat) ≠ 18 by decide)]; exact st_ne d5 (by omega), by rw [up_ne (show (5 : Nat) ≠ 18 by decide)]; exact st_ne d6 (by omega)⟩
  · intro w hw
    rw [e24] at hw
    rw [e11]
    have hbw := c9 w hw
    obtain ⟨d0, d1, d2, d3, d4, d5⟩ := c8 w hw
    by_cases hvw : w = v
    · subst hvw
      exact ⟨by simp only [up_ne (show (12 : Nat) ≠ 18 by decide), up_ne (show (13 : Nat) ≠ 18 by decide), up_ne (show (14 : Nat) ≠ 18 by decide), up_ne (show (15 : Nat) ≠ 18 by decide), up_ne (show (16 : Nat) ≠ 18 by decide), up_ne (show (17 : Nat) ≠ 18 by decide), up_ne (show (19 : Nat) ≠ 18 by decide), up_ne (show (20 : Nat) ≠ 18 by decide), up_v]; exact st_eq d0, by rw [up_ne (show (6 : Nat) ≠ 18 by decide)]; exact st_ne d1 (by omega), by rw [up_ne (show (7 : Nat) ≠ 18 by decide)]; exact st_ne d2 (by omega), by rw [up_ne (show (8 : Nat) ≠ 18 by decide)]; exact st_ne d3 (by omega), by rw [up_ne (show (9 : Nat) ≠ 18 by decide)]; exact st_ne d4 (by omega), by rw [up_ne (show (10 : Nat) ≠ 18 by decide)]; exact st_ne d5 (by omega)⟩
    · have hdis : β w + 6 ≤ β v ∨ β v + 6 ≤ β w := by rcases Nat.lt_or_gt_of_ne hvw with q | q; exact Or.inl (c10 w v q hv); exact Or.inr (c10 v w q hw)
      exact ⟨by simp only [up_ne (show (12 : Nat) ≠ 18 by decide), up_ne (show (13 : Nat) ≠ 18 by decide), up_ne (show (14 : Nat) ≠ 18 by decide), up_ne (show (15 : Nat) ≠ 18 by decide), up_ne (show (16 : Nat) ≠ 18 by decide), up_ne (show (17 : Nat) ≠ 18 by decide), up_ne (show (19 : Nat) ≠ 18 by decide), up_ne (show (20 : Nat) ≠ 18 by decide), up_ne2 hvw]; exact st_ne d0 (by omega), by rw [up_ne (show (6 : Nat) ≠ 18 by decide)]; exact st_ne d1 (by omega), by rw [up_ne (show (7 : Nat) ≠ 18 by decide)]; exact st_ne d2 (by omega), by rw [up_ne (show (8 : Nat) ≠ 18 by decide)]; exact st_ne d3 (by omega), by rw [up_ne (show (9 : Nat) ≠ 18 by decide)]; exact st_ne d4 (by omega), by rw [up_ne (show (10 : Nat) ≠ 18 by decide)]; exact st_ne d5 (by omega)⟩
  · intro w hw; rw [e24] at hw; exact c9 w hw
  · intro w u hwu hu; rw [e24] at hu; exact c10 w u hwu hu
set_option maxHeartbeats 2000000 in
theorem uV19 {v : Nat} {x : Int32} (hC : is_C o β S h) (hv : v < st_nv S) : is_C o β (st_up S 19 v 0 x) (h.set (β v) (.inr (1, [.int (nI v), .ref (st_K o (st_kd S v)), .int (S 12 v 0), .int (S 13 v 0), .ref (β v + 1), .ref (β v + 2), .ref (β v + 3), .ref (β v + 4), .ref (β v + 5), .int (S 14 v 0), .int (S 15 v 0), .int (S 16 v 0), .int (S 17 v 0), .int (S 18 v 0), .int x, .int (S 20 v 0)]))) := by
  obtain ⟨c1, c2, c3, c4, c5, c6, c7, c8, c9, c10⟩ := hC
  have hb := c9 v hv
  have e24 : st_nv (st_up S 19 v 0 x) = st_nv S := by simp [st_nv, up_ne]
  have e11 : ∀ w, st_kd (st_up S 19 v 0 x) w = st_kd S w := fun w => by simp [st_kd, up_ne]
  refine ⟨?_, ?_, ?_, ?_, ?_, ?_, ?_, ?_, ?_, ?_⟩
  · simp only [up_ne (show (24 : Nat) ≠ 19 by decide), up_ne (show (25 : Nat) ≠ 19 by decide), up_ne (show (26 : Nat) ≠ 19 by decide)]; exact st_ne c1 (by omega)
  · exact st_ne c2 (by omega)
  · rw [e24]; exact st_ne c3 (by omega)
  · rw [up_ne (show (21 : Nat) ≠ 19 by decide)]; exact st_ne c4 (by omega)
  · rw [up_ne (show (22 : Nat) ≠ 19 by decide)]; exact st_ne c5 (by omega)
  · rw [up_ne (show (23 : Nat) ≠ 19 by decide)]; exact st_ne c6 (by omega)
  · intro k' hk'
    have hKk : st_K o k' + 6 < o + 37 := by simp only [st_K]; omega
    obtain ⟨d0, d1, d2, d3, d4, d5, d6⟩ := c7 k' hk'
    exact ⟨st_ne d0 (by omega), by rw [up_ne (show (0 : Nat) ≠ 19 by decide)]; exact st_ne d1 (by omega), by rw [up_ne (show (1 : Nat) ≠ 19 by decide)]; exact st_ne d2 (by omega), by rw [up_ne (show (2 : Nat) ≠ 19 by decide)]; exact st_ne d3 (by omega), by rw [up_ne (show (3 : Nat) ≠ 19 by decide)]; exact st_ne d4 (by omega), by rw [up_ne (show (4 : Nat) ≠ 19 by decide)]; exact st_ne d5 (by omega), by rw [up_ne (show (5 : Nat) ≠ 19 by decide)]; exact st_ne d6 (by omega)⟩
  · intro w hw
    rw [e24] at hw
    rw [e11]
    have hbw := c9 w hw
    obtain ⟨d0, d1, d2, d3, d4, d5⟩ := c8 w hw
    by_cases hvw : w = v
    · subst hvw
      exact ⟨by simp only [up_ne (show (12 : Nat) ≠ 19 by decide), up_ne (show (13 : Nat) ≠ 19 by decide), up_ne (show (14 : Nat) ≠ 19 by decide), up_ne (show (15 : Nat) ≠ 19 by decide), up_ne (show (16 : Nat) ≠ 19 by decide), up_ne (show (17 : Nat) ≠ 19 by decide), up_ne (show (18 : Nat) ≠ 19 by decide), up_ne (show (20 : Nat) ≠ 19 by decide), up_v]; exact st_eq d0, by rw [up_ne (show (6 : Nat) ≠ 19 by decide)]; exact st_ne d1 (by omega), by rw [up_ne (show (7 : Nat) ≠ 19 by decide)]; exact st_ne d2 (by omega), by rw [up_ne (show (8 : Nat) ≠ 19 by decide)]; exact st_ne d3 (by omega), by rw [up_ne (show (9 : Nat) ≠ 19 by decide)]; exact st_ne d4 (by omega), by rw [up_ne (show (10 : Nat) ≠ 19 by decide)]; exact st_ne d5 (by omega)⟩
    · have hdis : β w + 6 ≤ β v ∨ β v + 6 ≤ β w := by rcases Nat.lt_or_gt_of_ne hvw with q | q; exact Or.inl (c10 w v q hv); exact Or.inr (c10 v w q hw)
      exact ⟨by simp only [up_ne (show (12 : Nat) ≠ 19 by decide), up_ne (show (13 : Nat) ≠ 19 by decide), up_ne (show (14 : Nat) ≠ 19 by decide), up_ne (show (15 : Nat) ≠ 19 by decide), up_ne (show (16 : Nat) ≠ 19 by decide), up_ne (show (17 : Nat) ≠ 19 by decide), up_ne (show (18 : Nat) ≠ 19 by decide), up_ne (show (20 : Nat) ≠ 19 by decide), up_ne2 hvw]; exact st_ne d0 (by omega), by rw [up_ne (show (6 : Nat) ≠ 19 by decide)]; exact st_ne d1 (by omega), by rw [up_ne (show (7 : Nat) ≠ 19 by decide)]; exact st_ne d2 (by omega), by rw [up_ne (show (8 : Nat) ≠ 19 by decide)]; exact st_ne d3 (by omega), by rw [up_ne (show (9 : Nat) ≠ 19 by decide)]; exact st_ne d4 (by omega), by rw [up_ne (show (10 : Nat) ≠ 19 by decide)]; exact st_ne d5 (by omega)⟩
  · intro w hw; rw [e24] at hw; exact c9 w hw
  · intro w u hwu hu; rw [e24] at hu; exact c10 w u hwu hu
set_option maxHeartbeats 2000000 in
theorem uV20 {v : Nat} {x : Int32} (hC : is_C o β S h) (hv : v < st_nv S) : is_C o β (st_up S 20 v 0 x) (h.set (β v) (.inr (1, [.int (nI v), .ref (st_K o (st_kd S v)), .int (S 12 v 0), .int (S 13 v 0), .ref (β v + 1), .ref (β v + 2), .ref (β v + 3), .ref (β v + 4), .ref (β v + 5), .int (S 14 v 0), .int (S 15 v 0), .int (S 16 v 0), .int (S 17 v 0), .int (S 18 v 0), .int (S 19 v 0), .int x]))) := by
  obtain ⟨c1, c2, c3, c4, c5, c6, c7, c8, c9, c10⟩ := hC
  have hb := c9 v hv
  have e24 : st_nv (st_up S 20 v 0 x) = st_nv S := by simp [st_nv, up_ne]
  have e11 : ∀ w, st_kd (st_up S 20 v 0 x) w = st_kd S w := fun w => by simp [st_kd, up_ne]
  refine ⟨?_, ?_, ?_, ?_, ?_, ?_, ?_, ?_, ?_, ?_⟩
  · simp only [up_ne (show (24 : Nat) ≠ 20 by decide), up_ne (show (25 : Nat) ≠ 20 by decide), up_ne (show (26 : Nat) ≠ 20 by decide)]; exact st_ne c1 (by omega)
  · exact st_ne c2 (by omega)
  · rw [e24]; exact st_ne c3 (by omega)
  · rw [up_ne (show (21 : Nat) ≠ 20 by decide)]; exact st_ne c4 (by omega)
  · rw [up_ne (show (22 : Nat) ≠ 20 by decide)]; exact st_ne c5 (by omega)
  · rw [up_ne (show (23 : Nat) ≠ 20 by decide)]; exact st_ne c6 (by omega)
  · intro k' hk'
    have hKk : st_K o k' + 6 < o + 37 := by simp only [st_K]; omega
    obtain ⟨d0, d1, d2, d3, d4, d5, d6⟩ := c7 k' hk'
    exact ⟨st_ne d0 (by omega), by rw [up_ne (show (0 : Nat) ≠ 20 by decide)]; exact st_ne d1 (by omega), by rw [up_ne (show (1 : Nat) ≠ 20 by decide)]; exact st_ne d2 (by omega), by rw [up_ne (show (2 : Nat) ≠ 20 by decide)]; exact st_ne d3 (by omega), by rw [up_ne (show (3 : Nat) ≠ 20 by decide)]; exact st_ne d4 (by omega), by rw [up_ne (show (4 : Nat) ≠ 20 by decide)]; exact st_ne d5 (by omega), by rw [up_ne (show (5 : Nat) ≠ 20 by decide)]; exact st_ne d6 (by omega)⟩
  · intro w hw
    rw [e24] at hw
    rw [e11]
    have hbw := c9 w hw
    obtain ⟨d0, d1, d2, d3, d4, d5⟩ := c8 w hw
    by_cases hvw : w = v
    · subst hvw
      exact ⟨by simp only [up_ne (show (12 : Nat) ≠ 20 by decide), up_ne (show (13 : Nat) ≠ 20 by decide), up_ne (show (14 : Nat) ≠ 20 by decide), up_ne (show (15 : Nat) ≠ 20 by decide), up_ne (show (16 : Nat) ≠ 20 by decide), up_ne (show (17 : Nat) ≠ 20 by decide), up_ne (show (18 : Nat) ≠ 20 by decide), up_ne (show (19 : Nat) ≠ 20 by decide), up_v]; exact st_eq d0, by rw [up_ne (show (6 : Nat) ≠ 20 by decide)]; exact st_ne d1 (by omega), by rw [up_ne (show (7 : Nat) ≠ 20 by decide)]; exact st_ne d2 (by omega), by rw [up_ne (show (8 : Nat) ≠ 20 by decide)]; exact st_ne d3 (by omega), by rw [up_ne (show (9 : Nat) ≠ 20 by decide)]; exact st_ne d4 (by omega), by rw [up_ne (show (10 : Nat) ≠ 20 by decide)]; exact st_ne d5 (by omega)⟩
    · have hdis : β w + 6 ≤ β v ∨ β v + 6 ≤ β w := by rcases Nat.lt_or_gt_of_ne hvw with q | q; exact Or.inl (c10 w v q hv); exact Or.inr (c10 v w q hw)
      exact ⟨by simp only [up_ne (show (12 : Nat) ≠ 20 by decide), up_ne (show (13 : Nat) ≠ 20 by decide), up_ne (show (14 : Nat) ≠ 20 by decide), up_ne (show (15 : Nat) ≠ 20 by decide), up_ne (show (16 : Nat) ≠ 20 by decide), up_ne (show (17 : Nat) ≠ 20 by decide), up_ne (show (18 : Nat) ≠ 20 by decide), up_ne (show (19 : Nat) ≠ 20 by decide), up_ne2 hvw]; exact st_ne d0 (by omega), by rw [up_ne (show (6 : Nat) ≠ 20 by decide)]; exact st_ne d1 (by omega), by rw [up_ne (show (7 : Nat) ≠ 20 by decide)]; exact st_ne d2 (by omega), by rw [up_ne (show (8 : Nat) ≠ 20 by decide)]; exact st_ne d3 (by omega), by rw [up_ne (show (9 : Nat) ≠ 20 by decide)]; exact st_ne d4 (by omega), by rw [up_ne (show (10 : Nat) ≠ 20 by decide)]; exact st_ne d5 (by omega)⟩
  · intro w hw; rw [e24] at hw; exact c9 w hw
  · intro w u hwu hu; rw [e24] at hu; exact c10 w u hwu hu
set_option maxHeartbeats 2000000 in
theorem uD21 {j : Nat} {x : Int32} (hC : is_C o β S h) : is_C o β (st_up S 21 0 j x) (h.set (o + 38) (.inl (.int, (100, .inl (upd (S 21 0) j x))))) := by
  obtain ⟨c1, c2, c3, c4, c5, c6, c7, c8, c9, c10⟩ := hC
  have e24 : st_nv (st_up S 21 0 j x) = st_nv S := by simp [st_nv, up_ne]
  have e11 : ∀ w, st_kd (st_up S 21 0 j x) w = st_kd S w := fun w => by simp [st_kd, up_ne]
  refine ⟨?_, ?_, ?_, ?_, ?_, ?_, ?_, ?_, ?_, ?_⟩
  · simp only [up_ne (show (24 : Nat) ≠ 21 by decide), up_ne (show (25 : Nat) ≠ 21 by decide), up_ne (show (26 : Nat) ≠ 21 by decide)]; exact st_ne c1 (by omega)
  · exact st_ne c2 (by omega)
  · rw [e24]; exact st_ne c3 (by omega)
  · rw [up_eq]; exact st_eq c4
  · rw [up_ne (show (22 : Nat) ≠ 21 by decide)]; exact st_ne c5 (by omega)
  · rw [up_ne (show (23 : Nat) ≠ 21 by decide)]; exact st_ne c6 (by omega)
  · intro k' hk'
    have hKk : st_K o k' + 6 < o + 37 ∧ o < st_K o k' := by simp only [st_K]; omega
    obtain ⟨d0, d1, d2, d3, d4, d5, d6⟩ := c7 k' hk'
    exact ⟨st_ne d0 (by omega), by rw [up_ne (show (0 : Nat) ≠ 21 by decide)]; exact st_ne d1 (by omega), by rw [up_ne (show (1 : Nat) ≠ 21 by decide)]; exact st_ne d2 (by omega), by rw [up_ne (show (2 : Nat) ≠ 21 by decide)]; exact st_ne d3 (by omega), by rw [up_ne (show (3 : Nat) ≠ 21 by decide)]; exact st_ne d4 (by omega), by rw [up_ne (show (4 : Nat) ≠ 21 by decide)]; exact st_ne d5 (by omega), by rw [up_ne (show (5 : Nat) ≠ 21 by decide)]; exact st_ne d6 (by omega)⟩
  · intro w hw
    rw [e24] at hw
    rw [e11]
    have hbw := c9 w hw
    obtain ⟨d0, d1, d2, d3, d4, d5⟩ := c8 w hw
    exact ⟨by simp only [up_ne (show (12 : Nat) ≠ 21 by decide), up_ne (show (13 : Nat) ≠ 21 by decide), up_ne (show (14 : Nat) ≠ 21 by decide), up_ne (show (15 : Nat) ≠ 21 by decide), up_ne (show (16 : Nat) ≠ 21 by decide), up_ne (show (17 : Nat) ≠ 21 by decide), up_ne (show (18 : Nat) ≠ 21 by decide), up_ne (show (19 : Nat) ≠ 21 by decide), up_ne (show (20 : Nat) ≠ 21 by decide)]; exact st_ne d0 (by omega), by rw [up_ne (show (6 : Nat) ≠ 21 by decide)]; exact st_ne d1 (by omega), by rw [up_ne (show (7 : Nat) ≠ 21 by decide)]; exact st_ne d2 (by omega), by rw [up_ne (show (8 : Nat) ≠ 21 by decide)]; exact st_ne d3 (by omega), by rw [up_ne (show (9 : Nat) ≠ 21 by decide)]; exact st_ne d4 (by omega), by rw [up_ne (show (10 : Nat) ≠ 21 by decide)]; exact st_ne d5 (by omega)⟩
  · intro w hw; rw [e24] at hw; exact c9 w hw
  · intro w u hwu hu; rw [e24] at hu; exact c10 w u hwu hu
set_option maxHeartbeats 2000000 in
theorem uD22 {j : Nat} {x : Int32} (hC : is_C o β S h) : is_C o β (st_up S 22 0 j x) (h.set (o + 39) (.inl (.int, (100, .inl (upd (S 22 0) j x))))) := by
  obtain ⟨c1, c2, c3, c4, c5, c6, c7, c8, c9, c10⟩ := hC
  have e24 : st_nv (st_up S 22 0 j x) = st_nv S := by simp [st_nv, up_ne]
  have e11 : ∀ w, st_kd (st_up S 22 0 j x) w = st_kd S w := fun w => by simp [st_kd, up_ne]
  refine ⟨?_, ?_, ?_, ?_, ?_, ?_, ?_, ?_, ?_, ?_⟩
  · simp only [up_ne (show (24 : Nat) ≠ 22 by decide), up_ne (show (25 : Nat) ≠ 22 by decide), up_ne (show (26 : Nat) ≠ 22 by decide)]; exact st_ne c1 (by omega)
  · exact st_ne c2 (by omega)
  · rw [e24]; exact st_ne c3 (by omega)
  · rw [up_ne (show (21 : Nat) ≠ 22 by decide)]; exact st_ne c4 (by omega)
  · rw [up_eq]; exact st_eq c5
  · rw [up_ne (show (23 : Nat) ≠ 22 by decide)]; exact st_ne c6 (by omega)
  · intro k' hk'
    have hKk : st_K o k' + 6 < o + 37 ∧ o < st_K o k' := by simp only [st_K]; omega
    obtain ⟨d0, d1, d2, d3, d4, d5, d6⟩ := c7 k' hk'
    exact ⟨st_ne d0 (by omega), by rw [up_ne (show (0 : Nat) ≠ 22 by decide)]; exact st_ne d1 (by omega), by rw [up_ne (show (1 : Nat) ≠ 22 by decide)]; exact st_ne d2 (by omega), by rw [up_ne (show (2 : Nat) ≠ 22 by decide)]; exact st_ne d3 (by omega), by rw [up_ne (show (3 : Nat) ≠ 22 by decide)]; exact st_ne d4 (by omega), by rw [up_ne (show (4 : Nat) ≠ 22 by decide)]; exact st_ne d5 (by omega), by rw [up_ne (show (5 : Nat) ≠ 22 by decide)]; exact st_ne d6 (by omega)⟩
  · intro w hw
    rw [e24] at hw
    rw [e11]
    have hbw := c9 w hw
    obtain ⟨d0, d1, d2, d3, d4, d5⟩ := c8 w hw
    exact ⟨by simp only [up_ne (show (12 : Nat) ≠ 22 by decide), up_ne (show (13 : Nat) ≠ 22 by decide), up_ne (show (14 : Nat) ≠ 22 by decide), up_ne (show (15 : Nat) ≠ 22 by decide), up_ne (show (16 : Nat) ≠ 22 by decide), up_ne (show (17 : Nat) ≠ 22 by decide), up_ne (show (18 : Nat) ≠ 22 by decide), up_ne (show (19 : Nat) ≠ 22 by decide), up_ne (show (20 : Nat) ≠ 22 by decide)]; exact st_ne d0 (by omega), by rw [up_ne (show (6 : Nat) ≠ 22 by decide)]; exact st_ne d1 (by omega), by rw [up_ne (show (7 : Nat) ≠ 22 by decide)]; exact st_ne d2 (by omega), by rw [up_ne (show (8 : Nat) ≠ 22 by decide)]; exact st_ne d3 (by omega), by rw [up_ne (show (9 : Nat) ≠ 22 by decide)]; exact st_ne d4 (by omega), by rw [up_ne (show (10 : Nat) ≠ 22 by decide)]; exact st_ne d5 (by omega)⟩
  · intro w hw; rw [e24] at hw; exact c9 w hw
  · intro w u hwu hu; rw [e24] at hu; exact c10 w u hwu hu
set_option maxHeartbeats 2000000 in
theorem uD23 {j : Nat} {x : Int32} (hC : is_C o β S h) : is_C o β (st_up S 23 0 j x) (h.set (o + 40) (.inl (.int, (100, .inl (upd (S 23 0) j x))))) := by
  obtain ⟨c1, c2, c3, c4, c5, c6, c7, c8, c9, c10⟩ := hC
  have e24 : st_nv (st_up S 23 0 j x) = st_nv S := by simp [st_nv, up_ne]
  have e11 : ∀ w, st_kd (st_up S 23 0 j x) w = st_kd S w := fun w => by simp [st_kd, up_ne]
  refine ⟨?_, ?_, ?_, ?_, ?_, ?_, ?_, ?_, ?_, ?_⟩
  · simp only [up_ne (show (24 : Nat) ≠ 23 by decide), up_ne (show (25 : Nat) ≠ 23 by decide), up_ne (show (26 : Nat) ≠ 23 by decide)]; exact st_ne c1 (by omega)
  · exact st_ne c2 (by omega)
  · rw [e24]; exact st_ne c3 (by omega)
  · rw [up_ne (show (21 : Nat) ≠ 23 by decide)]; exact st_ne c4 (by omega)
  · rw [up_ne (show (22 : Nat) ≠ 23 by decide)]; exact st_ne c5 (by omega)
  · rw [up_eq]; exact st_eq c6
  · intro k' hk'
    have hKk : st_K o k' + 6 < o + 37 ∧ o < st_K o k' := by simp only [st_K]; omega
    obtain ⟨d0, d1, d2, d3, d4, d5, d6⟩ := c7 k' hk'
    exact ⟨st_ne d0 (by omega), by rw [up_ne (show (0 : Nat) ≠ 23 by decide)]; exact st_ne d1 (by omega), by rw [up_ne (show (1 : Nat) ≠ 23 by decide)]; exact st_ne d2 (by omega), by rw [up_ne (show (2 : Nat) ≠ 23 by decide)]; exact st_ne d3 (by omega), by rw [up_ne (show (3 : Nat) ≠ 23 by decide)]; exact st_ne d4 (by omega), by rw [up_ne (show (4 : Nat) ≠ 23 by decide)]; exact st_ne d5 (by omega), by rw [up_ne (show (5 : Nat) ≠ 23 by decide)]; exact st_ne d6 (by omega)⟩
  · intro w hw
    rw [e24] at hw
    rw [e11]
    have hbw := c9 w hw
    obtain ⟨d0, d1, d2, d3, d4, d5⟩ := c8 w hw
    exact ⟨by simp only [up_ne (show (12 : Nat) ≠ 23 by decide), up_ne (show (13 : Nat) ≠ 23 by decide), up_ne (show (14 : Nat) ≠ 23 by decide), up_ne (show (15 : Nat) ≠ 23 by decide), up_ne (show (16 : Nat) ≠ 23 by decide), up_ne (show (17 : Nat) ≠ 23 by decide), up_ne (show (18 : Nat) ≠ 23 by decide), up_ne (show (19 : Nat) ≠ 23 by decide), up_ne (show (20 : Nat) ≠ 23 by decide)]; exact st_ne d0 (by omega), by rw [up_ne (show (6 : Nat) ≠ 23 by decide)]; exact st_ne d1 (by omega), by rw [up_ne (show (7 : Nat) ≠ 23 by decide)]; exact st_ne d2 (by omega), by rw [up_ne (show (8 : Nat) ≠ 23 by decide)]; exact st_ne d3 (by omega), by rw [up_ne (show (9 : Nat) ≠ 23 by decide)]; exact st_ne d4 (by omega), by rw [up_ne (show (10 : Nat) ≠ 23 by decide)]; exact st_ne d5 (by omega)⟩
  · intro w hw; rw [e24] at hw; exact c9 w hw
  · intro w u hwu hu; rw [e24] at hu; exact c10 w u hwu hu
set_option maxHeartbeats 2000000 in
theorem uD25 {x : Int32} (hC : is_C o β S h) : is_C o β (st_up S 25 0 0 x) (h.set o (.inr (2, [.ref (o + 1), .ref (o + 37), .ref (o + 38), .ref (o + 39), .ref (o + 40), .int (S 24 0 0), .int x, .int (S 26 0 0)]))) := by
  obtain ⟨c1, c2, c3, c4, c5, c6, c7, c8, c9, c10⟩ := hC
  have e24 : st_nv (st_up S 25 0 0 x) = st_nv S := by simp [st_nv, up_ne]
  have e11 : ∀ w, st_kd (st_up S 25 0 0 x) w = st_kd S w := fun w => by simp [st_kd, up_ne]
  refine ⟨?_, ?_, ?_, ?_, ?_, ?_, ?_, ?_, ?_, ?_⟩
  · simp only [up_ne (show (24 : Nat) ≠ 25 by decide), up_ne (show (26 : Nat) ≠ 25 by decide), up_v]; exact st_eq c1
  · exact st_ne c2 (by omega)
  · rw [e24]; exact st_ne c3 (by omega)
  · rw [up_ne (show (21 : Nat) ≠ 25 by decide)]; exact st_ne c4 (by omega)
  · rw [up_ne (show (22 : Nat) ≠ 25 by decide)]; exact st_ne c5 (by omega)
  · rw [up_ne (show (23 : Nat) ≠ 25 by decide)]; exact st_ne c6 (by omega)
  · intro k' hk'
    have hKk : st_K o k' + 6 < o + 37 ∧ o < st_K o k' := by simp only [st_K]; omega
    obtain ⟨d0, d1, d2, d3, d4, d5, d6⟩ := c7 k' hk'
    exact ⟨st_ne d0 (by omega), by rw [up_ne (show (0 : Nat) ≠ 25 by decide)]; exact st_ne d1 (by omega), by rw [up_ne (show (1 : Nat) ≠ 25 by decide)]; exact st_ne d2 (by omega), by rw [up_ne (show (2 : Nat) ≠ 25 by decide)]; exact st_ne d3 (by omega), by rw [up_ne (show (3 : Nat) ≠ 25 by decide)]; exact st_ne d4 (by omega), by rw [up_ne (show (4 : Nat) ≠ 25 by decide)]; exact st_ne d5 (by omega), by rw [up_ne (show (5 : Nat) ≠ 25 by decide)]; exact st_ne d6 (by omega)⟩
  · intro w hw
    rw [e24] at hw
    rw [e11]
    have hbw := c9 w hw
    obtain ⟨d0, d1, d2, d3, d4, d5⟩ := c8 w hw
    exact ⟨by simp only [up_ne (show (12 : Nat) ≠ 25 by decide), up_ne (show (13 : Nat) ≠ 25 by decide), up_ne (show (14 : Nat) ≠ 25 by decide), up_ne (show (15 : Nat) ≠ 25 by decide), up_ne (show (16 : Nat) ≠ 25 by decide), up_ne (show (17 : Nat) ≠ 25 by decide), up_ne (show (18 : Nat) ≠ 25 by decide), up_ne (show (19 : Nat) ≠ 25 by decide), up_ne (show (20 : Nat) ≠ 25 by decide)]; exact st_ne d0 (by omega), by rw [up_ne (show (6 : Nat) ≠ 25 by decide)]; exact st_ne d1 (by omega), by rw [up_ne (show (7 : Nat) ≠ 25 by decide)]; exact st_ne d2 (by omega), by rw [up_ne (show (8 : Nat) ≠ 25 by decide)]; exact st_ne d3 (by omega), by rw [up_ne (show (9 : Nat) ≠ 25 by decide)]; exact st_ne d4 (by omega), by rw [up_ne (show (10 : Nat) ≠ 25 by decide)]; exact st_ne d5 (by omega)⟩
  · intro w hw; rw [e24] at hw; exact c9 w hw
  · intro w u hwu hu; rw [e24] at hu; exact c10 w u hwu hu
set_option maxHeartbeats 2000000 in
theorem uD26 {x : Int32} (hC : is_C o β S h) : is_C o β (st_up S 26 0 0 x) (h.set o (.inr (2, [.ref (o + 1), .ref (o + 37), .ref (o + 38), .ref (o + 39), .ref (o + 40), .int (S 24 0 0), .int (S 25 0 0), .int x]))) := by
  obtain ⟨c1, c2, c3, c4, c5, c6, c7, c8, c9, c10⟩ := hC
  have e24 : st_nv (st_up S 26 0 0 x) = st_nv S := by simp [st_nv, up_ne]
  have e11 : ∀ w, st_kd (st_up S 26 0 0 x) w = st_kd S w := fun w => by simp [st_kd, up_ne]
  refine ⟨?_, ?_, ?_, ?_, ?_, ?_, ?_, ?_, ?_, ?_⟩
  · simp only [up_ne (show (24 : Nat) ≠ 26 by decide), up_ne (show (25 : Nat) ≠ 26 by decide), up_v]; exact st_eq c1
  · exact st_ne c2 (by omega)
  · rw [e24]; exact st_ne c3 (by omega)
  · rw [up_ne (show (21 : Nat) ≠ 26 by decide)]; exact st_ne c4 (by omega)
  · rw [up_ne (show (22 : Nat) ≠ 26 by decide)]; exact st_ne c5 (by omega)
  · rw [up_ne (show (23 : Nat) ≠ 26 by decide)]; exact st_ne c6 (by omega)
  · intro k' hk'
    have hKk : st_K o k' + 6 < o + 37 ∧ o < st_K o k' := by simp only [st_K]; omega
    obtain ⟨d0, d1, d2, d3, d4, d5, d6⟩ := c7 k' hk'
    exact ⟨st_ne d0 (by omega), by rw [up_ne (show (0 : Nat) ≠ 26 by decide)]; exact st_ne d1 (by omega), by rw [up_ne (show (1 : Nat) ≠ 26 by decide)]; exact st_ne d2 (by omega), by rw [up_ne (show (2 : Nat) ≠ 26 by decide)]; exact st_ne d3 (by omega), by rw [up_ne (show (3 : Nat) ≠ 26 by decide)]; exact st_ne d4 (by omega), by rw [up_ne (show (4 : Nat) ≠ 26 by decide)]; exact st_ne d5 (by omega), by rw [up_ne (show (5 : Nat) ≠ 26 by decide)]; exact st_ne d6 (by omega)⟩
  · intro w hw
    rw [e24] at hw
    rw [e11]
    have hbw := c9 w hw
    obtain ⟨d0, d1, d2, d3, d4, d5⟩ := c8 w hw
    exact ⟨by simp only [up_ne (show (12 : Nat) ≠ 26 by decide), up_ne (show (13 : Nat) ≠ 26 by decide), up_ne (show (14 : Nat) ≠ 26 by decide), up_ne (show (15 : Nat) ≠ 26 by decide), up_ne (show (16 : Nat) ≠ 26 by decide), up_ne (show (17 : Nat) ≠ 26 by decide), up_ne (show (18 : Nat) ≠ 26 by decide), up_ne (show (19 : Nat) ≠ 26 by decide), up_ne (show (20 : Nat) ≠ 26 by decide)]; exact st_ne d0 (by omega), by rw [up_ne (show (6 : Nat) ≠ 26 by decide)]; exact st_ne d1 (by omega), by rw [up_ne (show (7 : Nat) ≠ 26 by decide)]; exact st_ne d2 (by omega), by rw [up_ne (show (8 : Nat) ≠ 26 by decide)]; exact st_ne d3 (by omega), by rw [up_ne (show (9 : Nat) ≠ 26 by decide)]; exact st_ne d4 (by omega), by rw [up_ne (show (10 : Nat) ≠ 26 by decide)]; exact st_ne d5 (by omega)⟩
  · intro w hw; rw [e24] at hw; exact c9 w hw
  · intro w u hwu hu; rw [e24] at hu; exact c10 w u hwu hu
end UPD
