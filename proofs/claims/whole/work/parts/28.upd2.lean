/-! switches; several changes at once -/
theorem st_t0 {x : Int32} {k : Int} (h : ¬ x.toInt = k) {y : Int32} (hy : y.toInt = k) : ¬ x = y := fun e => h (by rw [e]; exact hy)
theorem st_sw6 (x : Int32) : ((x.toInt < 0 ∨ 5 < x.toInt) ∧ ¬ x = 0 ∧ ¬ x = 1 ∧ ¬ x = 2 ∧ ¬ x = 3 ∧ ¬ x = 4 ∧ ¬ x = 5) ∨ x = 0 ∨ x = 1 ∨ x = 2 ∨ x = 3 ∨ x = 4 ∨ x = 5 := by
  by_cases h0 : x = 0
  · exact Or.inr (Or.inl h0)
  by_cases h1 : x = 1
  · exact Or.inr (Or.inr (Or.inl h1))
  by_cases h2 : x = 2
  · exact Or.inr (Or.inr (Or.inr (Or.inl h2)))
  by_cases h3 : x = 3
  · exact Or.inr (Or.inr (Or.inr (Or.inr (Or.inl h3))))
  by_cases h4 : x = 4
  · exact Or.inr (Or.inr (Or.inr (Or.inr (Or.inr (Or.inl h4)))))
  by_cases h5 : x = 5
  · exact Or.inr (Or.inr (Or.inr (Or.inr (Or.inr (Or.inr h5)))))
  refine Or.inl ⟨?_, h0, h1, h2, h3, h4, h5⟩
  have e0 : ¬ x.toInt = 0 := fun e => h0 (Int32.toInt_inj.mp e)
  have e1 : ¬ x.toInt = 1 := fun e => h1 (Int32.toInt_inj.mp e)
  have e2 : ¬ x.toInt = 2 := fun e => h2 (Int32.toInt_inj.mp e)
  have e3 : ¬ x.toInt = 3 := fun e => h3 (Int32.toInt_inj.mp e)
  have e4 : ¬ x.toInt = 4 := fun e => h4 (Int32.toInt_inj.mp e)
  have e5 : ¬ x.toInt = 5 := fun e => h5 (Int32.toInt_inj.mp e)
  omega
theorem st_nz {x : Int32} (hx : x = 0 ∨ x = 1) : ∀ θ : Nat → Nat, narrow .boolean (se_v θ (.int x)) = se_v θ (.int x) ∧ fits .boolean (se_v θ (.int x)) = true := by
  intro θ
  show narrow .boolean (.int x) = .int x ∧ fits .boolean (.int x) = true
  rcases hx with rfl | rfl <;> exact ⟨by decide, by decide⟩
theorem st_bb (b : Bool) : (if st_b b = 0 then (0 : Int32) else 1) = st_b b := by cases b <;> decide
section UPD2
variable {o : Nat} {β : Nat → Nat} {S : st_S} {h : se_H}
theorem uList {k j : Nat} {a b g e : Int32} (hC : is_C o β S h) (hk : k < 5) : is_C o β (st_up (st_up (st_up (st_up (st_up S 0 k j 1) 1 k j a) 2 k j b) 3 k j g) 4 k j e)
    (((((h.set (st_K o k + 1) (.inl (.boolean, (10, .inl (upd (S 0 k) j 1))))).set (st_K o k + 2) (.inl (.int, (10, .inl (upd (S 1 k) j a))))).set (st_K o k + 3) (.inl (.int, (10, .inl (upd (S 2 k) j b))))).set (st_K o k + 4) (.inl (.int, (10, .inl (upd (S 3 k) j g))))).set (st_K o k + 5) (.inl (.int, (10, .inl (upd (S 4 k) j e))))) := by
  have q1 := uK0 (j := j) (x := 1) hC hk
  have q2 := uK1 (j := j) (x := a) q1 hk
  rw [up_ne (show (1 : Nat) ≠ 0 by decide)] at q2
  have q3 := uK2 (j := j) (x := b) q2 hk
  rw [up_ne (show (2 : Nat) ≠ 1 by decide), up_ne (show (2 : Nat) ≠ 0 by decide)] at q3
  have q4 := uK3 (j := j) (x := g) q3 hk
  rw [up_ne (show (3 : Nat) ≠ 2 by decide), up_ne (show (3 : Nat) ≠ 1 by decide), up_ne (show (3 : Nat) ≠ 0 by decide)] at q4
  have q5 := uK4 (j := j) (x := e) q4 hk
  rw [up_ne (show (4 : Nat) ≠ 3 by decide), up_ne (show (4 : Nat) ≠ 2 by decide), up_ne (show (4 : Nat) ≠ 1 by decide), up_ne (show (4 : Nat) ≠ 0 by decide)] at q5
  exact q5
theorem nv_up {t a b : Nat} {x : Int32} (ht : 24 ≠ t) : st_nv (st_up S t a b x) = st_nv S := by simp only [st_nv, up_ne ht]
theorem kd_up {t a b v : Nat} {x : Int32} (ht : 11 ≠ t) : st_kd (st_up S t a b x) v = st_kd S v := by simp only [st_kd, up_ne ht]
theorem nd_up {t a b : Nat} {x : Int32} (ht : 25 ≠ t) : st_nd (st_up S t a b x) = st_nd S := by simp only [st_nd, up_ne ht]
theorem uAnswer {v j : Nat} {a b g : Int32} (hC : is_C o β S h) (hv : v < st_nv S) : is_C o β (st_up (st_up (st_up (st_up S 7 v j a) 8 v j b) 9 v j g) 10 v j (S 17 v 0))
    ((((h.set (β v + 2) (.inl (.int, (10, .inl (upd (S 7 v) j a))))).set (β v + 3) (.inl (.int, (10, .inl (upd (S 8 v) j b))))).set (β v + 4) (.inl (.int, (10, .inl (upd (S 9 v) j g))))).set (β v + 5) (.inl (.int, (10, .inl (upd (S 10 v) j (S 17 v 0)))))) := by
  have q1 := uV7 (j := j) (x := a) hC hv
  have q2 := uV8 (j := j) (x := b) q1 (by rw [nv_up (by decide)]; exact hv)
  rw [up_ne (show (8 : Nat) ≠ 7 by decide)] at q2
  have q3 := uV9 (j := j) (x := g) q2 (by rw [nv_up (by decide), nv_up (by decide)]; exact hv)
  rw [up_ne (show (9 : Nat) ≠ 8 by decide), up_ne (show (9 : Nat) ≠ 7 by decide)] at q3
  have q4 := uV10 (j := j) (x := S 17 v 0) q3 (by rw [nv_up (by decide), nv_up (by decide), nv_up (by decide)]; exact hv)
  rw [up_ne (show (10 : Nat) ≠ 9 by decide), up_ne (show (10 : Nat) ≠ 8 by decide), up_ne (show (10 : Nat) ≠ 7 by decide)] at q4
  exact q4
theorem uUse1 {v : Nat} (hC : is_C o β S h) (hv : v < st_nv S) : is_C o β (st_up (st_up S 17 v 0 (S 17 v 0 + 1)) 16 v 0 (S 16 v 0 + 1)) (h.set (β v) (.inr (1, [.int (nI v), .ref (st_K o (st_kd S v)), .int (S 12 v 0), .int (S 13 v 0), .ref (β v + 1), .ref (β v + 2), .ref (β v + 3), .ref (β v + 4), .ref (β v + 5), .int (S 14 v 0), .int (S 15 v 0), .int (S 16 v 0 + 1), .int (S 17 v 0 + 1), .int (S 18 v 0), .int (S 19 v 0), .int (S 20 v 0)]))) := by
  have q := uV16 (x := S 16 v 0 + 1) (uV17 (x := S 17 v 0 + 1) hC hv) (by rw [nv_up (by decide)]; exact hv)
  rw [List.set_set] at q
  simp only [kd_up (show 11 ≠ 17 by decide), up_v, up_ne (show (12 : Nat) ≠ 17 by decide), up_ne (show (13 : Nat) ≠ 17 by decide), up_ne (show (14 : Nat) ≠ 17 by decide), up_ne (show (15 : Nat) ≠ 17 by decide), up_ne (show (18 : Nat) ≠ 17 by decide), up_ne (show (19 : Nat) ≠ 17 by decide), up_ne (show (20 : Nat) ≠ 17 by decide)] at q
  exact q
theorem uUse2 {v : Nat} {x : Int32} (hC : is_C o β S h) (hv : v < st_nv S) : is_C o β (st_up (st_up S 17 v 0 (S 17 v 0 + 1)) 15 v 0 x) (h.set (β v) (.inr (1, [.int (nI v), .ref (st_K o (st_kd S v)), .int (S 12 v 0), .int (S 13 v 0), .ref (β v + 1), .ref (β v + 2), .ref (β v + 3), .ref (β v + 4), .ref (β v + 5), .int (S 14 v 0), .int x, .int (S 16 v 0), .int (S 17 v 0 + 1), .int (S 18 v 0), .int (S 19 v 0), .int (S 20 v 0)]))) := by
  have q := uV15 (x := x) (uV17 (x := S 17 v 0 + 1) hC hv) (by rw [nv_up (by decide)]; exact hv)
  rw [List.set_set] at q
  simp only [kd_up (show 11 ≠ 17 by decide), up_v, up_ne (show (12 : Nat) ≠ 17 by decide), up_ne (show (13 : Nat) ≠ 17 by decide), up_ne (show (14 : Nat) ≠ 17 by decide), up_ne (show (16 : Nat) ≠ 17 by decide), up_ne (show (18 : Nat) ≠ 17 by decide), up_ne (show (19 : Nat) ≠ 17 by decide), up_ne (show (20 : Nat) ≠ 17 by decide)] at q
  exact q
theorem uDamage {n : Nat} {x g c : Int32} (hC : is_C o β S h) : is_C o β (st_up (st_up (st_up S 21 0 n x) 22 0 n g) 25 0 0 c) (((h.set (o + 38) (.inl (.int, (100, .inl (upd (S 21 0) n x))))).set (o + 39) (.inl (.int, (100, .inl (upd (S 22 0) n g))))).set o (.inr (2, [.ref (o + 1), .ref (o + 37), .ref (o + 38), .ref (o + 39), .ref (o + 40), .int (S 24 0 0), .int c, .int (S 26 0 0)]))) := by
  have q := uD25 (x := c) (uD22 (j := n) (x := g) (uD21 (j := n) (x := x) hC))
  simp only [up_ne (show (22 : Nat) ≠ 21 by decide), up_ne (show (24 : Nat) ≠ 22 by decide), up_ne (show (24 : Nat) ≠ 21 by decide), up_ne (show (26 : Nat) ≠ 22 by decide), up_ne (show (26 : Nat) ≠ 21 by decide)] at q
  exact q
theorem uSwap {v w t : Nat} {x y : Int32} (hC : is_C o β S h) (hv : v < st_nv S) (hw : w < st_nv S) (hvw : w ≠ v) : is_C o β (st_up (st_up S 6 v t x) 6 w t y) ((h.set (β v + 1) (.inl (.int, (10, .inl (upd (S 6 v) t x))))).set (β w + 1) (.inl (.int, (10, .inl (upd (S 6 w) t y))))) := by
  have q := uV6 (j := t) (x := y) (uV6 (j := t) (x := x) hC hv) (v := w) (by rw [nv_up (by decide)]; exact hw)
  rw [up_ne2 hvw] at q
  exact q
end UPD2
