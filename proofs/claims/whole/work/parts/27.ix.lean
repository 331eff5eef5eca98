/-! indices; what a call of the class says at its end -/
def st_x (n : Nat) (x : Int32) : Option Nat := if 0 ≤ x ∧ x < nI n then some x.toNatClampNeg else none
theorem st_x_some {n j : Nat} (hn : n < 2 ^ 31) (hj : j < n) : st_x n (nI j) = some j := by
  rw [st_x, if_pos ⟨nI_pos' (by omega), nI_lt hj hn⟩, nI_clamp (by omega)]
theorem st_x_none {n : Nat} {x : Int32} (h : x < 0 ∨ nI n ≤ x) : st_x n x = none := by
  rw [st_x, if_neg]
  rintro ⟨h1, h2⟩
  rcases h with h | h
  · exact Int32.not_lt.mpr h1 h
  · exact Int32.not_lt.mpr h h2
/-- within a range; room; no place below 0 -/
def st_in (a b x : Int32) : Bool := decide (a ≤ x) && decide (x ≤ b)
def st_rm (x y z : Int32) : Bool := decide (y ≤ z - x)
def st_g0 (x : Int32) : Bool := decide (0 ≤ x)
/-- r: the refusal's number (0: none), the answer, the state behind it; Es: what the refusals throw -/
def cP (β : Nat → Nat) (h : se_H) (Es : List String) (r : Nat × Option Value × st_S) : se_O → se_H → Prop := fun u h' =>
  (r.1 = 0 ∧ u = .inl r.2.1 ∧ is_C 0 β r.2.2 h' ∧ st_fr h h') ∨ (∃ E, r.1 ≠ 0 ∧ Es[r.1 - 1]? = some E ∧ u = .inr E ∧ h' = h)
theorem cP_ret {β : Nat → Nat} {h h' : se_H} {Es : List String} {r : Nat × Option Value × st_S} {v : Option Value} {S' : st_S} (e : r = (0, v, S')) (hC : is_C 0 β S' h') (hf : st_fr h h') : cP β h Es r (.inl v) h' := by
  subst e; exact Or.inl ⟨rfl, rfl, hC, hf⟩
theorem cP_thr {β : Nat → Nat} {h : se_H} {Es : List String} {r : Nat × Option Value × st_S} {E : String} {S : st_S} (n : Nat) (e : r = (n + 1, none, S)) (hE : Es[n]? = some E) : cP β h Es r (.inr E) h := by
  subst e; exact Or.inr ⟨E, Nat.succ_ne_zero n, hE, rfl, rfl⟩
section IX
variable {sc : List (Nat × Nat × (Nat → Int32))} {l : Launch} {d : Nat} {h : se_H} {o : Nat} {β : Nat → Nat} {S : st_S} {x : Int32}
theorem x_lt10 {n : Nat} {x : Int32} (hn : n < 2 ^ 31) (h1 : ¬ x < 0) (h2 : x < nI n) : ∃ j, st_x n x = some j ∧ j < n ∧ x = nI j := by
  rcases st_ix x hn with (q | q) | ⟨j, hj, rfl⟩
  · exact absurd q h1
  · exact absurd h2 (Int32.not_lt.mpr q)
  · exact ⟨j, st_x_some hn hj, hj, rfl⟩
theorem x_bad {n : Nat} {x : Int32} (h : x < 0 ∨ ¬ x < nI n) : st_x n x = none := st_x_none (h.imp id Int32.not_lt.mp)
theorem x_checkItem (hd : 6 ≤ d) : se_W (vG sc) l d mC_checkItem 0 (se_ent 1 [.int x]) [] h 1 6 (fun u h' => h' = h ∧ ((∃ j, st_x 10 x = some j ∧ j < 10 ∧ x = nI j ∧ u = .inl none) ∨ (st_x 10 x = none ∧ u = .inr "java/lang/IllegalArgumentException"))) :=
  se_mono (c_C_checkItem hd) (Nat.le_refl _) (Nat.le_refl _) (fun u h' q => ⟨q.1, q.2.elim (fun z => Or.inl (by obtain ⟨j, a, b, c⟩ := x_lt10 (n := 10) (by decide) z.2.1 z.2.2; exact ⟨j, a, b, c, z.1⟩)) (fun z => Or.inr ⟨x_bad (n := 10) z.2, z.1⟩)⟩)
theorem x_checkThing (hd : 6 ≤ d) : se_W (vG sc) l d mC_checkThing 0 (se_ent 1 [.int x]) [] h 1 6 (fun u h' => h' = h ∧ ((∃ j, st_x 10 x = some j ∧ j < 10 ∧ x = nI j ∧ u = .inl none) ∨ (st_x 10 x = none ∧ u = .inr "java/lang/IllegalArgumentException"))) :=
  se_mono (c_C_checkThing hd) (Nat.le_refl _) (Nat.le_refl _) (fun u h' q => ⟨q.1, q.2.elim (fun z => Or.inl (by obtain ⟨j, a, b, c⟩ := x_lt10 (n := 10) (by decide) z.2.1 z.2.2; exact ⟨j, a, b, c, z.1⟩)) (fun z => Or.inr ⟨x_bad (n := 10) z.2, z.1⟩)⟩)
theorem x_checkPerson (hd : 6 ≤ d) : se_W (vG sc) l d mC_checkPerson 0 (se_ent 1 [.int x]) [] h 1 6 (fun u h' => h' = h ∧ ((∃ j, st_x 40 x = some j ∧ j < 40 ∧ x = nI j ∧ u = .inl none) ∨ (st_x 40 x = none ∧ u = .inr "java/lang/IllegalArgumentException"))) :=
  se_mono (c_C_checkPerson hd) (Nat.le_refl _) (Nat.le_refl _) (fun u h' q => ⟨q.1, q.2.elim (fun z => Or.inl (by obtain ⟨j, a, b, c⟩ := x_lt10 (n := 40) (by decide) z.2.1 z.2.2; exact ⟨j, a, b, c, z.1⟩)) (fun z => Or.inr ⟨x_bad (n := 40) z.2, z.1⟩)⟩)
theorem x_knownKind (hd : 6 ≤ d) (hC : is_C o β S h) : se_W (vG sc) l d mC_knownKind 0 (se_ent 2 [.ref o, .int x]) [] h 1 6 (fun u h' => h' = h ∧ ((∃ j, st_x 5 x = some j ∧ j < 5 ∧ x = nI j ∧ u = .inl (some (.ref (st_K o j)))) ∨ (st_x 5 x = none ∧ u = .inr "java/lang/IllegalArgumentException"))) :=
  se_mono (c_C_knownKind hd hC) (Nat.le_refl _) (Nat.le_refl _) (fun u h' q => ⟨q.1, q.2.elim (fun z => Or.inl (by obtain ⟨j, a, b, c⟩ := z; exact ⟨j, by rw [b]; exact st_x_some (by decide) a, a, b, c⟩)) (fun z => Or.inr ⟨st_x_none z.2, z.1⟩)⟩)
theorem x_knownVehicle (hd : 6 ≤ d) (hC : is_C o β S h) (hI : st_I S) : se_W (vG sc) l d mC_knownVehicle 0 (se_ent 2 [.ref o, .int x]) [] h 1 6 (fun u h' => h' = h ∧ ((∃ j, st_x (st_nv S) x = some j ∧ j < st_nv S ∧ x = nI j ∧ u = .inl (some (.ref (β j)))) ∨ (st_x (st_nv S) x = none ∧ u = .inr "java/lang/IllegalArgumentException"))) :=
  se_mono (c_C_knownVehicle hd hC hI.2.1) (Nat.le_refl _) (Nat.le_refl _) (fun u h' q => ⟨q.1, q.2.elim (fun z => Or.inl (by obtain ⟨j, a, b, c⟩ := z; exact ⟨j, by rw [b]; exact st_x_some (by have := hI.2.1; omega) a, a, b, c⟩)) (fun z => Or.inr ⟨st_x_none z.2, z.1⟩)⟩)
theorem x_checkRange {a b : Int32} (hd : 6 ≤ d) : se_W (vG sc) l d mC_checkRange 0 (se_ent 3 [.int x, .int a, .int b]) [] h 1 6 (fun u h' => h' = h ∧ ((u = .inl none ∧ st_in a b x = true) ∨ (u = .inr "java/lang/IndexOutOfBoundsException" ∧ st_in a b x = false))) :=
  se_mono (c_C_checkRange hd) (Nat.le_refl _) (Nat.le_refl _) (fun u h' q => ⟨q.1, q.2.elim (fun z => Or.inl ⟨z.1, by simp only [st_in, Bool.and_eq_true, decide_eq_true_eq]; exact ⟨Int32.not_lt.mp z.2.1, z.2.2⟩⟩) (fun z => Or.inr ⟨z.1, by simp only [st_in, Bool.and_eq_false_iff, decide_eq_false_iff_not]; exact z.2.imp (fun q => Int32.not_le.mpr q) id⟩)⟩)
theorem x_checkRoom {y z : Int32} (hd : 6 ≤ d) : se_W (vG sc) l d mC_checkRoom 0 (se_ent 3 [.int x, .int y, .int z]) [] h 1 6 (fun u h' => h' = h ∧ ((u = .inl none ∧ st_rm x y z = true) ∨ (u = .inr "java/lang/UnsupportedOperationException" ∧ st_rm x y z = false))) :=
  se_mono (c_C_checkRoom hd) (Nat.le_refl _) (Nat.le_refl _) (fun u h' q => ⟨q.1, q.2.elim (fun z => Or.inl ⟨z.1, decide_eq_true z.2⟩) (fun z => Or.inr ⟨z.1, decide_eq_false z.2⟩)⟩)
theorem x_checkPlace (hd : 6 ≤ d) : se_W (vG sc) l d mC_checkPlace 0 (se_ent 1 [.int x]) [] h 1 6 (fun u h' => h' = h ∧ ((u = .inl none ∧ st_g0 x = true) ∨ (u = .inr "java/lang/IndexOutOfBoundsException" ∧ st_g0 x = false))) :=
  se_mono (c_C_checkPlace hd) (Nat.le_refl _) (Nat.le_refl _) (fun u h' q => ⟨q.1, q.2.elim (fun z => Or.inl ⟨z.1, decide_eq_true z.2⟩) (fun z => Or.inr ⟨z.1, decide_eq_false z.2⟩)⟩)
end IX
