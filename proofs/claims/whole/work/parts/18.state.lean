/-! THE STATE, one for the class and the reference: S tag a b.
0 listed, 1 low, 2 high, 3 grade, 4 every, 5 needed (kind, item or thing); 6 things, 7 value, 8 hour, 9 person, 10 uses then (vehicle, thing or item); 11 kind, 12 spare, 13 told, 14 off, 15 kilometres, 16 lower told, 17 uses, 18 fuel, 19 costs, 20 key (vehicle, 0); 21 damage's vehicle, 22 its grade, 23 its proof (0, damage); 24 vehicles, 25 damages, 26 the hour (0, 0) -/
abbrev st_S : Type := Nat → Nat → Nat → Int32
def st_up (S : st_S) (t a b : Nat) (x : Int32) : st_S := fun t' a' b' => if t' = t ∧ a' = a ∧ b' = b then x else S t' a' b'
def st_nv (S : st_S) : Nat := (S 24 0 0).toNatClampNeg
def st_nd (S : st_S) : Nat := (S 25 0 0).toNatClampNeg
def st_kd (S : st_S) (v : Nat) : Nat := (S 11 v 0).toNatClampNeg
def st_b (b : Bool) : Int32 := if b then 1 else 0
theorem st_b01 (b : Bool) : st_b b = 0 ∨ st_b b = 1 := by cases b <;> simp [st_b]
/-- where the class's things lie: the object at o, the kinds from o + 2 on, each with its six arrays; a vehicle with its five arrays -/
def st_K (o k : Nat) : Nat := o + 2 + 7 * k
def is_K (h : se_H) (a : Nat) (S : st_S) (k : Nat) : Prop :=
  h[a]? = some (.inr (0, [.ref (a + 1), .ref (a + 2), .ref (a + 3), .ref (a + 4), .ref (a + 5), .ref (a + 6)])) ∧ h[a + 1]? = some (.inl (.boolean, (10, .inl (S 0 k)))) ∧ h[a + 2]? = some (.inl (.int, (10, .inl (S 1 k)))) ∧ h[a + 3]? = some (.inl (.int, (10, .inl (S 2 k)))) ∧ h[a + 4]? = some (.inl (.int, (10, .inl (S 3 k)))) ∧ h[a + 5]? = some (.inl (.int, (10, .inl (S 4 k)))) ∧ h[a + 6]? = some (.inl (.int, (10, .inl (S 5 k))))
def is_V (h : se_H) (a ka : Nat) (S : st_S) (v : Nat) : Prop :=
  h[a]? = some (.inr (1, [.int (nI v), .ref ka, .int (S 12 v 0), .int (S 13 v 0), .ref (a + 1), .ref (a + 2), .ref (a + 3), .ref (a + 4), .ref (a + 5), .int (S 14 v 0), .int (S 15 v 0), .int (S 16 v 0), .int (S 17 v 0), .int (S 18 v 0), .int (S 19 v 0), .int (S 20 v 0)])) ∧ h[a + 1]? = some (.inl (.int, (10, .inl (S 6 v)))) ∧ h[a + 2]? = some (.inl (.int, (10, .inl (S 7 v)))) ∧ h[a + 3]? = some (.inl (.int, (10, .inl (S 8 v)))) ∧ h[a + 4]? = some (.inl (.int, (10, .inl (S 9 v)))) ∧ h[a + 5]? = some (.inl (.int, (10, .inl (S 10 v))))
/-- the class's object -/
def is_C (o : Nat) (β : Nat → Nat) (S : st_S) (h : se_H) : Prop :=
  h[o]? = some (.inr (2, [.ref (o + 1), .ref (o + 37), .ref (o + 38), .ref (o + 39), .ref (o + 40), .int (S 24 0 0), .int (S 25 0 0), .int (S 26 0 0)])) ∧
  h[o + 1]? = some (.inl (.object "VehicleChecks$Kind", (5, .inr (.inr (.inr (.inr (fun k => if k < 5 then some (st_K o k) else none))))))) ∧
  h[o + 37]? = some (.inl (.object "VehicleChecks$Vehicle", (20, .inr (.inr (.inr (.inr (fun v => if v < st_nv S then some (β v) else none))))))) ∧
  h[o + 38]? = some (.inl (.int, (100, .inl (S 21 0)))) ∧ h[o + 39]? = some (.inl (.int, (100, .inl (S 22 0)))) ∧ h[o + 40]? = some (.inl (.int, (100, .inl (S 23 0)))) ∧
  (∀ k, k < 5 → is_K h (st_K o k) S k) ∧ (∀ v, v < st_nv S → is_V h (β v) (st_K o (st_kd S v)) S v) ∧
  (∀ v, v < st_nv S → o + 41 ≤ β v) ∧ ∀ v w, v < w → w < st_nv S → β v + 6 ≤ β w
/-- what is told of an item -/
def st_wi (S : st_S) (k j : Nat) (x : Int32) : Bool := decide (S 1 k j ≤ x) && decide (x ≤ S 2 k j)
def st_fa (S : st_S) (k v j : Nat) : Bool := !decide (S 0 k j = 0) && (!decide (S 8 v j = -1) && !st_wi S k j (S 7 v j))
def st_sk (S : st_S) (k v j : Nat) (hr : Int32) : Bool := !decide (S 0 k j = 0) && (if S 4 k j = 0 then !decide (S 17 v 0 = S 10 v j) else decide (S 4 k j ≤ hr - (if S 8 v j = -1 then S 13 v 0 else S 8 v j)))
theorem st_eq {h : se_H} {a : Nat} {x e : se_E} (ha : h[a]? = some e) : (h.set a x)[a]? = some x := by
  rw [List.getElem?_set, if_pos rfl, if_pos (List.getElem?_eq_some_iff.mp ha).1]
theorem st_ne {h : se_H} {a b : Nat} {x e : se_E} (hb : h[b]? = some e) (hn : a ≠ b) : (h.set a x)[b]? = some e := by
  rw [List.getElem?_set, if_neg hn]; exact hb
/-- an int as an index: too small, too large, or a natural number below n -/
theorem st_ix (x : Int32) {n : Nat} (hn : n < 2 ^ 31) : (x < 0 ∨ nI n ≤ x) ∨ ∃ j, j < n ∧ x = nI j := by
  rcases pk_ix x hn with h | h | h
  · exact Or.inl (Or.inl h)
  · exact Or.inl (Or.inr h)
  · exact Or.inr h
theorem st_b0 (b : Bool) : st_b b = 0 ↔ b = false := by cases b <;> simp [st_b]
/-- one reason's weight -/
def st_w1 (S : st_S) (k v : Nat) (hr : Int32) : Nat → Int32
  | 0 => 0
  | n + 1 => (if st_sk S k v n hr then (if st_fa S k v n then st_w1 S k v hr n + (S 3 k n - 1) else st_w1 S k v hr n) + (S 3 k n - 1) else (if st_fa S k v n then st_w1 S k v hr n + (S 3 k n - 1) else st_w1 S k v hr n))
/-- an open damage of a vehicle -/
def st_od (S : st_S) (v d : Nat) : Bool := decide (S 21 0 d = nI v) && decide (S 23 0 d = 0)
def st_w2 (S : st_S) (v : Nat) : Nat → Int32
  | 0 => 0
  | n + 1 => if st_od S v n then st_w2 S v n + (S 22 0 n - 1) else st_w2 S v n
def st_n2 (S : st_S) (v : Nat) : Nat → Int32
  | 0 => 0
  | n + 1 => if st_od S v n then st_n2 S v n + 1 else st_n2 S v n
/-- whether a vehicle runs, as the class reckons it -/
def st_ru (S : st_S) (k v : Nat) : Bool := decide (S 14 v 0 = 0) && decide (st_w1 S k v (S 26 0 0) 10 + st_w2 S v (st_nd S) < 2)
/-- the b-th reason among the damages from e on, n of them -/
def st_dr (S : st_S) (v : Nat) : Nat → Nat → Int32 → Int32
  | 0, _, _ => -1
  | n + 1, e, b => if st_od S v e then (if b = 0 then 10000 * S 22 0 e + 1000 + nI e else st_dr S v n (e + 1) (b + (-1))) else st_dr S v n (e + 1) b
/-- the first thing that a vehicle lacks, of n from t on -/
def st_ll (S : st_S) (k v : Nat) : Nat → Nat → Int32
  | 0, _ => -1
  | n + 1, t => if S 6 v t < S 5 k t then nI t else st_ll S k v n (t + 1)
