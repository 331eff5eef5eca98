/-! the greatest common divisor -/
def st_gc : Nat → Nat → Nat → Nat
  | 0, x, _ => x
  | n + 1, x, y => if y = 0 then x else st_gc n y (x % y)
theorem st_lc0 {y : Nat} (hy : y < 2 ^ 62) : lg_cmp (lN y) 0 = 0 ↔ y = 0 := by
  have e : (0 : Int64) = lN 0 := rfl
  rw [e]
  by_cases h : y = 0
  · subst h; simp [lg_cmp]
  · have h1 : lN 0 < lN y := (pk_lLT (by omega) (by omega)).mpr (by omega)
    simp [lg_cmp, h1, h]
section GCD
variable {sc : List (Nat × Nat × (Nat → Int32))} {l : Launch} {d : Nat} {h : se_H}
set_option maxHeartbeats 1000000 in
set_option maxRecDepth 100000 in
theorem lp_C_commonDivisor {A B : Int64} (hd : 1 ≤ d) : ∀ (n i x y : Nat) (z1 z2 : Option Value), i + n = 200 → x < 2 ^ 62 → y < 2 ^ 62 → se_W (vG sc) l d mC_commonDivisor 9 [some (.long A), none, some (.long B), none, some (.long (lN x)), none, some (.long (lN y)), none, some (.int (nI i)), z1, z2] [] h 0 0 (fun o h' => h' = h ∧ o = .inl (some (.long (if lN (st_gc n x y) < 1 then 1 else lN (st_gc n x y))))) := by
  intro n
  induction n with
  | zero =>
    intro i x y z1 z2 hi hx hy
    obtain rfl : i = 200 := by omega
    refine se_iload (pc := 9) rfl dC_commonDivisor_9 ?_
    refine se_sipush (pc := 11) 200 (by decide) dC_commonDivisor_11 ?_
    refine se_icmp_ge (pc := 14) (tgt := 45) dC_commonDivisor_14 (by decide) (fun q1 => ?_) (fun q1 => absurd q1 (fun z => z (Int32.le_refl _)))
    refine se_lconst (pc := 45) 1 (by decide) dC_commonDivisor_45 ?_
    refine se_lload (pc := 46) rfl dC_commonDivisor_46 ?_
    refine se_maxL (pc := 48) (by omega) dC_commonDivisor_48 ⟨wd_503, wd_504, wd_12, wd_505⟩ (Nat.le_of_ble_eq_true rfl) ?_
    exact se_lret (pc := 51) dC_commonDivisor_51 rfl ⟨rfl, rfl⟩
  | succ n ih =>
    intro i x y z1 z2 hi hx hy
    by_cases h0 : y = 0
    · refine se_iload (pc := 9) rfl dC_commonDivisor_9 ?_
      refine se_sipush (pc := 11) 200 (by decide) dC_commonDivisor_11 ?_
      refine se_icmp_ge (pc := 14) (tgt := 45) dC_commonDivisor_14 (by decide) (fun q1 => absurd q1 (nI_ge (b := 200) (by omega) (by decide))) (fun q1 => ?_)
      refine se_lload (pc := 17) rfl dC_commonDivisor_17 ?_
      refine se_lconst (pc := 19) 0 (by decide) dC_commonDivisor_19 ?_
      refine se_lcmp (pc := 20) dC_commonDivisor_20 ?_
      refine se_if_eq (pc := 21) (tgt := 45) dC_commonDivisor_21 (by decide) (fun q2 => ?_) (fun q2 => absurd q2 (fun z => z ((st_lc0 hy).mpr h0)))
      refine se_lconst (pc := 45) 1 (by decide) dC_commonDivisor_45 ?_
      refine se_lload (pc := 46) rfl dC_commonDivisor_46 ?_
      refine se_maxL (pc := 48) (by omega) dC_commonDivisor_48 ⟨wd_503, wd_504, wd_12, wd_505⟩ (Nat.le_of_ble_eq_true rfl) ?_
      exact se_lret (pc := 51) dC_commonDivisor_51 rfl ⟨rfl, by rw [st_gc, if_pos h0]⟩
    · refine se_iload (pc := 9) rfl dC_commonDivisor_9 ?_
      refine se_sipush (pc := 11) 200 (by decide) dC_commonDivisor_11 ?_
      refine se_icmp_ge (pc := 14) (tgt := 45) dC_commonDivisor_14 (by decide) (fun q1 => absurd q1 (nI_ge (b := 200) (by omega) (by decide))) (fun q1 => ?_)
      refine se_lload (pc := 17) rfl dC_commonDivisor_17 ?_
      refine se_lconst (pc := 19) 0 (by decide) dC_commonDivisor_19 ?_
      refine se_lcmp (pc := 20) dC_commonDivisor_20 ?_
      refine se_if_eq (pc := 21) (tgt := 45) dC_commonDivisor_21 (by decide) (fun q2 => absurd q2 (fun z => h0 ((st_lc0 hy).mp z))) (fun q2 => ?_)
      refine se_lload (pc := 24) rfl dC_commonDivisor_24 ?_
      refine se_lload (pc := 26) rfl dC_commonDivisor_26 ?_
      refine se_lrem (pc := 28) (fun z => h0 ((pk_lEQ (b := 0) (by omega) (by decide)).mp z)) dC_commonDivisor_28 ?_
      rw [pk_lRem (by omega) (by omega) (by omega)]
      refine se_lstore (pc := 29) dC_commonDivisor_29 (by decide) [some (.long A), none, some (.long B), none, some (.long (lN x)), none, some (.long (lN y)), none, some (.int (nI i)), some (.long (lN (x % y))), none] rfl ?_
      refine se_lload (pc := 31) rfl dC_commonDivisor_31 ?_
      refine se_lstore (pc := 33) dC_commonDivisor_33 (by decide) [some (.long A), none, some (.long B), none, some (.long (lN y)), none, some (.long (lN y)), none, some (.int (nI i)), some (.long (lN (x % y))), none] rfl ?_
      refine se_lload (pc := 35) rfl dC_commonDivisor_35 ?_
      refine se_lstore (pc := 37) dC_commonDivisor_37 (by decide) [some (.long A), none, some (.long B), none, some (.long (lN y)), none, some (.long (lN (x % y))), none, some (.int (nI i)), some (.long (lN (x % y))), none] rfl ?_
      refine se_iinc (pc := 39) 1 (by decide) rfl dC_commonDivisor_39 [some (.long A), none, some (.long B), none, some (.long (lN y)), none, some (.long (lN (x % y))), none, some (.int (nI (i + 1))), some (.long (lN (x % y))), none] (by rw [nI_1]; rfl) ?_
      refine se_goto (pc := 42) (tgt := 9) dC_commonDivisor_42 (by decide) ?_
      rw [show st_gc (n + 1) x y = st_gc n y (x % y) by rw [st_gc, if_neg h0]]
      exact ih (i + 1) y (x % y) _ _ (by omega) hy (Nat.lt_of_lt_of_le (Nat.mod_lt _ (by omega)) (by omega))
set_option maxHeartbeats 1000000 in
set_option maxRecDepth 100000 in
theorem c_C_commonDivisor {x y : Nat} (hd : 1 ≤ d) (hx : x < 2 ^ 62) (hy : y < 2 ^ 62) : se_W (vG sc) l d mC_commonDivisor 0 (se_ent 11 [.long (lN x), .long (lN y)]) [] h 0 0 (fun o h' => h' = h ∧ o = .inl (some (.long (if lN (st_gc 200 x y) < 1 then 1 else lN (st_gc 200 x y))))) := by
  show se_W (vG sc) l d mC_commonDivisor 0 [some (.long (lN x)), none, some (.long (lN y)), none, none, none, none, none, none, none, none] [] h 0 0 _
  refine se_lload_n (pc := 0) rfl dC_commonDivisor_0 ?_
  refine se_lstore (pc := 1) dC_commonDivisor_1 (by decide) [some (.long (lN x)), none, some (.long (lN y)), none, some (.long (lN x)), none, none, none, none, none, none] rfl ?_
  refine se_lload_n (pc := 3) rfl dC_commonDivisor_3 ?_
  refine se_lstore (pc := 4) dC_commonDivisor_4 (by decide) [some (.long (lN x)), none, some (.long (lN y)), none, some (.long (lN x)), none, some (.long (lN y)), none, none, none, none] rfl ?_
  refine se_iconst (pc := 6) 0 (by decide) dC_commonDivisor_6 ?_
  refine se_istore (pc := 7) dC_commonDivisor_7 (by decide) [some (.long (lN x)), none, some (.long (lN y)), none, some (.long (lN x)), none, some (.long (lN y)), none, some (.int 0), none, none] rfl ?_
  exact lp_C_commonDivisor hd 200 0 x y _ _ rfl hx hy
end GCD
theorem st_gcd : ∀ (k n x y : Nat), y < 2 ^ k → 2 * k + 1 ≤ n → st_gc n x y = Nat.gcd x y := by
  intro k
  induction k with
  | zero =>
    intro n x y hy hn
    obtain ⟨m, rfl⟩ : ∃ m, n = m + 1 := ⟨n - 1, by omega⟩
    have h0 : y = 0 := by omega
    subst h0
    simp [st_gc]
  | succ k ih =>
    intro n x y hy hn
    obtain ⟨m, rfl⟩ : ∃ m, n = m + 2 := ⟨n - 2, by omega⟩
    by_cases h0 : y = 0
    · subst h0; simp [st_gc]
    · rw [st_gc, if_neg h0]
      by_cases h1 : x % y = 0
      · rw [st_gc, if_pos h1, Nat.gcd_comm x y, Nat.gcd_rec y x, h1]
        simp
      · have h2 : x % y < y := Nat.mod_lt _ (by omega)
        have h3 : y % (x % y) < 2 ^ k := by
          have h4 : y % (x % y) < x % y := Nat.mod_lt _ (by omega)
          have h5 : y % (x % y) + (x % y) ≤ y := by
            have h6 := Nat.mod_add_div y (x % y)
            have h7 : 1 ≤ y / (x % y) := Nat.div_pos (Nat.le_of_lt h2) (by omega)
            have h8 : (x % y) * 1 ≤ (x % y) * (y / (x % y)) := Nat.mul_le_mul_left _ h7
            omega
          have h9 : 2 ^ (k + 1) = 2 * 2 ^ k := by rw [Nat.pow_succ]; omega
          omega
        rw [st_gc, if_neg h1, ih m _ _ h3 (by omega), Nat.gcd_comm (x % y), ← Nat.gcd_rec, ← Nat.gcd_rec, Nat.gcd_comm]
