/-! REASONS AS A LIST; what holds of every state that calls have made (n: how many calls at most) -/
def st_Q (n : Nat) (S : st_S) : Prop :=
  (∃ H, H ≤ 99999 ∧ S 26 0 0 = nI H) ∧
  (∀ k i, S 0 k i = 0 ∨ ∃ g, 1 ≤ g ∧ g ≤ 3 ∧ S 3 k i = nI g) ∧
  (∀ e, e < st_nd S → ∃ g, 1 ≤ g ∧ g ≤ 3 ∧ S 22 0 e = nI g) ∧
  (∀ e, ∃ p, p ≤ 9999 ∧ S 23 0 e = nI p) ∧
  (∀ v t, ∃ x, x ≤ 99 ∧ S 6 v t = nI x) ∧
  (∀ v, ∃ x, x ≤ 1000000000 ∧ S 18 v 0 = nI x) ∧
  (∀ v, ∃ x, x ≤ 1000000000 ∧ S 19 v 0 = nI x) ∧
  (∀ v, ∃ x, x ≤ 1000000 ∧ S 15 v 0 = nI x) ∧
  (∀ v i, ∃ U U', U' ≤ U ∧ U ≤ n ∧ S 17 v 0 = nI U ∧ S 10 v i = nI U') ∧
  (∀ v i, S 8 v i = -1 → S 7 v i = 0 ∧ S 9 v i = -1 ∧ S 10 v i = 0) ∧
  (∀ v, v < st_nv S → S 11 v 0 = nI (st_kd S v))
theorem q_kd {n : Nat} {S : st_S} (h : st_Q n S) {v : Nat} (hv : v < st_nv S) : S 11 v 0 = nI (st_kd S v) := h.2.2.2.2.2.2.2.2.2.2 v hv
theorem q_un {n : Nat} {S : st_S} (h : st_Q n S) (v i : Nat) (hu : S 8 v i = -1) : S 7 v i = 0 ∧ S 9 v i = -1 ∧ S 10 v i = 0 := h.2.2.2.2.2.2.2.2.2.1 v i hu
theorem q_us {n : Nat} {S : st_S} (h : st_Q n S) (hn : n < 2 ^ 31) (v i : Nat) : S 17 v 0 ≤ S 10 v i ↔ S 17 v 0 = S 10 v i := by
  obtain ⟨U, U', h1, h2, h3, h4⟩ := h.2.2.2.2.2.2.2.2.1 v i
  rw [h3, h4, nI_leI (by omega) (by omega), nI_eq (by omega) (by omega)]
  omega
theorem q_R {n : Nat} {S : st_S} (h : st_Q n S) : st_R S := fun v _ => by
  obtain ⟨F, f1, f2⟩ := h.2.2.2.2.2.1 v
  obtain ⟨K, k1, k2⟩ := h.2.2.2.2.2.2.2.1 v
  exact ⟨F, K, f1, k1, f2, k2⟩
def rs_n : List Int32 → Int32 → Int32
  | [], _ => -1
  | a :: L, b => if b = 0 then a else rs_n L (b + (-1))
def rs_f (S : st_S) (k v e : Nat) : Option Int32 := if st_fa S k v e then some (10000 * S 3 k e + nI e) else none
def rs_k (S : st_S) (k v e : Nat) : Option Int32 := if st_sk S k v e (S 26 0 0) then some (10000 * S 3 k e + 100 + nI e) else none
def rs_d (S : st_S) (v e : Nat) : Option Int32 := if st_od S v e then some (10000 * S 22 0 e + 1000 + nI e) else none
def rs_L (S : st_S) (k v : Nat) : List Int32 := (List.range' 0 10).filterMap (rs_f S k v) ++ ((List.range' 0 10).filterMap (rs_k S k v) ++ (List.range' 0 (st_nd S)).filterMap (rs_d S v))
theorem rs_F {S : st_S} {k v : Nat} {L : List Int32} : ∀ (n e : Nat) (b : Int32), st_rF S k v (rs_n L) n e b = rs_n ((List.range' e n).filterMap (rs_f S k v) ++ L) b := by
  intro n
  induction n with
  | zero => intro e b; rfl
  | succ n ih =>
    intro e b
    rw [st_rF, List.range'_succ, List.filterMap_cons]
    by_cases h : st_fa S k v e = true
    · simp only [rs_f, h, if_true, List.cons_append, rs_n, ih]
    · simp only [rs_f, h, ih]; rfl
theorem rs_K {S : st_S} {k v : Nat} {L : List Int32} : ∀ (n e : Nat) (b : Int32), st_rK S k v (rs_n L) n e b = rs_n ((List.range' e n).filterMap (rs_k S k v) ++ L) b := by
  intro n
  induction n with
  | zero => intro e b; rfl
  | succ n ih =>
    intro e b
    rw [st_rK, List.range'_succ, List.filterMap_cons]
    by_cases h : st_sk S k v e (S 26 0 0) = true
    · simp only [rs_k, h, if_true, List.cons_append, rs_n, ih]
    · simp only [rs_k, h, ih]; rfl
theorem rs_D {S : st_S} {v : Nat} : ∀ (n e : Nat) (b : Int32), st_dr S v n e b = rs_n ((List.range' e n).filterMap (rs_d S v)) b := by
  intro n
  induction n with
  | zero => intro e b; rfl
  | succ n ih =>
    intro e b
    rw [st_dr, List.range'_succ, List.filterMap_cons]
    by_cases h : st_od S v e = true
    · simp only [rs_d, h, if_true, rs_n, ih]
    · simp only [rs_d, h, ih]; rfl
theorem re_L {S : st_S} {k v : Nat} (b : Int32) : st_re S k v b = rs_n (rs_L S k v) b := by
  have e1 : (fun b => st_dr S v (st_nd S) 0 b) = rs_n ((List.range' 0 (st_nd S)).filterMap (rs_d S v)) := funext (fun b => rs_D _ _ b)
  have e2 : (fun b => st_rK S k v (fun b => st_dr S v (st_nd S) 0 b) 10 0 b) = rs_n ((List.range' 0 10).filterMap (rs_k S k v) ++ (List.range' 0 (st_nd S)).filterMap (rs_d S v)) := funext (fun b => by rw [e1, rs_K])
  rw [st_re, e2, rs_F]
  rfl
theorem rs_at {L2 : List Int32} : ∀ L1 : List Int32, L1.length < 2 ^ 31 → rs_n (L1 ++ L2) (nI L1.length) = rs_n L2 0 := by
  intro L1
  induction L1 with
  | nil => intro _; rfl
  | cons a L1 ih =>
    intro h
    have h1 : L1.length + 1 < 2 ^ 31 := h
    rw [List.cons_append, rs_n, List.length_cons, if_neg (nI_ne0 (by omega) h1), ← Int32.sub_eq_add_neg, nI_pred]
    exact ih (by omega)
def rs_ok (a : Int32) : Prop := ∃ g r, 1 ≤ g ∧ g ≤ 3 ∧ r < 10000 ∧ a = nI (10000 * g + r)
def rs_w (a : Int32) : Nat := a.toNatClampNeg / 10000 - 1
def rs_W (L : List Int32) : Nat := (L.map rs_w).sum
theorem rs_W_app (A B : List Int32) : rs_W (A ++ B) = rs_W A + rs_W B := by simp [rs_W]
theorem rs_we {g r : Nat} (h : g ≤ 3) (hr : r < 10000) : rs_w (nI (10000 * g + r)) = g - 1 := by
  rw [rs_w, nI_clamp (by omega)]; omega
theorem rs_nx {g e : Nat} : (10000 : Int32) * nI g + nI e = nI (10000 * g + e) := by
  rw [show (10000 : Int32) = nI 10000 from rfl, pk_mul, nI_add]
theorem rs_nx2 {g e c : Nat} : (10000 : Int32) * nI g + nI c + nI e = nI (10000 * g + (c + e)) := by
  rw [rs_nx, nI_add, Nat.add_assoc]
theorem rs_g1 {g : Nat} (h : 1 ≤ g) : nI g - 1 = nI (g - 1) := by
  obtain ⟨m, rfl⟩ : ∃ m, g = m + 1 := ⟨g - 1, by omega⟩
  exact nI_pred m
def rs_R (z : Bool) : List Int32 → Nat → Bool
  | [], s => z && decide (s < 2)
  | a :: L, s => if 30000 ≤ a then false else rs_R z L (if 20000 ≤ a then s + 1 else s)
theorem rs_RW {z : Bool} : ∀ (L : List Int32) (s : Nat), (∀ a ∈ L, rs_ok a) → rs_R z L s = (z && decide (s + rs_W L < 2)) := by
  intro L
  induction L with
  | nil => intro s _; simp [rs_R, rs_W]
  | cons a L ih =>
    intro s h
    obtain ⟨g, r, g1, g2, r1, e⟩ := h a (List.mem_cons_self ..)
    have hw : rs_W (a :: L) = g - 1 + rs_W L := by
      rw [show rs_W (a :: L) = rs_w a + rs_W L by simp [rs_W], e, rs_we g2 r1]
    have e3 : (30000 ≤ a) ↔ g = 3 := by rw [e, show (30000 : Int32) = nI 30000 from rfl, nI_leI (by decide) (by omega)]; omega
    have e2 : (20000 ≤ a) ↔ 2 ≤ g := by rw [e, show (20000 : Int32) = nI 20000 from rfl, nI_leI (by decide) (by omega)]; omega
    rw [rs_R, hw]
    by_cases q3 : g = 3
    · rw [if_pos (e3.mpr q3), decide_eq_false (by omega), Bool.and_false]
    · rw [if_neg (fun q => q3 (e3.mp q)), ih _ (fun b hb => h b (List.mem_cons_of_mem _ hb))]
      by_cases q2 : 2 ≤ g
      · rw [if_pos (e2.mpr q2), show s + 1 + rs_W L = s + (g - 1 + rs_W L) by omega]
      · rw [if_neg (fun q => q2 (e2.mp q)), show s + rs_W L = s + (g - 1 + rs_W L) by omega]
section MATH
variable {n : Nat} {S : st_S} {k v : Nat}
theorem fa_g (hQ : st_Q n S) {e : Nat} (h : st_fa S k v e = true) : ∃ g, 1 ≤ g ∧ g ≤ 3 ∧ S 3 k e = nI g := by
  rcases hQ.2.1 k e with q | q
  · simp [st_fa, q] at h
  · exact q
theorem sk_g (hQ : st_Q n S) {e : Nat} {x : Int32} (h : st_sk S k v e x = true) : ∃ g, 1 ≤ g ∧ g ≤ 3 ∧ S 3 k e = nI g := by
  rcases hQ.2.1 k e with q | q
  · simp [st_sk, q] at h
  · exact q
theorem rs_fe (hQ : st_Q n S) {e : Nat} (h : st_fa S k v e = true) : ∃ g, 1 ≤ g ∧ g ≤ 3 ∧ S 3 k e = nI g ∧ rs_f S k v e = some (nI (10000 * g + e)) := by
  obtain ⟨g, g1, g2, g3⟩ := fa_g hQ h
  exact ⟨g, g1, g2, g3, by rw [rs_f, if_pos h, g3, rs_nx]⟩
theorem rs_ke (hQ : st_Q n S) {e : Nat} (h : st_sk S k v e (S 26 0 0) = true) : ∃ g, 1 ≤ g ∧ g ≤ 3 ∧ S 3 k e = nI g ∧ rs_k S k v e = some (nI (10000 * g + (100 + e))) := by
  obtain ⟨g, g1, g2, g3⟩ := sk_g hQ h
  exact ⟨g, g1, g2, g3, by rw [rs_k, if_pos h, g3, show (100 : Int32) = nI 100 from rfl, rs_nx2]⟩
theorem rs_de (hQ : st_Q n S) {e : Nat} (he : e < st_nd S) (h : st_od S v e = true) : ∃ g, 1 ≤ g ∧ g ≤ 3 ∧ S 22 0 e = nI g ∧ rs_d S v e = some (nI (10000 * g + (1000 + e))) := by
  obtain ⟨g, g1, g2, g3⟩ := hQ.2.2.1 e he
  exact ⟨g, g1, g2, g3, by rw [rs_d, if_pos h, g3, show (1000 : Int32) = nI 1000 from rfl, rs_nx2]⟩
theorem rs_allok (hQ : st_Q n S) (hd : st_nd S ≤ 100) : ∀ a ∈ rs_L S k v, rs_ok a := by
  intro a ha
  rw [rs_L, List.mem_append, List.mem_append, List.mem_filterMap, List.mem_filterMap, List.mem_filterMap] at ha
  rcases ha with ⟨e, h1, h2⟩ | ⟨e, h1, h2⟩ | ⟨e, h1, h2⟩
  · rw [List.mem_range'_1] at h1
    by_cases h : st_fa S k v e = true
    · obtain ⟨g, g1, g2, g3, g4⟩ := rs_fe hQ h
      rw [g4] at h2
      exact ⟨g, e, g1, g2, by omega, (Option.some.inj h2).symm⟩
    · rw [rs_f, if_neg h] at h2; cases h2
  · rw [List.mem_range'_1] at h1
    by_cases h : st_sk S k v e (S 26 0 0) = true
    · obtain ⟨g, g1, g2, g3, g4⟩ := rs_ke hQ h
      rw [g4] at h2
      exact ⟨g, 100 + e, g1, g2, by omega, (Option.some.inj h2).symm⟩
    · rw [rs_k, if_neg h] at h2; cases h2
  · rw [List.mem_range'_1] at h1
    by_cases h : st_od S v e = true
    · obtain ⟨g, g1, g2, g3, g4⟩ := rs_de hQ (by omega) h
      rw [g4] at h2
      exact ⟨g, 1000 + e, g1, g2, by omega, (Option.some.inj h2).symm⟩
    · rw [rs_d, if_neg h] at h2; cases h2
theorem rs_r1 {f : Nat → Option Int32} (m : Nat) : (List.range' 0 (m + 1)).filterMap f = (List.range' 0 m).filterMap f ++ (match f m with | none => [] | some a => [a]) := by
  rw [List.range'_concat, List.filterMap_append, Nat.one_mul, Nat.zero_add]
  congr 1
  rw [List.filterMap_cons, List.filterMap_nil]
  cases f m <;> rfl
theorem rs_w1 (hQ : st_Q n S) : ∀ m, m ≤ 10 → st_w1 S k v (S 26 0 0) m = nI (rs_W ((List.range' 0 m).filterMap (rs_f S k v)) + rs_W ((List.range' 0 m).filterMap (rs_k S k v))) := by
  intro m
  induction m with
  | zero => intro _; rfl
  | succ m ih =>
    intro hm
    rw [st_w1, rs_r1, rs_r1, rs_W_app, rs_W_app, ih (by omega)]
    by_cases h1 : st_fa S k v m = true
    · obtain ⟨g, g1, g2, g3, g4⟩ := rs_fe hQ h1
      have w1 : rs_W [nI (10000 * g + m)] = g - 1 := by rw [show rs_W [nI (10000 * g + m)] = rs_w (nI (10000 * g + m)) by simp [rs_W], rs_we g2 (by omega)]
      by_cases h2 : st_sk S k v m (S 26 0 0) = true
      · obtain ⟨g', g1', g2', g3', g4'⟩ := rs_ke hQ h2
        have w2 : rs_W [nI (10000 * g' + (100 + m))] = g' - 1 := by rw [show rs_W [nI (10000 * g' + (100 + m))] = rs_w (nI (10000 * g' + (100 + m))) by simp [rs_W], rs_we g2' (by omega)]
        have eg : g = g' := (nI_eq (by omega) (by omega)).mp (g3.symm.trans g3')
        subst eg
        rw [if_pos h2, if_pos h1, g3, rs_g1 g1, nI_add, nI_add, g4, g4']
        simp only [w1, w2]
        congr 1; omega
      · rw [if_neg h2, if_pos h1, g3, rs_g1 g1, nI_add, g4, show rs_k S k v m = none by rw [rs_k, if_neg h2]]
        simp only [w1, show rs_W [] = 0 from rfl]
        congr 1; omega
    · by_cases h2 : st_sk S k v m (S 26 0 0) = true
      · obtain ⟨g', g1', g2', g3', g4'⟩ := rs_ke hQ h2
        have w2 : rs_W [nI (10000 * g' + (100 + m))] = g' - 1 := by rw [show rs_W [nI (10000 * g' + (100 + m))] = rs_w (nI (10000 * g' + (100 + m))) by simp [rs_W], rs_we g2' (by omega)]
        rw [if_pos h2, if_neg h1, g3', rs_g1 g1', nI_add, g4', show rs_f S k v m = none by rw [rs_f, if_neg h1]]
        simp only [w2, show rs_W [] = 0 from rfl]
        congr 1; omega
      · rw [if_neg h2, if_neg h1, show rs_f S k v m = none by rw [rs_f, if_neg h1], show rs_k S k v m = none by rw [rs_k, if_neg h2]]
        rfl
theorem rs_w2 (hQ : st_Q n S) (hd : st_nd S ≤ 100) : ∀ m, m ≤ st_nd S → st_w2 S v m = nI (rs_W ((List.range' 0 m).filterMap (rs_d S v))) := by
  intro m
  induction m with
  | zero => intro _; rfl
  | succ m ih =>
    intro hm
    rw [st_w2, rs_r1, rs_W_app, ih (by omega)]
    by_cases h1 : st_od S v m = true
    · obtain ⟨g, g1, g2, g3, g4⟩ := rs_de hQ (by omega) h1
      have w1 : rs_W [nI (10000 * g + (1000 + m))] = g - 1 := by rw [show rs_W [nI (10000 * g + (1000 + m))] = rs_w (nI (10000 * g + (1000 + m))) by simp [rs_W], rs_we g2 (by omega)]
      rw [if_pos h1, g3, rs_g1 g1, nI_add, g4]
      simp only [w1]
    · rw [if_neg h1, show rs_d S v m = none by rw [rs_d, if_neg h1]]
      rfl
theorem rs_Wle : ∀ L : List Int32, (∀ a ∈ L, rs_ok a) → rs_W L ≤ 2 * L.length := by
  intro L
  induction L with
  | nil => intro _; exact Nat.le_refl _
  | cons a L ih =>
    intro h
    obtain ⟨g, r, g1, g2, r1, e⟩ := h a (List.mem_cons_self ..)
    have hw : rs_W (a :: L) = g - 1 + rs_W L := by
      rw [show rs_W (a :: L) = rs_w a + rs_W L by simp [rs_W], e, rs_we g2 r1]
    have := ih (fun b hb => h b (List.mem_cons_of_mem _ hb))
    rw [hw, List.length_cons]; omega
theorem rs_len (hd : st_nd S ≤ 100) : (rs_L S k v).length ≤ 120 := by
  rw [rs_L, List.length_append, List.length_append]
  have h1 := List.length_filterMap_le (rs_f S k v) (List.range' 0 10)
  have h2 := List.length_filterMap_le (rs_k S k v) (List.range' 0 10)
  have h3 := List.length_filterMap_le (rs_d S v) (List.range' 0 (st_nd S))
  rw [List.length_range'] at h1 h2 h3
  omega
/-- the class's sum and the reference's count say the same -/
theorem ru_R (hQ : st_Q n S) (hd : st_nd S ≤ 100) : st_ru S k v = rs_R (decide (S 14 v 0 = 0)) (rs_L S k v) 0 := by
  have hok := rs_allok (k := k) (v := v) hQ hd
  have hle := rs_Wle _ hok
  have hl := rs_len (S := S) (k := k) (v := v) hd
  rw [rs_RW _ _ hok, st_ru, rs_w1 hQ 10 (Nat.le_refl _), rs_w2 hQ hd _ (Nat.le_refl _), nI_add]
  have e : rs_W ((List.range' 0 10).filterMap (rs_f S k v)) + rs_W ((List.range' 0 10).filterMap (rs_k S k v)) + rs_W ((List.range' 0 (st_nd S)).filterMap (rs_d S v)) = rs_W (rs_L S k v) := by
    rw [rs_L, rs_W_app, rs_W_app, Nat.add_assoc]
  rw [e, Nat.zero_add]
  congr 1
  rw [decide_eq_decide, show (2 : Int32) = nI 2 from rfl, nI_ltI (by omega) (by decide)]
end MATH
