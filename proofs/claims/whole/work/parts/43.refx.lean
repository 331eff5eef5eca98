/-! the reference's calls: changes of its arrays, its checks, its ends -/
theorem rf_R {H : se_H} {q n : Nat} {ty : FieldType} {a b : Nat → Int32} (f : H[q]? = some (.inl (ty, (n, .inl a)))) (e : b = a) : H[q]? = some (.inl (ty, (n, .inl b))) := e ▸ f
theorem rf_O {H : se_H} {t a b c a' b' c' : Int32} (f : H[41]? = some (.inr (3, [.int t, .int a, .ref 42, .ref 43, .ref 44, .ref 45, .ref 46, .ref 47, .int b, .ref 48, .ref 49, .ref 50, .ref 51, .ref 52, .ref 53, .ref 54, .ref 55, .ref 56, .ref 57, .ref 58, .ref 59, .ref 60, .ref 61, .ref 62, .ref 63, .int c, .ref 64, .ref 65, .ref 66]))) (e1 : a' = a) (e2 : b' = b) (e3 : c' = c) : H[41]? = some (.inr (3, [.int t, .int a', .ref 42, .ref 43, .ref 44, .ref 45, .ref 46, .ref 47, .int b', .ref 48, .ref 49, .ref 50, .ref 51, .ref 52, .ref 53, .ref 54, .ref 55, .ref 56, .ref 57, .ref 58, .ref 59, .ref 60, .ref 61, .ref 62, .ref 63, .int c', .ref 64, .ref 65, .ref 66])) := by subst e1 e2 e3; exact f
section REFX
variable {S : st_S} {t t' a b : Nat} {x : Int32}
theorem rf_l_ne (h : t' ≠ t) : rf_l (st_up S t a b x) t' = rf_l S t' := by funext j; simp only [rf_l, up_ne h]
theorem rf_v_ne (h : t' ≠ t) : rf_v (st_up S t a b x) t' = rf_v S t' := by funext j; simp only [rf_v, up_ne h]
theorem an_ne (h : 8 ≠ t) (v i : Nat) : st_an (st_up S t a b x) v i = st_an S v i := by simp only [st_an, up_ne h]
theorem rf_an_ne (h : 8 ≠ t) : rf_an (st_up S t a b x) = rf_an S := by funext j; simp only [rf_an, an_ne h]
theorem rf_at_ne (h : 8 ≠ t) : rf_at (st_up S t a b x) = rf_at S := by funext j; simp only [rf_at, an_ne h, up_ne h]
theorem rf_by_ne (h : 8 ≠ t) (h' : 9 ≠ t) : rf_by (st_up S t a b x) = rf_by S := by funext j; simp only [rf_by, an_ne h, up_ne h']
theorem rf_ky_ne (h : 20 ≠ t) (h' : 24 ≠ t) : rf_ky (st_up S t a b x) = rf_ky S := by funext j; simp only [rf_ky, up_ne h, nv_up h']
theorem rf_ix {j : Nat} (hb : b < 10) : (j / 10 = a ∧ j % 10 = b) ↔ j = 10 * a + b := by omega
theorem rf_l_up (hb : b < 10) : rf_l (st_up S t a b x) t = upd (rf_l S t) (10 * a + b) x := by
  funext j
  simp only [rf_l, st_up, upd, true_and, rf_ix hb]
theorem rf_v_up : rf_v (st_up S t a 0 x) t = upd (rf_v S t) a x := by
  funext j
  simp only [rf_v, st_up, upd, true_and, and_true]
theorem rf_ky_up (h : a < st_nv S) : rf_ky (st_up S 20 a 0 x) = upd (rf_ky S) a x := by
  funext j
  simp only [rf_ky, nv_up (show 24 ≠ 20 by decide), st_up, upd, true_and, and_true]
  by_cases h1 : j = a
  · subst h1; simp [h]
  · simp [h1]
theorem an_up (hx : ¬ x = -1) (v i : Nat) : st_an (st_up S 8 a b x) v i = if v = a ∧ i = b then true else st_an S v i := by
  simp only [st_an, st_up, true_and]
  by_cases h : v = a ∧ i = b
  · simp [h, hx]
  · simp [h]
theorem rf_an_up (hb : b < 10) (hx : ¬ x = -1) : rf_an (st_up S 8 a b x) = upd (rf_an S) (10 * a + b) 1 := by
  funext j
  simp only [rf_an, an_up hx, upd, rf_ix hb]
  by_cases h : j = 10 * a + b
  · simp [h, st_b]
  · simp [h]
theorem rf_at_up (hb : b < 10) (hx : ¬ x = -1) : rf_at (st_up S 8 a b x) = upd (rf_at S) (10 * a + b) x := by
  funext j
  simp only [rf_at, an_up hx, st_up, upd, true_and, rf_ix hb]
  by_cases h : j = 10 * a + b
  · simp [h]
  · simp [h]
theorem rf_by_up {p : Int32} (hb : b < 10) (hx : ¬ x = -1) : rf_by (st_up (st_up S 8 a b x) 9 a b p) = upd (rf_by S) (10 * a + b) p := by
  funext j
  simp only [rf_by, an_ne (show 8 ≠ 9 by decide), an_up hx, up_ne (show (9 : Nat) ≠ 8 by decide), st_up, upd, true_and, rf_ix hb]
  by_cases h : j = 10 * a + b
  · simp [h]
  · simp [h]
end REFX
/-- room, said in two ways -/
theorem rm_iff {X m M : Nat} (h1 : X ≤ M) (h2 : M < 2 ^ 30) (h3 : m < 2 ^ 30) : (nI M < nI X + nI m) ↔ ¬ nI m ≤ nI M - nI X := by
  have e : nI M - nI X = nI (M - X) := by rw [Int32.sub_eq_iff_eq_add, nI_add, Nat.sub_add_cancel h1]
  rw [e, nI_add, nI_ltI (by omega) (by omega), nI_leI (by omega) (by omega)]; omega
theorem st_in_nat {A B : Nat} {x : Int32} (hB : B < 2 ^ 31) (hA : A ≤ B) (h : st_in (nI A) (nI B) x = true) : ∃ m, A ≤ m ∧ m ≤ B ∧ x = nI m := by
  simp only [st_in, Bool.and_eq_true, decide_eq_true_eq] at h
  obtain ⟨j, hj, rfl⟩ := nI_of (x := x) (fun q => Int32.not_lt.mpr (Int32.le_trans (nI_pos' (by omega)) h.1) q)
  rw [nI_leI (by omega) hj, nI_leI hj hB] at h
  exact ⟨j, h.1, h.2, rfl⟩
theorem x_in {n : Nat} (hn : n ≤ 1000) (x : Int32) : st_in 0 (nI n - 1) x = true ↔ ∃ j, j < n ∧ x = nI j := by
  constructor
  · intro h
    simp only [st_in, Bool.and_eq_true, decide_eq_true_eq] at h
    obtain ⟨j, hj, rfl⟩ := nI_of (x := x) (Int32.not_lt.mpr h.1)
    refine ⟨j, ?_, rfl⟩
    rcases Nat.eq_zero_or_pos n with h0 | h0
    · subst h0
      have h2 := h.2
      rw [show nI 0 - 1 = -1 from rfl, Int32.le_iff_toInt_le, nI_toInt hj] at h2
      have h3 : ((-1 : Int32).toInt) = -1 := rfl
      omega
    · obtain ⟨m, rfl⟩ : ∃ m, n = m + 1 := ⟨n - 1, by omega⟩
      have h2 := h.2
      rw [nI_pred, nI_leI hj (by omega)] at h2
      omega
  · rintro ⟨j, hj, rfl⟩
    obtain ⟨m, rfl⟩ : ∃ m, n = m + 1 := ⟨n - 1, by omega⟩
    simp only [st_in, Bool.and_eq_true, decide_eq_true_eq]
    exact ⟨nI_pos' (by omega), by rw [nI_pred]; exact nI_le (by omega) (by omega)⟩
theorem x_inx {n : Nat} (hn : n ≤ 1000) {x : Int32} {u : se_O} (h : u = .inl (some (.int (st_b (st_in 0 (nI n - 1) x))))) : (∃ j, st_x n x = some j ∧ j < n ∧ x = nI j ∧ u = .inl (some (.int 1))) ∨ (st_x n x = none ∧ u = .inl (some (.int 0))) := by
  by_cases q : st_in 0 (nI n - 1) x = true
  · obtain ⟨j, hj, rfl⟩ := (x_in hn x).mp q
    rw [q] at h
    exact Or.inl ⟨j, st_x_some (by omega) hj, hj, rfl, h⟩
  · rw [Bool.not_eq_true] at q
    rw [q] at h
    refine Or.inr ⟨?_, h⟩
    rcases st_ix x (n := n) (by omega) with q2 | ⟨j, hj, rfl⟩
    · exact st_x_none q2
    · rw [(x_in hn _).mpr ⟨j, hj, rfl⟩] at q; cases q
def rPv (h : se_H) (r : Nat × Option Value × st_S) : se_O → se_H → Prop := fun u h' => u = .inl none ∧ is_R r.2.2 (nI r.1) h' ∧ st_fR h h'
def rPi (h : se_H) (r : Nat × Option Value × st_S) : se_O → se_H → Prop := fun u h' => (∃ x, u = .inl (some (.int x)) ∧ (r.1 = 0 → r.2.1 = some (.int x))) ∧ is_R r.2.2 (nI r.1) h' ∧ st_fR h h'
def rPl (h : se_H) (r : Nat × Option Value × st_S) : se_O → se_H → Prop := fun u h' => (∃ x, u = .inl (some (.long x)) ∧ (r.1 = 0 → r.2.1 = some (.long x))) ∧ is_R r.2.2 (nI r.1) h' ∧ st_fR h h'
section RP
variable {h h' : se_H} {r : Nat × Option Value × st_S} {S : st_S}
theorem rPv_ok (c : Nat) {S' : st_S} (e : r = (c, none, S')) (hR : is_R S' (nI c) h') (hf : st_fR h h') : rPv h r (.inl none) h' := by subst e; exact ⟨rfl, hR, hf⟩
theorem rPi_ok {S' : st_S} {x : Int32} (e : r = (0, some (.int x), S')) (hR : is_R S' (nI 0) h') (hf : st_fR h h') : rPi h r (.inl (some (.int x))) h' := by subst e; exact ⟨⟨x, rfl, fun _ => rfl⟩, hR, hf⟩
theorem rPi_no (c : Nat) {x : Int32} (e : r = (c + 1, none, S)) (hR : is_R S (nI (c + 1)) h') (hf : st_fR h h') : rPi h r (.inl (some (.int x))) h' := by subst e; exact ⟨⟨x, rfl, fun q => absurd q (Nat.succ_ne_zero c)⟩, hR, hf⟩
theorem rPl_ok {S' : st_S} {x : Int64} (e : r = (0, some (.long x), S')) (hR : is_R S' (nI 0) h') (hf : st_fR h h') : rPl h r (.inl (some (.long x))) h' := by subst e; exact ⟨⟨x, rfl, fun _ => rfl⟩, hR, hf⟩
theorem rPl_no (c : Nat) {x : Int64} (e : r = (c + 1, none, S)) (hR : is_R S (nI (c + 1)) h') (hf : st_fR h h') : rPl h r (.inl (some (.long x))) h' := by subst e; exact ⟨⟨x, rfl, fun q => absurd q (Nat.succ_ne_zero c)⟩, hR, hf⟩
end RP
section REFC
variable {sc : List (Nat × Nat × (Nat → Int32))} {l : Launch} {d : Nat} {h : se_H} {S : st_S} {t : Int32} {x : Int32}
theorem g_set {t' : Int32} (hR : is_R S t h) : is_R S t' (h.set 41 (.inr (3, [.int t', .int (S 26 0 0), .ref 42, .ref 43, .ref 44, .ref 45, .ref 46, .ref 47, .int (S 24 0 0), .ref 48, .ref 49, .ref 50, .ref 51, .ref 52, .ref 53, .ref 54, .ref 55, .ref 56, .ref 57, .ref 58, .ref 59, .ref 60, .ref 61, .ref 62, .ref 63, .int (S 25 0 0), .ref 64, .ref 65, .ref 66]))) := ⟨st_eq hR.1, st_ne hR.2.1 (by decide), st_ne hR.2.2.1 (by decide), st_ne hR.2.2.2.1 (by decide), st_ne hR.2.2.2.2.1 (by decide), st_ne hR.2.2.2.2.2.1 (by decide), st_ne hR.2.2.2.2.2.2.1 (by decide), st_ne hR.2.2.2.2.2.2.2.1 (by decide), st_ne hR.2.2.2.2.2.2.2.2.1 (by decide), st_ne hR.2.2.2.2.2.2.2.2.2.1 (by decide), st_ne hR.2.2.2.2.2.2.2.2.2.2.1 (by decide), st_ne hR.2.2.2.2.2.2.2.2.2.2.2.1 (by decide), st_ne hR.2.2.2.2.2.2.2.2.2.2.2.2.1 (by decide), st_ne hR.2.2.2.2.2.2.2.2.2.2.2.2.2.1 (by decide), st_ne hR.2.2.2.2.2.2.2.2.2.2.2.2.2.2.1 (by decide), st_ne hR.2.2.2.2.2.2.2.2.2.2.2.2.2.2.2.1 (by decide), st_ne hR.2.2.2.2.2.2.2.2.2.2.2.2.2.2.2.2.1 (by decide), st_ne hR.2.2.2.2.2.2.2.2.2.2.2.2.2.2.2.2.2.1 (by decide), st_ne hR.2.2.2.2.2.2.2.2.2.2.2.2.2.2.2.2.2.2.1 (by decide), st_ne hR.2.2.2.2.2.2.2.2.2.2.2.2.2.2.2.2.2.2.2.1 (by decide), st_ne hR.2.2.2.2.2.2.2.2.2.2.2.2.2.2.2.2.2.2.2.2.1 (by decide), st_ne hR.2.2.2.2.2.2.2.2.2.2.2.2.2.2.2.2.2.2.2.2.2.1 (by decide), st_ne hR.2.2.2.2.2.2.2.2.2.2.2.2.2.2.2.2.2.2.2.2.2.2.1 (by decide), st_ne hR.2.2.2.2.2.2.2.2.2.2.2.2.2.2.2.2.2.2.2.2.2.2.2.1 (by decide), st_ne hR.2.2.2.2.2.2.2.2.2.2.2.2.2.2.2.2.2.2.2.2.2.2.2.2.1 (by decide), st_ne hR.2.2.2.2.2.2.2.2.2.2.2.2.2.2.2.2.2.2.2.2.2.2.2.2.2 (by decide)⟩
theorem g_goes (c : Nat) {x y z r : Int32} (hR : is_R S t h) (hc : st_go x y z = nI c) (hr : (if nI c = 0 then 1 else 0) = r) : se_W (vG sc) l d mR_goes 0 (se_ent 4 [.ref 41, .int x, .int y, .int z]) [] h 0 0 (fun u h' => is_R S (nI c) h' ∧ st_fR h h' ∧ u = .inl (some (.int r))) :=
  se_mono (c_R_goes (x := x) (y := y) (z := z) hR) (Nat.le_refl _) (Nat.le_refl _) (fun u h' q => by
    obtain ⟨rfl, rfl⟩ := q
    rw [hc]
    exact ⟨g_set hR, fR_set (by decide) (by decide), by rw [hr]⟩)
theorem x_R_isItem (hd : 1 ≤ d) : se_W (vG sc) l d mR_isItem 0 (se_ent 1 [.int x]) [] h 0 0 (fun u h' => h' = h ∧ ((∃ j, st_x 10 x = some j ∧ j < 10 ∧ x = nI j ∧ u = .inl (some (.int 1))) ∨ (st_x 10 x = none ∧ u = .inl (some (.int 0))))) :=
  se_mono (c_R_isItem (x := x) hd) (Nat.le_refl _) (Nat.le_refl _) (fun u h' q => ⟨q.1, x_inx (n := 10) (by decide) q.2⟩)
theorem x_R_isKind (hd : 1 ≤ d) : se_W (vG sc) l d mR_isKind 0 (se_ent 1 [.int x]) [] h 0 0 (fun u h' => h' = h ∧ ((∃ j, st_x 5 x = some j ∧ j < 5 ∧ x = nI j ∧ u = .inl (some (.int 1))) ∨ (st_x 5 x = none ∧ u = .inl (some (.int 0))))) :=
  se_mono (c_R_isKind (x := x) hd) (Nat.le_refl _) (Nat.le_refl _) (fun u h' q => ⟨q.1, x_inx (n := 5) (by decide) q.2⟩)
theorem x_R_isPerson (hd : 1 ≤ d) : se_W (vG sc) l d mR_isPerson 0 (se_ent 1 [.int x]) [] h 0 0 (fun u h' => h' = h ∧ ((∃ j, st_x 40 x = some j ∧ j < 40 ∧ x = nI j ∧ u = .inl (some (.int 1))) ∨ (st_x 40 x = none ∧ u = .inl (some (.int 0))))) :=
  se_mono (c_R_isPerson (x := x) hd) (Nat.le_refl _) (Nat.le_refl _) (fun u h' q => ⟨q.1, x_inx (n := 40) (by decide) q.2⟩)
theorem x_R_isThing (hd : 1 ≤ d) : se_W (vG sc) l d mR_isThing 0 (se_ent 1 [.int x]) [] h 0 0 (fun u h' => h' = h ∧ ((∃ j, st_x 10 x = some j ∧ j < 10 ∧ x = nI j ∧ u = .inl (some (.int 1))) ∨ (st_x 10 x = none ∧ u = .inl (some (.int 0))))) :=
  se_mono (c_R_isThing (x := x) hd) (Nat.le_refl _) (Nat.le_refl _) (fun u h' q => ⟨q.1, x_inx (n := 10) (by decide) q.2⟩)
theorem x_R_isVehicle (hd : 1 ≤ d) (hR : is_R S t h) (hI : st_I S) : se_W (vG sc) l d mR_isVehicle 0 (se_ent 2 [.ref 41, .int x]) [] h 0 0 (fun u h' => h' = h ∧ ((∃ j, st_x (st_nv S) x = some j ∧ j < st_nv S ∧ x = nI j ∧ u = .inl (some (.int 1))) ∨ (st_x (st_nv S) x = none ∧ u = .inl (some (.int 0))))) :=
  se_mono (c_R_isVehicle (x := x) hd hR) (Nat.le_refl _) (Nat.le_refl _) (fun u h' q => ⟨q.1, x_inx (by have := hI.2.1; omega) (by rw [← hI.1]; exact q.2)⟩)
theorem x_R_inD (hI : st_I S) : se_W (vG sc) l d mR_in 0 (se_ent 3 [.int x, .int 0, .int (nI (st_nd S) - 1)]) [] h 0 0 (fun u h' => h' = h ∧ ((∃ j, st_x (st_nd S) x = some j ∧ j < st_nd S ∧ x = nI j ∧ u = .inl (some (.int 1))) ∨ (st_x (st_nd S) x = none ∧ u = .inl (some (.int 0))))) :=
  se_mono (c_R_in (x := x) (a := 0) (b := nI (st_nd S) - 1)) (Nat.le_refl _) (Nat.le_refl _) (fun u h' q => ⟨q.1, x_inx (by have := hI.2.2.2.1; omega) q.2⟩)
theorem x_R_vy {j : Nat} (hd : 1 ≤ d) (hR : is_R S t h) (hI : st_I S) (hj : j < st_nv S) : se_W (vG sc) l d mR_isVehicle 0 (se_ent 2 [.ref 41, .int (nI j)]) [] h 0 0 (fun u h' => h' = h ∧ u = .inl (some (.int 1))) :=
  se_mono (x_R_isVehicle (x := nI j) hd hR hI) (Nat.le_refl _) (Nat.le_refl _) (fun u h' q => ⟨q.1, by
    rcases q.2 with ⟨i, _, _, _, e⟩ | ⟨e, _⟩
    · exact e
    · rw [st_x_some (by have := hI.2.1; omega) hj] at e; cases e⟩)
theorem x_R_vn (hd : 1 ≤ d) (hR : is_R S t h) (hI : st_I S) (hx : st_x (st_nv S) x = none) : se_W (vG sc) l d mR_isVehicle 0 (se_ent 2 [.ref 41, .int x]) [] h 0 0 (fun u h' => h' = h ∧ u = .inl (some (.int 0))) :=
  se_mono (x_R_isVehicle (x := x) hd hR hI) (Nat.le_refl _) (Nat.le_refl _) (fun u h' q => ⟨q.1, by
    rcases q.2 with ⟨i, e, _⟩ | ⟨_, e⟩
    · rw [hx] at e; cases e
    · exact e⟩)
theorem x_R_in {a b : Int32} : se_W (vG sc) l d mR_in 0 (se_ent 3 [.int x, .int a, .int b]) [] h 0 0 (fun u h' => h' = h ∧ ((st_in a b x = true ∧ u = .inl (some (.int 1))) ∨ (st_in a b x = false ∧ u = .inl (some (.int 0))))) :=
  se_mono (c_R_in (x := x) (a := a) (b := b)) (Nat.le_refl _) (Nat.le_refl _) (fun u h' q => ⟨q.1, by
    have e := q.2
    cases hb : st_in a b x
    · rw [hb] at e; exact Or.inr ⟨rfl, e⟩
    · rw [hb] at e; exact Or.inl ⟨rfl, e⟩⟩)
theorem x_R_inc {a b : Int32} (w : Bool) (hw : st_in a b x = w) : se_W (vG sc) l d mR_in 0 (se_ent 3 [.int x, .int a, .int b]) [] h 0 0 (fun u h' => h' = h ∧ u = .inl (some (.int (st_b w)))) :=
  se_mono (c_R_in (x := x) (a := a) (b := b)) (Nat.le_refl _) (Nat.le_refl _) (fun u h' q => ⟨q.1, by rw [← hw]; exact q.2⟩)
theorem c_R_thrown (hR : is_R S t h) : se_W (vG sc) l d mR_thrown 0 (se_ent 1 [.ref 41]) [] h 0 0 (fun u h' => h' = h ∧ u = .inl (some (.int t))) := by
  show se_W (vG sc) l d mR_thrown 0 [some (.ref 41)] [] h 0 0 _
  refine se_aload_n (pc := 0) rfl dR_thrown_0 ?_
  refine se_getf (pc := 1) clR 0 dR_thrown_1 wd_553 rfl (by decide) hR.1 rfl ?_
  exact se_iret (pc := 4) dR_thrown_4 rfl ⟨rfl, rfl⟩
end REFC
