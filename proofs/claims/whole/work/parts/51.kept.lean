/-! .. and by every call -/
section KEPT
variable {n : Nat} {S : st_S}
theorem V_up {t a b : Nat} {x : Int32} (h : st_V n S) (hQ : st_Q n (st_up S t a b x)) (h1 : 24 ≠ t) (h2 : 25 ≠ t) (h3 : 11 ≠ t) (ha : a < st_nv S ∨ t < 6 ∨ 20 < t) : st_V n (st_up S t a b x) :=
  ⟨st_I_up h.1 h1 h2 h3, ha.elim (fun q => F_in h.2.1 q h1) (fun q => F_out h.2.1 q h1), hQ⟩
theorem V_up' {t a b m : Nat} {x : Int32} (h : st_V n S) (hQ : st_Q m (st_up S t a b x)) (h1 : 24 ≠ t) (h2 : 25 ≠ t) (h3 : 11 ≠ t) (ha : a < st_nv S ∨ t < 6 ∨ 20 < t) : st_V m (st_up S t a b x) :=
  ⟨st_I_up h.1 h1 h2 h3, ha.elim (fun q => F_in h.2.1 q h1) (fun q => F_out h.2.1 q h1), hQ⟩
theorem V_nv (h : st_V n S) : st_nv S < 2 ^ 31 := by have := h.1.2.1; omega
theorem rm_v {X m M : Nat} (h1 : X ≤ M) (h2 : M < 2 ^ 30) (h3 : m < 2 ^ 30) (h : st_rm (nI X) (nI m) (nI M) = true) : ∃ y, y ≤ M ∧ nI X + nI m = nI y := by
  have e : nI M - nI X = nI (M - X) := by rw [Int32.sub_eq_iff_eq_add, nI_add, Nat.sub_add_cancel h1]
  rw [st_rm, decide_eq_true_eq, e, nI_leI (by omega) (by omega)] at h
  exact ⟨X + m, by omega, nI_add X m⟩
theorem K_unlist (h : st_V n S) {k i : Int32} : st_V (n + 1) (sp_unlist S k i).2.2 := by
  unfold sp_unlist
  split
  · split
    · exact V_s h
    · exact V_s (V_up h (Q_0 h.2.2) (by decide) (by decide) (by decide) (Or.inr (by decide)))
  · exact V_s h
theorem K_list (h : st_V n S) {k i a b g e : Int32} : st_V (n + 1) (sp_list S k i a b g e).2.2 := by
  unfold sp_list
  split
  · split
    · rename_i hc
      simp only [Bool.and_eq_true] at hc
      obtain ⟨m, m1, m2, rfl⟩ := st_in_nat (A := 1) (B := 3) (by decide) (by decide) hc.2.2.1
      refine V_s ⟨?_, ?_, Q_ne (Q_01 h.2.2 m1 m2) (by decide)⟩
      · exact st_I_up (st_I_up (st_I_up (st_I_up (st_I_up h.1 (by decide) (by decide) (by decide)) (by decide) (by decide) (by decide)) (by decide) (by decide) (by decide)) (by decide) (by decide) (by decide)) (by decide) (by decide) (by decide)
      · exact F_out (F_out (F_out (F_out (F_out h.2.1 (by decide) (by decide)) (by decide) (by decide)) (by decide) (by decide)) (by decide) (by decide)) (by decide) (by decide)
    · exact V_s h
  · exact V_s h
theorem K_need (h : st_V n S) {k t x : Int32} : st_V (n + 1) (sp_need S k t x).2.2 := by
  unfold sp_need
  split
  · split
    · exact V_s (V_up h (Q_ne h.2.2 (by decide)) (by decide) (by decide) (by decide) (Or.inr (by decide)))
    · exact V_s h
  · exact V_s h
theorem K_runs (h : st_V n S) {v : Int32} : st_V (n + 1) (sp_runs S v).2.2 := by
  unfold sp_runs
  split <;> exact V_s h
theorem K_put (h : st_V n S) {v t x : Int32} : st_V (n + 1) (sp_put S v t x).2.2 := by
  unfold sp_put
  split
  · rename_i v' t' e1 e2
    split
    · rename_i hi
      split
      · rename_i hr
        obtain ⟨m, m1, m2, rfl⟩ := st_in_nat (A := 1) (B := 9) (by decide) (by decide) hi
        obtain ⟨X, hX, eX⟩ := h.2.2.2.2.2.2.1 v' t'
        rw [eX] at hr
        have hv := (st_xs (V_nv h) e1).2
        refine V_s (V_up h (Q_6 h.2.2 ?_) (by decide) (by decide) (by decide) (Or.inl hv))
        rw [eX]; exact rm_v hX (by decide) (by omega) hr
      · exact V_s h
    · exact V_s h
  · exact V_s h
theorem K_answer (h : st_V n S) {v i x p : Int32} : st_V (n + 1) (sp_answer S v i x p).2.2 := by
  unfold sp_answer
  split
  · rename_i v' i' p' e1 e2 e3
    split
    · exact V_s h
    · split
      · exact V_s h
      · have hv := (st_xs (V_nv h) e1).2
        refine V_s ⟨?_, ?_, Q_ans h.2.2⟩
        · exact st_I_up (st_I_up (st_I_up (st_I_up h.1 (by decide) (by decide) (by decide)) (by decide) (by decide) (by decide)) (by decide) (by decide) (by decide)) (by decide) (by decide) (by decide)
        · refine F_in (F_in (F_in (F_in h.2.1 hv (by decide)) ?_ (by decide)) ?_ (by decide)) ?_ (by decide) <;> simp (decide := true) only [nv_up] <;> exact hv
  · exact V_s h
theorem K_item (h : st_V n S) {v i w : Int32} : st_V (n + 1) (sp_item S v i w).2.2 := by
  unfold sp_item
  repeat' split
  all_goals exact V_s h
theorem K_off (h : st_V n S) {v b p q : Int32} : st_V (n + 1) (sp_off S v b p q).2.2 := by
  unfold sp_off
  split
  · rename_i v' p' q' e1 e2 e3
    split
    · exact V_s h
    · split
      · exact V_s h
      · exact V_s (V_up h (Q_ne h.2.2 (by decide)) (by decide) (by decide) (by decide) (Or.inl (st_xs (V_nv h) e1).2))
  · exact V_s h
theorem K_fuel (h : st_V n S) {v x : Int32} : st_V (n + 1) (sp_fuel S v x).2.2 := by
  unfold sp_fuel
  split
  · rename_i v' e1
    split
    · rename_i hi
      split
      · rename_i hr
        obtain ⟨m, m1, m2, rfl⟩ := st_in_nat (A := 1) (B := 1000000) (by decide) (by decide) hi
        obtain ⟨X, hX, eX⟩ := h.2.2.2.2.2.2.2.1 v'
        rw [eX] at hr
        refine V_s (V_up h (Q_18 h.2.2 ?_) (by decide) (by decide) (by decide) (Or.inl (st_xs (V_nv h) e1).2))
        rw [eX]; exact rm_v hX (by decide) (by omega) hr
      · exact V_s h
    · exact V_s h
  · exact V_s h
theorem K_cost (h : st_V n S) {v x : Int32} : st_V (n + 1) (sp_cost S v x).2.2 := by
  unfold sp_cost
  split
  · rename_i v' e1
    split
    · rename_i hi
      split
      · rename_i hr
        obtain ⟨m, m1, m2, rfl⟩ := st_in_nat (A := 0) (B := 10000000) (by decide) (by decide) hi
        obtain ⟨X, hX, eX⟩ := h.2.2.2.2.2.2.2.2.1 v'
        rw [eX] at hr
        refine V_s (V_up h (Q_19 h.2.2 ?_) (by decide) (by decide) (by decide) (Or.inl (st_xs (V_nv h) e1).2))
        rw [eX]; exact rm_v hX (by decide) (by omega) hr
      · exact V_s h
    · exact V_s h
  · exact V_s h
theorem K_key (h : st_V n S) {v p : Int32} : st_V (n + 1) (sp_key S v p).2.2 := by
  unfold sp_key
  split
  · rename_i v' e1
    have hv := (st_xs (V_nv h) e1).2
    split
    · split
      · exact V_s h
      · exact V_s (V_up h (Q_ne h.2.2 (by decide)) (by decide) (by decide) (by decide) (Or.inl hv))
    · split
      · split
        · exact V_s h
        · exact V_s (V_up h (Q_ne h.2.2 (by decide)) (by decide) (by decide) (by decide) (Or.inl hv))
      · exact V_s h
  · exact V_s h
theorem K_vehicleAt (h : st_V n S) {v w : Int32} : st_V (n + 1) (sp_vehicleAt S v w).2.2 := by
  unfold sp_vehicleAt
  repeat' split
  all_goals exact V_s h
theorem K_use (h : st_V n S) {v k : Int32} : st_V (n + 1) (sp_use S v k).2.2 := by
  unfold sp_use
  split
  · rename_i v' e1
    have hv := (st_xs (V_nv h) e1).2
    split
    · rename_i hi
      obtain ⟨m, m1, m2, rfl⟩ := st_in_nat (A := 0) (B := 1000000) (by decide) (by decide) hi
      have h1 := V_up' h (Q_17 (a := v') h.2.2) (by decide) (by decide) (by decide) (Or.inl hv)
      have hv1 : v' < st_nv (st_up S 17 v' 0 (S 17 v' 0 + 1)) := by rw [nv_up (by decide)]; exact hv
      split
      · split
        · exact V_up h1 (Q_ne h1.2.2 (by decide)) (by decide) (by decide) (by decide) (Or.inl hv1)
        · exact V_up h1 (Q_15 h1.2.2 ⟨m, m2, rfl⟩) (by decide) (by decide) (by decide) (Or.inl hv1)
      · exact V_s h
    · exact V_s h
  · exact V_s h
theorem K_damage (h : st_V n S) {v g : Int32} : st_V (n + 1) (sp_damage S v g).2.2 := by
  unfold sp_damage
  split
  · split
    · rename_i hi
      obtain ⟨m, m1, m2, rfl⟩ := st_in_nat (A := 1) (B := 3) (by decide) (by decide) hi
      split
      · rename_i hl
        have hd : st_nd S < 100 := by
          have h4 := h.1.2.2.2.1
          rw [show (100 : Int32) = nI 100 from rfl, nI_ltI (by omega) (by decide)] at hl; exact hl
        refine V_s ⟨I_dam h.1 hd, ?_, Q_dam h.2.2 h.1 m1 m2 hd⟩
        exact F_out (F_out (F_out h.2.1 (by decide) (by decide)) (by decide) (by decide)) (by decide) (by decide)
      · exact V_s h
    · exact V_s h
  · exact V_s h
theorem K_proof (h : st_V n S) {e p : Int32} : st_V (n + 1) (sp_proof S e p).2.2 := by
  unfold sp_proof
  split
  · split
    · rename_i hi
      obtain ⟨m, m1, m2, rfl⟩ := st_in_nat (A := 1) (B := 9999) (by decide) (by decide) hi
      split
      · exact V_s (V_up h (Q_23 h.2.2 ⟨m, m2, rfl⟩) (by decide) (by decide) (by decide) (Or.inr (by decide)))
      · exact V_s h
    · exact V_s h
  · exact V_s h
theorem K_swap (h : st_V n S) {v w t : Int32} : st_V (n + 1) (sp_swap S v w t).2.2 := by
  unfold sp_swap
  split
  · rename_i v' w' t' e1 e2 e3
    have hv := (st_xs (V_nv h) e1).2
    have hw := (st_xs (V_nv h) e2).2
    split
    · exact V_s h
    · split
      · exact V_s h
      · have h1 := V_up h (Q_6 (a := v') (b := t') (x := S 6 w' t') h.2.2 (h.2.2.2.2.2.2.1 w' t')) (by decide) (by decide) (by decide) (Or.inl hv)
        exact V_s (V_up h1 (Q_6 h1.2.2 (h.2.2.2.2.2.2.1 v' t')) (by decide) (by decide) (by decide) (Or.inl (by rw [nv_up (by decide)]; exact hw)))
  · exact V_s h
theorem K_spare (h : st_V n S) {v : Int32} : st_V (n + 1) (sp_spare S v).2.2 := by
  unfold sp_spare
  repeat' split
  all_goals exact V_s h
theorem K_reason (h : st_V n S) {v i : Int32} : st_V (n + 1) (sp_reason S v i).2.2 := by
  unfold sp_reason
  repeat' split
  all_goals exact V_s h
theorem K_skipped (h : st_V n S) {i : Int32} : st_V (n + 1) (sp_skipped S i).2.2 := by
  unfold sp_skipped
  repeat' split
  all_goals exact V_s h
theorem K_using (h : st_V n S) {v w : Int32} : st_V (n + 1) (sp_using S v w).2.2 := by
  unfold sp_using
  repeat' split
  all_goals exact V_s h
theorem K_tick (h : st_V n S) {x : Int32} : st_V (n + 1) (sp_tick S x).2.2 := by
  unfold sp_tick
  split
  · rename_i hc
    simp only [Bool.and_eq_true] at hc
    obtain ⟨H, h1, h2⟩ := (tk_iff h.2.2 hc.1).2 hc.2
    exact V_s (V_up h (q_26 h.2.2 h1 h2) (by decide) (by decide) (by decide) (Or.inr (by decide)))
  · exact V_s h
theorem K_vehicle (h : st_V n S) {k s : Int32} : st_V (n + 1) (sp_vehicle S k s).2.2 := by
  unfold sp_vehicle
  split
  · rename_i k' e1
    obtain ⟨rfl, hk⟩ := st_xs (by decide) e1
    split
    · rename_i hl
      have h2 := h.1.2.1
      rw [show (20 : Int32) = nI 20 from rfl, nI_ltI (by omega) (by decide)] at hl
      exact V_s (V_veh h hk hl)
    · exact V_s h
  · exact V_s h
theorem V_0 : st_V 0 st_0 := by
  have e0 : st_nv st_0 = 0 := by decide
  have e1 : st_nd st_0 = 0 := by decide
  refine ⟨⟨by decide, by rw [e0]; decide, by decide, by rw [e1]; decide, fun v hv => ?_⟩, fun v _ t _ _ => rfl, ⟨0, by decide, rfl⟩, fun k i => Or.inl rfl, fun e he => ?_, fun e => ⟨0, by decide, rfl⟩, fun v t => ⟨0, by decide, rfl⟩, fun v => ⟨0, by decide, rfl⟩, fun v => ⟨0, by decide, rfl⟩, fun v => ⟨0, by decide, rfl⟩, fun v i => ⟨0, 0, by decide, by decide, rfl, rfl⟩, fun v i h8 => ?_, fun v hv => ?_⟩
  · rw [e0] at hv; omega
  · rw [e1] at he; omega
  · refine ⟨rfl, ?_, rfl⟩
    show (if i < 10 then (-1 : Int32) else 0) = -1
    exact h8
  · rw [e0] at hv; omega
end KEPT
