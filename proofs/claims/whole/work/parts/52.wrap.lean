/-! THE LAW'S WRAPPERS: each call of the class within its handlers -/
def vI (o : Option Value) (y : Int64) : Prop := ∃ x, o = some (.int x) ∧ y = x.toInt64
def vB (o : Option Value) (y : Int64) : Prop := ∃ x, o = some (.int x) ∧ y = (if x = 0 then 0 else 1)
def vJ (o : Option Value) (y : Int64) : Prop := o = some (.long y)
def vU (_ : Option Value) (_ : Int64) : Prop := True
def is_O (g : Nat → Int64) (h : se_H) : Prop := h[67]? = some (.inl (.long, (1, .inr (.inl g))))
/-- what a wrapper says at its end -/
def lQ (h : se_H) (r : Nat × Option Value × st_S) (R : Option Value → Int64 → Prop) : se_O → se_H → Prop := fun u h' => u = .inl (some (.int (nI r.1))) ∧ (∃ β', is_C 0 β' r.2.2 h' ∧ ∀ v, v < st_nv r.2.2 → 68 ≤ β' v) ∧ h.length ≤ h'.length ∧ (∀ a, 41 ≤ a → a < 67 → h'[a]? = h[a]?) ∧ ∃ g, is_O g h' ∧ (r.1 = 0 → R r.2.1 (g 0))
theorem is_C_mv {β : Nat → Nat} {S : st_S} {h h' : se_H} (hC : is_C 0 β S h) (hβ : ∀ v, v < st_nv S → 68 ≤ β v) (hf : ∀ a, a < 41 ∨ 68 ≤ a → h'[a]? = h[a]?) : is_C 0 β S h' := by
  obtain ⟨c1, c2, c3, c4, c5, c6, c7, c8, c9, c10⟩ := hC
  refine ⟨(hf _ (by omega)).trans c1, (hf _ (by omega)).trans c2, (hf _ (by omega)).trans c3, (hf _ (by omega)).trans c4, (hf _ (by omega)).trans c5, (hf _ (by omega)).trans c6, fun k hk => ?_, fun v hv => ?_, c9, c10⟩
  · exact is_K_mono (c7 k hk) (fun b h1 h2 => hf b (by simp only [st_K] at h2; omega))
  · exact is_V_mono (c8 v hv) (fun b h1 h2 => hf b (by have := hβ v hv; omega))
theorem lQ_ok {β : Nat → Nat} {h h9 : se_H} {r : Nat × Option Value × st_S} {R : Option Value → Int64 → Prop} {g : Nat → Int64} {y : Int64} (e0 : r.1 = 0) (hC : is_C 0 β r.2.2 h9) (hβ : ∀ v, v < st_nv r.2.2 → 68 ≤ β v) (hl : h.length ≤ h9.length) (hf : ∀ a, 41 ≤ a → a < 68 → h9[a]? = h[a]?) (ho : is_O g h9) (hv : R r.2.1 y) : lQ h r R (.inl (some (.int 0))) (h9.set 67 (.inl (.long, (1, .inr (.inl (vp_updL g 0 y)))))) := by
  refine ⟨by rw [e0]; rfl, ⟨β, is_C_mv hC hβ (fun a ha => by rw [List.getElem?_set, if_neg (by omega)]), hβ⟩, by rw [List.length_set]; exact hl, fun a h1 h2 => by rw [List.getElem?_set, if_neg (by omega)]; exact hf a h1 (by omega), vp_updL g 0 y, st_eq ho, fun _ => ?_⟩
  have : vp_updL g 0 y 0 = y := by simp [vp_updL]
  rw [this]; exact hv
theorem lQ_v {β : Nat → Nat} {h h9 : se_H} {r : Nat × Option Value × st_S} {g : Nat → Int64} (e0 : r.1 = 0) (hC : is_C 0 β r.2.2 h9) (hβ : ∀ v, v < st_nv r.2.2 → 68 ≤ β v) (hl : h.length ≤ h9.length) (hf : ∀ a, 41 ≤ a → a < 68 → h9[a]? = h[a]?) (ho : is_O g h9) : lQ h r vU (.inl (some (.int 0))) h9 :=
  ⟨by rw [e0]; rfl, ⟨β, hC, hβ⟩, hl, fun a h1 h2 => hf a h1 (by omega), g, ho, fun _ => trivial⟩
theorem lQ_no {β : Nat → Nat} {h : se_H} {S : st_S} {r : Nat × Option Value × st_S} {R : Option Value → Int64 → Prop} {g : Nat → Int64} {x : Int32} (c : Nat) (e0 : r.1 = c + 1) (eS : r.2.2 = S) (ex : nI (c + 1) = x) (hC : is_C 0 β S h) (hβ : ∀ v, v < st_nv S → 68 ≤ β v) (ho : is_O g h) : lQ h r R (.inl (some (.int x))) h :=
  ⟨by rw [e0, ex], ⟨β, by rw [eS]; exact hC, by rw [eS]; exact hβ⟩, Nat.le_refl _, fun a h1 h2 => rfl, g, ho, fun q => by rw [e0] at q; cases q⟩
section TK
variable {G : se_G} {M : se_M} {pc a b tgt ct a0 b0 t0 c0 a1 b1 t1 c1 : Nat} {E E0 E1 : String}
theorem tk0 (h : M.2.2.2.2[0]? = some (a, b, tgt, ct)) (hp : a ≤ pc ∧ pc < b) (hc : ct ≠ 0) (hl : Cond.classLink M.1.cls ct E ∈ G.2.1) (hE : Cond.castable E E ∈ G.2.2.2.2.1) : se_takes G M pc E 0 tgt := ⟨_, E, h, rfl, hp, hc, hl, hE, fun j hj => absurd hj (Nat.not_lt_zero j)⟩
theorem tk1 (h : M.2.2.2.2[1]? = some (a, b, tgt, ct)) (hp : a ≤ pc ∧ pc < b) (hc : ct ≠ 0) (hl : Cond.classLink M.1.cls ct E ∈ G.2.1) (hE : Cond.castable E E ∈ G.2.2.2.2.1)
    (h0 : M.2.2.2.2[0]? = some (a0, b0, t0, c0)) (hc0 : c0 ≠ 0) (hl0 : Cond.classLink M.1.cls c0 E0 ∈ G.2.1) (hE0 : Cond.not (.castable E E0) ∈ G.2.2.2.2.1) : se_takes G M pc E 1 tgt := ⟨_, E, h, rfl, hp, hc, hl, hE, fun j hj y hy => by
    obtain rfl : j = 0 := by omega
    rw [h0] at hy; cases hy; exact ⟨hc0, E0, hl0, hE0⟩⟩
theorem tk2 (h : M.2.2.2.2[2]? = some (a, b, tgt, ct)) (hp : a ≤ pc ∧ pc < b) (hc : ct ≠ 0) (hl : Cond.classLink M.1.cls ct E ∈ G.2.1) (hE : Cond.castable E E ∈ G.2.2.2.2.1)
    (h0 : M.2.2.2.2[0]? = some (a0, b0, t0, c0)) (hc0 : c0 ≠ 0) (hl0 : Cond.classLink M.1.cls c0 E0 ∈ G.2.1) (hE0 : Cond.not (.castable E E0) ∈ G.2.2.2.2.1)
    (h1 : M.2.2.2.2[1]? = some (a1, b1, t1, c1)) (hc1 : c1 ≠ 0) (hl1 : Cond.classLink M.1.cls c1 E1 ∈ G.2.1) (hE1 : Cond.not (.castable E E1) ∈ G.2.2.2.2.1) : se_takes G M pc E 2 tgt := ⟨_, E, h, rfl, hp, hc, hl, hE, fun j hj y hy => by
    have hj2 : j = 0 ∨ j = 1 := by omega
    rcases hj2 with rfl | rfl
    · rw [h0] at hy; cases hy; exact ⟨hc0, E0, hl0, hE0⟩
    · rw [h1] at hy; cases hy; exact ⟨hc1, E1, hl1, hE1⟩⟩
end TK
section SHAPE
variable {S : st_S}
theorem N_vehicle {k s : Int32} : (sp_vehicle S k s).1 ≠ 0 → (sp_vehicle S k s).2.2 = S := by
  unfold sp_vehicle
  repeat' split
  all_goals first | (intro _; rfl) | (intro q; exact absurd rfl q)
theorem T_vehicle {k s : Int32} : (sp_vehicle S k s).1 = 0 → ∃ z9, (sp_vehicle S k s).2.1 = some (.int z9) := by
  unfold sp_vehicle
  repeat' split
  all_goals first | (intro q; cases q; done) | (intro _; exact ⟨_, rfl⟩)
theorem N_list {k i a b g e : Int32} : (sp_list S k i a b g e).1 ≠ 0 → (sp_list S k i a b g e).2.2 = S := by
  unfold sp_list
  repeat' split
  all_goals first | (intro _; rfl) | (intro q; exact absurd rfl q)
theorem T_list {k i a b g e : Int32} : (sp_list S k i a b g e).1 = 0 → (sp_list S k i a b g e).2.1 = none := by
  unfold sp_list
  repeat' split
  all_goals first | (intro _; rfl) | (intro q; cases q)
theorem nv_list {k i a b g e : Int32} : st_nv (sp_list S k i a b g e).2.2 = st_nv S := by
  unfold sp_list
  repeat' split
  all_goals first | rfl | (simp (decide := true) only [nv_up])
theorem N_unlist {k i : Int32} : (sp_unlist S k i).1 ≠ 0 → (sp_unlist S k i).2.2 = S := by
  unfold sp_unlist
  repeat' split
  all_goals first | (intro _; rfl) | (intro q; exact absurd rfl q)
theorem T_unlist {k i : Int32} : (sp_unlist S k i).1 = 0 → (sp_unlist S k i).2.1 = none := by
  unfold sp_unlist
  repeat' split
  all_goals first | (intro _; rfl) | (intro q; cases q)
theorem nv_unlist {k i : Int32} : st_nv (sp_unlist S k i).2.2 = st_nv S := by
  unfold sp_unlist
  repeat' split
  all_goals first | rfl | (simp (decide := true) only [nv_up])
theorem N_answer {v i x p : Int32} : (sp_answer S v i x p).1 ≠ 0 → (sp_answer S v i x p).2.2 = S := by
  unfold sp_answer
  repeat' split
  all_goals first | (intro _; rfl) | (intro q; exact absurd rfl q)
theorem T_answer {v i x p : Int32} : (sp_answer S v i x p).1 = 0 → ∃ z9, (sp_answer S v i x p).2.1 = some (.int z9) := by
  unfold sp_answer
  repeat' split
  all_goals first | (intro q; cases q; done) | (intro _; exact ⟨_, rfl⟩)
theorem nv_answer {v i x p : Int32} : st_nv (sp_answer S v i x p).2.2 = st_nv S := by
  unfold sp_answer
  repeat' split
  all_goals first | rfl | (simp (decide := true) only [nv_up])
theorem N_item {v i w : Int32} : (sp_item S v i w).1 ≠ 0 → (sp_item S v i w).2.2 = S := by
  unfold sp_item
  repeat' split
  all_goals first | (intro _; rfl) | (intro q; exact absurd rfl q)
theorem T_item {v i w : Int32} : (sp_item S v i w).1 = 0 → ∃ z9, (sp_item S v i w).2.1 = some (.int z9) := by
  unfold sp_item
  repeat' split
  all_goals first | (intro q; cases q; done) | (intro _; exact ⟨_, rfl⟩)
theorem nv_item {v i w : Int32} : st_nv (sp_item S v i w).2.2 = st_nv S := by
  unfold sp_item
  repeat' split
  all_goals first | rfl | (simp (decide := true) only [nv_up])
theorem N_use {v k : Int32} : (sp_use S v k).1 ≠ 0 → (sp_use S v k).2.2 = S := by
  unfold sp_use
  repeat' split
  all_goals first | (intro _; rfl) | (intro q; exact absurd rfl q)
theorem T_use {v k : Int32} : (sp_use S v k).1 = 0 → ∃ z9, (sp_use S v k).2.1 = some (.int z9) := by
  unfold sp_use
  repeat' split
  all_goals first | (intro q; cases q; done) | (intro _; exact ⟨_, rfl⟩)
theorem nv_use {v k : Int32} : st_nv (sp_use S v k).2.2 = st_nv S := by
  unfold sp_use
  repeat' split
  all_goals first | rfl | (simp (decide := true) only [nv_up])
theorem N_runs {v : Int32} : (sp_runs S v).1 ≠ 0 → (sp_runs S v).2.2 = S := by
  unfold sp_runs
  repeat' split
  all_goals first | (intro _; rfl) | (intro q; exact absurd rfl q)
theorem T_runs {v : Int32} : (sp_runs S v).1 = 0 → ∃ z9, (sp_runs S v).2.1 = some (.int z9) := by
  unfold sp_runs
  repeat' split
  all_goals first | (intro q; cases q; done) | (intro _; exact ⟨_, rfl⟩)
theorem nv_runs {v : Int32} : st_nv (sp_runs S v).2.2 = st_nv S := by
  unfold sp_runs
  repeat' split
  all_goals first | rfl | (simp (decide := true) only [nv_up])
theorem N_reason {v i : Int32} : (sp_reason S v i).1 ≠ 0 → (sp_reason S v i).2.2 = S := by
  unfold sp_reason
  repeat' split
  all_goals first | (intro _; rfl) | (intro q; exact absurd rfl q)
theorem T_reason {v i : Int32} : (sp_reason S v i).1 = 0 → ∃ z9, (sp_reason S v i).2.1 = some (.int z9) := by
  unfold sp_reason
  repeat' split
  all_goals first | (intro q; cases q; done) | (intro _; exact ⟨_, rfl⟩)
theorem nv_reason {v i : Int32} : st_nv (sp_reason S v i).2.2 = st_nv S := by
  unfold sp_reason
  repeat' split
  all_goals first | rfl | (simp (decide := true) only [nv_up])
theorem N_off {v b p q : Int32} : (sp_off S v b p q).1 ≠ 0 → (sp_off S v b p q).2.2 = S := by
  unfold sp_off
  repeat' split
  all_goals first | (intro _; rfl) | (intro q; exact absurd rfl q)
theorem T_off {v b p q : Int32} : (sp_off S v b p q).1 = 0 → (sp_off S v b p q).2.1 = none := by
  unfold sp_off
  repeat' split
  all_goals first | (intro _; rfl) | (intro q; cases q)
theorem nv_off {v b p q : Int32} : st_nv (sp_off S v b p q).2.2 = st_nv S := by
  unfold sp_off
  repeat' split
  all_goals first | rfl | (simp (decide := true) only [nv_up])
theorem N_damage {v g : Int32} : (sp_damage S v g).1 ≠ 0 → (sp_damage S v g).2.2 = S := by
  unfold sp_damage
  repeat' split
  all_goals first | (intro _; rfl) | (intro q; exact absurd rfl q)
theorem T_damage {v g : Int32} : (sp_damage S v g).1 = 0 → ∃ z9, (sp_damage S v g).2.1 = some (.int z9) := by
  unfold sp_damage
  repeat' split
  all_goals first | (intro q; cases q; done) | (intro _; exact ⟨_, rfl⟩)
theorem nv_damage {v g : Int32} : st_nv (sp_damage S v g).2.2 = st_nv S := by
  unfold sp_damage
  repeat' split
  all_goals first | rfl | (simp (decide := true) only [nv_up])
theorem N_proof {e p : Int32} : (sp_proof S e p).1 ≠ 0 → (sp_proof S e p).2.2 = S := by
  unfold sp_proof
  repeat' split
  all_goals first | (intro _; rfl) | (intro q; exact absurd rfl q)
theorem T_proof {e p : Int32} : (sp_proof S e p).1 = 0 → (sp_proof S e p).2.1 = none := by
  unfold sp_proof
  repeat' split
  all_goals first | (intro _; rfl) | (intro q; cases q)
theorem nv_proof {e p : Int32} : st_nv (sp_proof S e p).2.2 = st_nv S := by
  unfold sp_proof
  repeat' split
  all_goals first | rfl | (simp (decide := true) only [nv_up])
theorem N_need {k t n : Int32} : (sp_need S k t n).1 ≠ 0 → (sp_need S k t n).2.2 = S := by
  unfold sp_need
  repeat' split
  all_goals first | (intro _; rfl) | (intro q; exact absurd rfl q)
theorem T_need {k t n : Int32} : (sp_need S k t n).1 = 0 → (sp_need S k t n).2.1 = none := by
  unfold sp_need
  repeat' split
  all_goals first | (intro _; rfl) | (intro q; cases q)
theorem nv_need {k t n : Int32} : st_nv (sp_need S k t n).2.2 = st_nv S := by
  unfold sp_need
  repeat' split
  all_goals first | rfl | (simp (decide := true) only [nv_up])
theorem N_put {v t n : Int32} : (sp_put S v t n).1 ≠ 0 → (sp_put S v t n).2.2 = S := by
  unfold sp_put
  repeat' split
  all_goals first | (intro _; rfl) | (intro q; exact absurd rfl q)
theorem T_put {v t n : Int32} : (sp_put S v t n).1 = 0 → ∃ z9, (sp_put S v t n).2.1 = some (.int z9) := by
  unfold sp_put
  repeat' split
  all_goals first | (intro q; cases q; done) | (intro _; exact ⟨_, rfl⟩)
theorem nv_put {v t n : Int32} : st_nv (sp_put S v t n).2.2 = st_nv S := by
  unfold sp_put
  repeat' split
  all_goals first | rfl | (simp (decide := true) only [nv_up])
theorem N_swap {v w t : Int32} : (sp_swap S v w t).1 ≠ 0 → (sp_swap S v w t).2.2 = S := by
  unfold sp_swap
  repeat' split
  all_goals first | (intro _; rfl) | (intro q; exact absurd rfl q)
theorem T_swap {v w t : Int32} : (sp_swap S v w t).1 = 0 → ∃ z9, (sp_swap S v w t).2.1 = some (.int z9) := by
  unfold sp_swap
  repeat' split
  all_goals first | (intro q; cases q; done) | (intro _; exact ⟨_, rfl⟩)
theorem nv_swap {v w t : Int32} : st_nv (sp_swap S v w t).2.2 = st_nv S := by
  unfold sp_swap
  repeat' split
  all_goals first | rfl | (simp (decide := true) only [nv_up])
theorem N_spare {v : Int32} : (sp_spare S v).1 ≠ 0 → (sp_spare S v).2.2 = S := by
  unfold sp_spare
  repeat' split
  all_goals first | (intro _; rfl) | (intro q; exact absurd rfl q)
theorem T_spare {v : Int32} : (sp_spare S v).1 = 0 → ∃ z9, (sp_spare S v).2.1 = some (.int z9) := by
  unfold sp_spare
  repeat' split
  all_goals first | (intro q; cases q; done) | (intro _; exact ⟨_, rfl⟩)
theorem nv_spare {v : Int32} : st_nv (sp_spare S v).2.2 = st_nv S := by
  unfold sp_spare
  repeat' split
  all_goals first | rfl | (simp (decide := true) only [nv_up])
theorem N_fuel {v m : Int32} : (sp_fuel S v m).1 ≠ 0 → (sp_fuel S v m).2.2 = S := by
  unfold sp_fuel
  repeat' split
  all_goals first | (intro _; rfl) | (intro q; exact absurd rfl q)
theorem T_fuel {v m : Int32} : (sp_fuel S v m).1 = 0 → ∃ z9, (sp_fuel S v m).2.1 = some (.int z9) := by
  unfold sp_fuel
  repeat' split
  all_goals first | (intro q; cases q; done) | (intro _; exact ⟨_, rfl⟩)
theorem nv_fuel {v m : Int32} : st_nv (sp_fuel S v m).2.2 = st_nv S := by
  unfold sp_fuel
  repeat' split
  all_goals first | rfl | (simp (decide := true) only [nv_up])
theorem N_using {v w : Int32} : (sp_using S v w).1 ≠ 0 → (sp_using S v w).2.2 = S := by
  unfold sp_using
  repeat' split
  all_goals first | (intro _; rfl) | (intro q; exact absurd rfl q)
theorem T_using {v w : Int32} : (sp_using S v w).1 = 0 → ∃ z9, (sp_using S v w).2.1 = some (.long z9) := by
  unfold sp_using
  repeat' split
  all_goals first | (intro q; cases q; done) | (intro _; exact ⟨_, rfl⟩)
theorem nv_using {v w : Int32} : st_nv (sp_using S v w).2.2 = st_nv S := by
  unfold sp_using
  repeat' split
  all_goals first | rfl | (simp (decide := true) only [nv_up])
theorem N_key {v p : Int32} : (sp_key S v p).1 ≠ 0 → (sp_key S v p).2.2 = S := by
  unfold sp_key
  repeat' split
  all_goals first | (intro _; rfl) | (intro q; exact absurd rfl q)
theorem T_key {v p : Int32} : (sp_key S v p).1 = 0 → ∃ z9, (sp_key S v p).2.1 = some (.int z9) := by
  unfold sp_key
  repeat' split
  all_goals first | (intro q; cases q; done) | (intro _; exact ⟨_, rfl⟩)
theorem nv_key {v p : Int32} : st_nv (sp_key S v p).2.2 = st_nv S := by
  unfold sp_key
  repeat' split
  all_goals first | rfl | (simp (decide := true) only [nv_up])
theorem N_cost {v m : Int32} : (sp_cost S v m).1 ≠ 0 → (sp_cost S v m).2.2 = S := by
  unfold sp_cost
  repeat' split
  all_goals first | (intro _; rfl) | (intro q; exact absurd rfl q)
theorem T_cost {v m : Int32} : (sp_cost S v m).1 = 0 → ∃ z9, (sp_cost S v m).2.1 = some (.int z9) := by
  unfold sp_cost
  repeat' split
  all_goals first | (intro q; cases q; done) | (intro _; exact ⟨_, rfl⟩)
theorem nv_cost {v m : Int32} : st_nv (sp_cost S v m).2.2 = st_nv S := by
  unfold sp_cost
  repeat' split
  all_goals first | rfl | (simp (decide := true) only [nv_up])
theorem N_skipped {i : Int32} : (sp_skipped S i).1 ≠ 0 → (sp_skipped S i).2.2 = S := by
  unfold sp_skipped
  repeat' split
  all_goals first | (intro _; rfl) | (intro q; exact absurd rfl q)
theorem T_skipped {i : Int32} : (sp_skipped S i).1 = 0 → ∃ z9, (sp_skipped S i).2.1 = some (.int z9) := by
  unfold sp_skipped
  repeat' split
  all_goals first | (intro q; cases q; done) | (intro _; exact ⟨_, rfl⟩)
theorem nv_skipped {i : Int32} : st_nv (sp_skipped S i).2.2 = st_nv S := by
  unfold sp_skipped
  repeat' split
  all_goals first | rfl | (simp (decide := true) only [nv_up])
theorem N_tick {n : Int32} : (sp_tick S n).1 ≠ 0 → (sp_tick S n).2.2 = S := by
  unfold sp_tick
  repeat' split
  all_goals first | (intro _; rfl) | (intro q; exact absurd rfl q)
theorem T_tick {n : Int32} : (sp_tick S n).1 = 0 → ∃ z9, (sp_tick S n).2.1 = some (.int z9) := by
  unfold sp_tick
  repeat' split
  all_goals first | (intro q; cases q; done) | (intro _; exact ⟨_, rfl⟩)
theorem nv_tick {n : Int32} : st_nv (sp_tick S n).2.2 = st_nv S := by
  unfold sp_tick
  repeat' split
  all_goals first | rfl | (simp (decide := true) only [nv_up])
theorem N_vehicleAt {v w : Int32} : (sp_vehicleAt S v w).1 ≠ 0 → (sp_vehicleAt S v w).2.2 = S := by
  unfold sp_vehicleAt
  repeat' split
  all_goals first | (intro _; rfl) | (intro q; exact absurd rfl q)
theorem T_vehicleAt {v w : Int32} : (sp_vehicleAt S v w).1 = 0 → ∃ z9, (sp_vehicleAt S v w).2.1 = some (.int z9) := by
  unfold sp_vehicleAt
  repeat' split
  all_goals first | (intro q; cases q; done) | (intro _; exact ⟨_, rfl⟩)
theorem nv_vehicleAt {v w : Int32} : st_nv (sp_vehicleAt S v w).2.2 = st_nv S := by
  unfold sp_vehicleAt
  repeat' split
  all_goals first | rfl | (simp (decide := true) only [nv_up])
end SHAPE
section WRAP
variable {sc : List (Nat × Nat × (Nat → Int32))} {l : Launch} {d : Nat} {h : se_H} {β : Nat → Nat} {S : st_S} {N : Nat} {g9 : Nat → Int64}
set_option maxHeartbeats 1000000 in
set_option maxRecDepth 100000 in
theorem w_vehicle {k s : Int32} (hd : 10 ≤ d) (hC : is_C 0 β S h) (hβ : ∀ v, v < st_nv S → 68 ≤ β v) (hV : st_V N S) (ho : is_O g9 h) (hs : s = 0 ∨ s = 1) (h68 : 68 ≤ h.length) : se_W (vG sc) l d mL_vehicle 0 (se_ent 5 [.ref 0, .int k, .int s, .ref 67]) [] h 8 78 (lQ h (sp_vehicle S k s) vI) := by
  obtain ⟨d, rfl⟩ : ∃ e, d = e + 1 := ⟨d - 1, by omega⟩
  show se_W (vG sc) l (d + 1) mL_vehicle 0 [some (.ref 0), some (.int k), some (.int s), some (.ref 67), none] [] h 8 78 _
  refine se_aload_n (pc := 0) rfl dL_vehicle_0 ?_
  refine se_iconst (pc := 1) 0 (by decide) dL_vehicle_1 ?_
  refine se_aload_n (pc := 2) rfl dL_vehicle_2 ?_
  refine se_iload_n (pc := 3) rfl dL_vehicle_3 ?_
  refine se_iload_n (pc := 4) rfl dL_vehicle_4 ?_
  refine se_invVC (pc := 5) (as := [.int k, .int s]) (st := [.int 0, .ref 67]) (vok sc) kC_vehicle dL_vehicle_5 ⟨wd_88, wd_89, wd_90, wd_1⟩ rfl hC.1 rfl (Nat.le_of_ble_eq_true rfl) (Nat.le_of_ble_eq_true rfl) (p_vehicle (by omega) hC hV.1 hV.2.1 hs rfl h68) (C2 := 0) (S2 := 0) (by omega) (by omega) (fun v9 h9 hle9 q9 => ?_) (fun E9 h9 hle9 q9 => ?_)
  · rcases q9 with ⟨e9, e1, e2, e3, e4⟩ | ⟨_, _, _, _, e1, _⟩
    · cases e1
      have ho9 : is_O g9 h9 := (e4 67 (by decide) (by decide)).trans ho
      have hb9 : ∀ v, v < st_nv (st_nV S k s) → 68 ≤ va_up β (st_nv S) h.length v := fun v hv => by
          rw [nV_nv hV.1.2.1] at hv
          simp only [va_up]
          split
          · exact h68
          · exact hβ v (by omega)
      refine se_i2l (pc := 8) dL_vehicle_8 ?_
      refine se_lastN (pc := 9) (j := 0) 2 dL_vehicle_9 rfl ho9 (by decide) (by decide) ?_
      refine se_goto (pc := 10) (tgt := 21) dL_vehicle_10 (by decide) ?_
      refine se_iconst (pc := 21) 0 (by decide) dL_vehicle_21 ?_
      exact se_iret (pc := 22) dL_vehicle_22 rfl (lQ_ok (by rw [e9]) (by rw [e9]; exact e2) (by rw [e9]; exact hb9) hle9 (fun a h1 h2 => e4 a h1 h2) ho9 (by rw [e9]; exact ⟨_, rfl, rfl⟩))
    · cases e1
  · rcases q9 with ⟨_, e1, _⟩ | ⟨E, c, e9, e1, e2, e3⟩
    · cases e1
    · cases e2
      subst e3
      have e0 : (sp_vehicle S k s).1 ≠ 0 := fun q => by obtain ⟨x, hx⟩ := T_vehicle q; rw [e9] at hx; cases hx
      rw [show c = (sp_vehicle S k s).1 by rw [e9]] at e1
      have eN := N_vehicle e0
      obtain ⟨c9, hc9⟩ : ∃ c, (sp_vehicle S k s).1 = c + 1 := ⟨(sp_vehicle S k s).1 - 1, by omega⟩
      rw [hc9] at e1
      rcases c9 with _ | _ | c9
      · have e4 : some "java/lang/IllegalArgumentException" = some E9 := e1
        cases e4
        refine ⟨0, 13, tk0 rfl (by decide) (by decide) wd_86 (List.mem_append_left _ (by decide +kernel)) , fun q8 => ?_⟩
        refine se_astoreR (pc := 13) dL_vehicle_13 (by decide) [some (.ref 0), some (.int k), some (.int s), some (.ref 67), some (.retAddr q8)] rfl ?_
        refine se_iconst (pc := 15) 1 (by decide) dL_vehicle_15 ?_
        exact se_iret (pc := 16) dL_vehicle_16 rfl (lQ_no 0 hc9 eN rfl hC hβ ho)
      · have e4 : some "java/lang/UnsupportedOperationException" = some E9 := e1
        cases e4
        refine ⟨1, 17, tk1 (E0 := "java/lang/IllegalArgumentException") rfl (by decide) (by decide) wd_87 (List.mem_append_left _ (by decide +kernel)) rfl (by decide) wd_86 (List.mem_append_right _ (by decide +kernel)), fun q8 => ?_⟩
        refine se_astoreR (pc := 17) dL_vehicle_17 (by decide) [some (.ref 0), some (.int k), some (.int s), some (.ref 67), some (.retAddr q8)] rfl ?_
        refine se_iconst (pc := 19) 2 (by decide) dL_vehicle_19 ?_
        exact se_iret (pc := 20) dL_vehicle_20 rfl (lQ_no 1 hc9 eN rfl hC hβ ho)
      · simp at e1
set_option maxHeartbeats 1000000 in
set_option maxRecDepth 100000 in
theorem w_list {k i a b g e : Int32} (hd : 10 ≤ d) (hC : is_C 0 β S h) (hβ : ∀ v, v < st_nv S → 68 ≤ β v) (hV : st_V N S) (ho : is_O g9 h) : se_W (vG sc) l d mL_list 0 (se_ent 8 [.ref 0, .int k, .int i, .int a, .int b, .int g, .int e]) [] h 8 78 (lQ h (sp_list S k i a b g e) vU) := by
  obtain ⟨d, rfl⟩ : ∃ e, d = e + 1 := ⟨d - 1, by omega⟩
  show se_W (vG sc) l (d + 1) mL_list 0 [some (.ref 0), some (.int k), some (.int i), some (.int a), some (.int b), some (.int g), some (.int e), none] [] h 8 78 _
  refine se_aload_n (pc := 0) rfl dL_list_0 ?_
  refine se_iload_n (pc := 1) rfl dL_list_1 ?_
  refine se_iload_n (pc := 2) rfl dL_list_2 ?_
  refine se_iload_n (pc := 3) rfl dL_list_3 ?_
  refine se_iload (pc := 4) rfl dL_list_4 ?_
  refine se_iload (pc := 6) rfl dL_list_6 ?_
  refine se_iload (pc := 8) rfl dL_list_8 ?_
  refine se_invVC (pc := 10) (as := [.int k, .int i, .int a, .int b, .int g, .int e]) (st := []) (vok sc) kC_list dL_list_10 ⟨wd_250, wd_251, wd_252, wd_1⟩ rfl hC.1 rfl (Nat.le_of_ble_eq_true rfl) (Nat.le_of_ble_eq_true rfl) (p_list (by omega) hC hV.1 hβ) (C2 := 0) (S2 := 0) (by omega) (by omega) (fun v9 h9 hle9 q9 => ?_) (fun E9 h9 hle9 q9 => ?_)
  · rcases q9 with ⟨e0, e1, e2, e3⟩ | ⟨_, _, _, e1, _⟩
    · rw [T_list e0] at e1
      cases e1
      have ho9 : is_O g9 h9 := (e3.2 67 (by decide) (by decide)).trans ho
      refine se_goto (pc := 13) (tgt := 24) dL_list_13 (by decide) ?_
      refine se_iconst (pc := 24) 0 (by decide) dL_list_24 ?_
      exact se_iret (pc := 25) dL_list_25 rfl (lQ_v e0 e2 (by rw [nv_list]; exact hβ) hle9 e3.2 ho9)
    · cases e1
  · rcases q9 with ⟨_, e1, _⟩ | ⟨E, e0, e1, e2, e3⟩
    · cases e1
    · cases e2
      subst e3
      have eN := N_list e0
      obtain ⟨c9, hc9⟩ : ∃ c, (sp_list S k i a b g e).1 = c + 1 := ⟨(sp_list S k i a b g e).1 - 1, by omega⟩
      rw [hc9] at e1
      rcases c9 with _ | _ | c9
      · have e4 : some "java/lang/IllegalArgumentException" = some E9 := e1
        cases e4
        refine ⟨0, 16, tk0 rfl (by decide) (by decide) wd_86 (List.mem_append_left _ (by decide +kernel)) , fun q8 => ?_⟩
        refine se_astoreR (pc := 16) dL_list_16 (by decide) [some (.ref 0), some (.int k), some (.int i), some (.int a), some (.int b), some (.int g), some (.int e), some (.retAddr q8)] rfl ?_
        refine se_iconst (pc := 18) 1 (by decide) dL_list_18 ?_
        exact se_iret (pc := 19) dL_list_19 rfl (lQ_no 0 hc9 eN rfl hC hβ ho)
      · have e4 : some "java/lang/IndexOutOfBoundsException" = some E9 := e1
        cases e4
        refine ⟨1, 20, tk1 (E0 := "java/lang/IllegalArgumentException") rfl (by decide) (by decide) wd_249 (List.mem_append_left _ (by decide +kernel)) rfl (by decide) wd_86 (List.mem_append_right _ (by decide +kernel)), fun q8 => ?_⟩
        refine se_astoreR (pc := 20) dL_list_20 (by decide) [some (.ref 0), some (.int k), some (.int i), some (.int a), some (.int b), some (.int g), some (.int e), some (.retAddr q8)] rfl ?_
        refine se_iconst (pc := 22) 2 (by decide) dL_list_22 ?_
        exact se_iret (pc := 23) dL_list_23 rfl (lQ_no 1 hc9 eN rfl hC hβ ho)
      · simp at e1
set_option maxHeartbeats 1000000 in
set_option maxRecDepth 100000 in
theorem w_unlist {k i : Int32} (hd : 10 ≤ d) (hC : is_C 0 β S h) (hβ : ∀ v, v < st_nv S → 68 ≤ β v) (hV : st_V N S) (ho : is_O g9 h) : se_W (vG sc) l d mL_unlist 0 (se_ent 4 [.ref 0, .int k, .int i]) [] h 8 78 (lQ h (sp_unlist S k i) vU) := by
  obtain ⟨d, rfl⟩ : ∃ e, d = e + 1 := ⟨d - 1, by omega⟩
  show se_W (vG sc) l (d + 1) mL_unlist 0 [some (.ref 0), some (.int k), some (.int i), none] [] h 8 78 _
  refine se_aload_n (pc := 0) rfl dL_unlist_0 ?_
  refine se_iload_n (pc := 1) rfl dL_unlist_1 ?_
  refine se_iload_n (pc := 2) rfl dL_unlist_2 ?_
  refine se_invVC (pc := 3) (as := [.int k, .int i]) (st := []) (vok sc) kC_unlist dL_unlist_3 ⟨wd_285, wd_286, wd_287, wd_1⟩ rfl hC.1 rfl (Nat.le_of_ble_eq_true rfl) (Nat.le_of_ble_eq_true rfl) (p_unlist (by omega) hC hV.1 hβ) (C2 := 0) (S2 := 0) (by omega) (by omega) (fun v9 h9 hle9 q9 => ?_) (fun E9 h9 hle9 q9 => ?_)
  · rcases q9 with ⟨e0, e1, e2, e3⟩ | ⟨_, _, _, e1, _⟩
    · rw [T_unlist e0] at e1
      cases e1
      have ho9 : is_O g9 h9 := (e3.2 67 (by decide) (by decide)).trans ho
      refine se_goto (pc := 6) (tgt := 15) dL_unlist_6 (by decide) ?_
      refine se_iconst (pc := 15) 0 (by decide) dL_unlist_15 ?_
      exact se_iret (pc := 16) dL_unlist_16 rfl (lQ_v e0 e2 (by rw [nv_unlist]; exact hβ) hle9 e3.2 ho9)
    · cases e1
  · rcases q9 with ⟨_, e1, _⟩ | ⟨E, e0, e1, e2, e3⟩
    · cases e1
    · cases e2
      subst e3
      have eN := N_unlist e0
      obtain ⟨c9, hc9⟩ : ∃ c, (sp_unlist S k i).1 = c + 1 := ⟨(sp_unlist S k i).1 - 1, by omega⟩
      rw [hc9] at e1
      rcases c9 with _ | _ | c9
      · have e4 : some "java/lang/IllegalArgumentException" = some E9 := e1
        cases e4
        refine ⟨0, 9, tk0 rfl (by decide) (by decide) wd_86 (List.mem_append_left _ (by decide +kernel)) , fun q8 => ?_⟩
        refine se_astore_nR (pc := 9) dL_unlist_9 (by decide) [some (.ref 0), some (.int k), some (.int i), some (.retAddr q8)] rfl ?_
        refine se_iconst (pc := 10) 1 (by decide) dL_unlist_10 ?_
        exact se_iret (pc := 11) dL_unlist_11 rfl (lQ_no 0 hc9 eN rfl hC hβ ho)
      · have e4 : some "java/lang/IllegalStateException" = some E9 := e1
        cases e4
        refine ⟨1, 12, tk1 (E0 := "java/lang/IllegalArgumentException") rfl (by decide) (by decide) wd_284 (List.mem_append_left _ (by decide +kernel)) rfl (by decide) wd_86 (List.mem_append_right _ (by decide +kernel)), fun q8 => ?_⟩
        refine se_astore_nR (pc := 12) dL_unlist_12 (by decide) [some (.ref 0), some (.int k), some (.int i), some (.retAddr q8)] rfl ?_
        refine se_iconst (pc := 13) 2 (by decide) dL_unlist_13 ?_
        exact se_iret (pc := 14) dL_unlist_14 rfl (lQ_no 1 hc9 eN rfl hC hβ ho)
      · simp at e1
set_option maxHeartbeats 1000000 in
set_option maxRecDepth 100000 in
theorem w_answer {v i x p : Int32} (hd : 10 ≤ d) (hC : is_C 0 β S h) (hβ : ∀ v, v < st_nv S → 68 ≤ β v) (hV : st_V N S) (ho : is_O g9 h) : se_W (vG sc) l d mL_answer 0 (se_ent 7 [.ref 0, .int v, .int i, .int x, .int p, .ref 67]) [] h 8 78 (lQ h (sp_answer S v i x p) vB) := by
  obtain ⟨d, rfl⟩ : ∃ e, d = e + 1 := ⟨d - 1, by omega⟩
  show se_W (vG sc) l (d + 1) mL_answer 0 [some (.ref 0), some (.int v), some (.int i), some (.int x), some (.int p), some (.ref 67), none] [] h 8 78 _
  refine se_aload (pc := 0) rfl dL_answer_0 ?_
  refine se_iconst (pc := 2) 0 (by decide) dL_answer_2 ?_
  refine se_aload_n (pc := 3) rfl dL_answer_3 ?_
  refine se_iload_n (pc := 4) rfl dL_answer_4 ?_
  refine se_iload_n (pc := 5) rfl dL_answer_5 ?_
  refine se_iload_n (pc := 6) rfl dL_answer_6 ?_
  refine se_iload (pc := 7) rfl dL_answer_7 ?_
  refine se_invVC (pc := 9) (as := [.int v, .int i, .int x, .int p]) (st := [.int 0, .ref 67]) (vok sc) kC_answer dL_answer_9 ⟨wd_311, wd_312, wd_313, wd_1⟩ rfl hC.1 rfl (Nat.le_of_ble_eq_true rfl) (Nat.le_of_ble_eq_true rfl) (p_answer (by omega) hC hV.1 hβ) (C2 := 0) (S2 := 0) (by omega) (by omega) (fun v9 h9 hle9 q9 => ?_) (fun E9 h9 hle9 q9 => ?_)
  · rcases q9 with ⟨e0, e1, e2, e3⟩ | ⟨_, _, _, e1, _⟩
    · obtain ⟨x9, hx9⟩ := T_answer e0
      rw [hx9] at e1
      cases e1
      have ho9 : is_O g9 h9 := (e3.2 67 (by decide) (by decide)).trans ho
      refine se_if_eq (pc := 12) (tgt := 19) dL_answer_12 (by decide) (fun q1 => ?_) (fun q1 => ?_)
      · refine se_lconst (pc := 19) 0 (by decide) dL_answer_19 ?_
        refine se_lastN (pc := 20) (j := 0) 2 dL_answer_20 rfl ho9 (by decide) (by decide) ?_
        refine se_goto (pc := 21) (tgt := 36) dL_answer_21 (by decide) ?_
        refine se_iconst (pc := 36) 0 (by decide) dL_answer_36 ?_
        exact se_iret (pc := 37) dL_answer_37 rfl (lQ_ok e0 e2 (by rw [nv_answer]; exact hβ) hle9 e3.2 ho9 ⟨x9, hx9, by simp_all⟩)
      · refine se_lconst (pc := 15) 1 (by decide) dL_answer_15 ?_
        refine se_goto (pc := 16) (tgt := 20) dL_answer_16 (by decide) ?_
        refine se_lastN (pc := 20) (j := 0) 2 dL_answer_20 rfl ho9 (by decide) (by decide) ?_
        refine se_goto (pc := 21) (tgt := 36) dL_answer_21 (by decide) ?_
        refine se_iconst (pc := 36) 0 (by decide) dL_answer_36 ?_
        exact se_iret (pc := 37) dL_answer_37 rfl (lQ_ok e0 e2 (by rw [nv_answer]; exact hβ) hle9 e3.2 ho9 ⟨x9, hx9, by simp_all⟩)
    · cases e1
  · rcases q9 with ⟨_, e1, _⟩ | ⟨E, e0, e1, e2, e3⟩
    · cases e1
    · cases e2
      subst e3
      have eN := N_answer e0
      obtain ⟨c9, hc9⟩ : ∃ c, (sp_answer S v i x p).1 = c + 1 := ⟨(sp_answer S v i x p).1 - 1, by omega⟩
      rw [hc9] at e1
      rcases c9 with _ | _ | _ | c9
      · have e4 : some "java/lang/IllegalArgumentException" = some E9 := e1
        cases e4
        refine ⟨0, 24, tk0 rfl (by decide) (by decide) wd_86 (List.mem_append_left _ (by decide +kernel)) , fun q8 => ?_⟩
        refine se_astoreR (pc := 24) dL_answer_24 (by decide) [some (.ref 0), some (.int v), some (.int i), some (.int x), some (.int p), some (.ref 67), some (.retAddr q8)] rfl ?_
        refine se_iconst (pc := 26) 1 (by decide) dL_answer_26 ?_
        exact se_iret (pc := 27) dL_answer_27 rfl (lQ_no 0 hc9 eN rfl hC hβ ho)
      · have e4 : some "java/lang/IndexOutOfBoundsException" = some E9 := e1
        cases e4
        refine ⟨1, 28, tk1 (E0 := "java/lang/IllegalArgumentException") rfl (by decide) (by decide) wd_249 (List.mem_append_left _ (by decide +kernel)) rfl (by decide) wd_86 (List.mem_append_right _ (by decide +kernel)), fun q8 => ?_⟩
        refine se_astoreR (pc := 28) dL_answer_28 (by decide) [some (.ref 0), some (.int v), some (.int i), some (.int x), some (.int p), some (.ref 67), some (.retAddr q8)] rfl ?_
        refine se_iconst (pc := 30) 2 (by decide) dL_answer_30 ?_
        exact se_iret (pc := 31) dL_answer_31 rfl (lQ_no 1 hc9 eN rfl hC hβ ho)
      · have e4 : some "java/lang/IllegalStateException" = some E9 := e1
        cases e4
        refine ⟨2, 32, tk2 (E0 := "java/lang/IllegalArgumentException") (E1 := "java/lang/IndexOutOfBoundsException") rfl (by decide) (by decide) wd_284 (List.mem_append_left _ (by decide +kernel)) rfl (by decide) wd_86 (List.mem_append_right _ (by decide +kernel)) rfl (by decide) wd_249 (List.mem_append_right _ (by decide +kernel)), fun q8 => ?_⟩
        refine se_astoreR (pc := 32) dL_answer_32 (by decide) [some (.ref 0), some (.int v), some (.int i), some (.int x), some (.int p), some (.ref 67), some (.retAddr q8)] rfl ?_
        refine se_iconst (pc := 34) 3 (by decide) dL_answer_34 ?_
        exact se_iret (pc := 35) dL_answer_35 rfl (lQ_no 2 hc9 eN rfl hC hβ ho)
      · simp at e1
set_option maxHeartbeats 1000000 in
set_option maxRecDepth 100000 in
theorem w_item {v i w : Int32} (hd : 10 ≤ d) (hC : is_C 0 β S h) (hβ : ∀ v, v < st_nv S → 68 ≤ β v) (hV : st_V N S) (ho : is_O g9 h) : se_W (vG sc) l d mL_item 0 (se_ent 6 [.ref 0, .int v, .int i, .int w, .ref 67]) [] h 8 78 (lQ h (sp_item S v i w) vI) := by
  obtain ⟨d, rfl⟩ : ∃ e, d = e + 1 := ⟨d - 1, by omega⟩
  show se_W (vG sc) l (d + 1) mL_item 0 [some (.ref 0), some (.int v), some (.int i), some (.int w), some (.ref 67), none] [] h 8 78 _
  refine se_aload (pc := 0) rfl dL_item_0 ?_
  refine se_iconst (pc := 2) 0 (by decide) dL_item_2 ?_
  refine se_aload_n (pc := 3) rfl dL_item_3 ?_
  refine se_iload_n (pc := 4) rfl dL_item_4 ?_
  refine se_iload_n (pc := 5) rfl dL_item_5 ?_
  refine se_iload_n (pc := 6) rfl dL_item_6 ?_
  refine se_invVC (pc := 7) (as := [.int v, .int i, .int w]) (st := [.int 0, .ref 67]) (vok sc) kC_item dL_item_7 ⟨wd_337, wd_338, wd_339, wd_1⟩ rfl hC.1 rfl (Nat.le_of_ble_eq_true rfl) (Nat.le_of_ble_eq_true rfl) (p_item (by omega) hC hV.1 hβ) (C2 := 0) (S2 := 0) (by omega) (by omega) (fun v9 h9 hle9 q9 => ?_) (fun E9 h9 hle9 q9 => ?_)
  · rcases q9 with ⟨e0, e1, e2, e3⟩ | ⟨_, _, _, e1, _⟩
    · obtain ⟨x9, hx9⟩ := T_item e0
      rw [hx9] at e1
      cases e1
      have ho9 : is_O g9 h9 := (e3.2 67 (by decide) (by decide)).trans ho
      refine se_i2l (pc := 10) dL_item_10 ?_
      refine se_lastN (pc := 11) (j := 0) 2 dL_item_11 rfl ho9 (by decide) (by decide) ?_
      refine se_goto (pc := 12) (tgt := 19) dL_item_12 (by decide) ?_
      refine se_iconst (pc := 19) 0 (by decide) dL_item_19 ?_
      exact se_iret (pc := 20) dL_item_20 rfl (lQ_ok e0 e2 (by rw [nv_item]; exact hβ) hle9 e3.2 ho9 ⟨x9, hx9, rfl⟩)
    · cases e1
  · rcases q9 with ⟨_, e1, _⟩ | ⟨E, e0, e1, e2, e3⟩
    · cases e1
    · cases e2
      subst e3
      have eN := N_item e0
      obtain ⟨c9, hc9⟩ : ∃ c, (sp_item S v i w).1 = c + 1 := ⟨(sp_item S v i w).1 - 1, by omega⟩
      rw [hc9] at e1
      rcases c9 with _ | c9
      · have e4 : some "java/lang/IllegalArgumentException" = some E9 := e1
        cases e4
        refine ⟨0, 15, tk0 rfl (by decide) (by decide) wd_86 (List.mem_append_left _ (by decide +kernel)) , fun q8 => ?_⟩
        refine se_astoreR (pc := 15) dL_item_15 (by decide) [some (.ref 0), some (.int v), some (.int i), some (.int w), some (.ref 67), some (.retAddr q8)] rfl ?_
        refine se_iconst (pc := 17) 1 (by decide) dL_item_17 ?_
        exact se_iret (pc := 18) dL_item_18 rfl (lQ_no 0 hc9 eN rfl hC hβ ho)
      · simp at e1
set_option maxHeartbeats 1000000 in
set_option maxRecDepth 100000 in
theorem w_use {v k : Int32} (hd : 10 ≤ d) (hC : is_C 0 β S h) (hβ : ∀ v, v < st_nv S → 68 ≤ β v) (hV : st_V N S) (ho : is_O g9 h) : se_W (vG sc) l d mL_use 0 (se_ent 5 [.ref 0, .int v, .int k, .ref 67]) [] h 8 78 (lQ h (sp_use S v k) vB) := by
  obtain ⟨d, rfl⟩ : ∃ e, d = e + 1 := ⟨d - 1, by omega⟩
  show se_W (vG sc) l (d + 1) mL_use 0 [some (.ref 0), some (.int v), some (.int k), some (.ref 67), none] [] h 8 78 _
  refine se_aload_n (pc := 0) rfl dL_use_0 ?_
  refine se_iconst (pc := 1) 0 (by decide) dL_use_1 ?_
  refine se_aload_n (pc := 2) rfl dL_use_2 ?_
  refine se_iload_n (pc := 3) rfl dL_use_3 ?_
  refine se_iload_n (pc := 4) rfl dL_use_4 ?_
  refine se_invVC (pc := 5) (as := [.int v, .int k]) (st := [.int 0, .ref 67]) (vok sc) kC_use dL_use_5 ⟨wd_357, wd_358, wd_359, wd_1⟩ rfl hC.1 rfl (Nat.le_of_ble_eq_true rfl) (Nat.le_of_ble_eq_true rfl) (p_use (by omega) hC hV.1 hβ) (C2 := 0) (S2 := 0) (by omega) (by omega) (fun v9 h9 hle9 q9 => ?_) (fun E9 h9 hle9 q9 => ?_)
  · rcases q9 with ⟨e0, e1, e2, e3⟩ | ⟨_, _, _, e1, _⟩
    · obtain ⟨x9, hx9⟩ := T_use e0
      rw [hx9] at e1
      cases e1
      have ho9 : is_O g9 h9 := (e3.2 67 (by decide) (by decide)).trans ho
      refine se_if_eq (pc := 8) (tgt := 15) dL_use_8 (by decide) (fun q1 => ?_) (fun q1 => ?_)
      · refine se_lconst (pc := 15) 0 (by decide) dL_use_15 ?_
        refine se_lastN (pc := 16) (j := 0) 2 dL_use_16 rfl ho9 (by decide) (by decide) ?_
        refine se_goto (pc := 17) (tgt := 32) dL_use_17 (by decide) ?_
        refine se_iconst (pc := 32) 0 (by decide) dL_use_32 ?_
        exact se_iret (pc := 33) dL_use_33 rfl (lQ_ok e0 e2 (by rw [nv_use]; exact hβ) hle9 e3.2 ho9 ⟨x9, hx9, by simp_all⟩)
      · refine se_lconst (pc := 11) 1 (by decide) dL_use_11 ?_
        refine se_goto (pc := 12) (tgt := 16) dL_use_12 (by decide) ?_
        refine se_lastN (pc := 16) (j := 0) 2 dL_use_16 rfl ho9 (by decide) (by decide) ?_
        refine se_goto (pc := 17) (tgt := 32) dL_use_17 (by decide) ?_
        refine se_iconst (pc := 32) 0 (by decide) dL_use_32 ?_
        exact se_iret (pc := 33) dL_use_33 rfl (lQ_ok e0 e2 (by rw [nv_use]; exact hβ) hle9 e3.2 ho9 ⟨x9, hx9, by simp_all⟩)
    · cases e1
  · rcases q9 with ⟨_, e1, _⟩ | ⟨E, e0, e1, e2, e3⟩
    · cases e1
    · cases e2
      subst e3
      have eN := N_use e0
      obtain ⟨c9, hc9⟩ : ∃ c, (sp_use S v k).1 = c + 1 := ⟨(sp_use S v k).1 - 1, by omega⟩
      rw [hc9] at e1
      rcases c9 with _ | _ | _ | c9
      · have e4 : some "java/lang/IllegalArgumentException" = some E9 := e1
        cases e4
        refine ⟨0, 20, tk0 rfl (by decide) (by decide) wd_86 (List.mem_append_left _ (by decide +kernel)) , fun q8 => ?_⟩
        refine se_astoreR (pc := 20) dL_use_20 (by decide) [some (.ref 0), some (.int v), some (.int k), some (.ref 67), some (.retAddr q8)] rfl ?_
        refine se_iconst (pc := 22) 1 (by decide) dL_use_22 ?_
        exact se_iret (pc := 23) dL_use_23 rfl (lQ_no 0 hc9 eN rfl hC hβ ho)
      · have e4 : some "java/lang/IndexOutOfBoundsException" = some E9 := e1
        cases e4
        refine ⟨1, 24, tk1 (E0 := "java/lang/IllegalArgumentException") rfl (by decide) (by decide) wd_249 (List.mem_append_left _ (by decide +kernel)) rfl (by decide) wd_86 (List.mem_append_right _ (by decide +kernel)), fun q8 => ?_⟩
        refine se_astoreR (pc := 24) dL_use_24 (by decide) [some (.ref 0), some (.int v), some (.int k), some (.ref 67), some (.retAddr q8)] rfl ?_
        refine se_iconst (pc := 26) 2 (by decide) dL_use_26 ?_
        exact se_iret (pc := 27) dL_use_27 rfl (lQ_no 1 hc9 eN rfl hC hβ ho)
      · have e4 : some "java/lang/IllegalStateException" = some E9 := e1
        cases e4
        refine ⟨2, 28, tk2 (E0 := "java/lang/IllegalArgumentException") (E1 := "java/lang/IndexOutOfBoundsException") rfl (by decide) (by decide) wd_284 (List.mem_append_left _ (by decide +kernel)) rfl (by decide) wd_86 (List.mem_append_right _ (by decide +kernel)) rfl (by decide) wd_249 (List.mem_append_right _ (by decide +kernel)), fun q8 => ?_⟩
        refine se_astoreR (pc := 28) dL_use_28 (by decide) [some (.ref 0), some (.int v), some (.int k), some (.ref 67), some (.retAddr q8)] rfl ?_
        refine se_iconst (pc := 30) 3 (by decide) dL_use_30 ?_
        exact se_iret (pc := 31) dL_use_31 rfl (lQ_no 2 hc9 eN rfl hC hβ ho)
      · simp at e1
set_option maxHeartbeats 1000000 in
set_option maxRecDepth 100000 in
theorem w_runs {v : Int32} (hd : 10 ≤ d) (hC : is_C 0 β S h) (hβ : ∀ v, v < st_nv S → 68 ≤ β v) (hV : st_V N S) (ho : is_O g9 h) : se_W (vG sc) l d mL_runs 0 (se_ent 4 [.ref 0, .int v, .ref 67]) [] h 8 78 (lQ h (sp_runs S v) vB) := by
  obtain ⟨d, rfl⟩ : ∃ e, d = e + 1 := ⟨d - 1, by omega⟩
  show se_W (vG sc) l (d + 1) mL_runs 0 [some (.ref 0), some (.int v), some (.ref 67), none] [] h 8 78 _
  refine se_aload_n (pc := 0) rfl dL_runs_0 ?_
  refine se_iconst (pc := 1) 0 (by decide) dL_runs_1 ?_
  refine se_aload_n (pc := 2) rfl dL_runs_2 ?_
  refine se_iload_n (pc := 3) rfl dL_runs_3 ?_
  refine se_invVC (pc := 4) (as := [.int v]) (st := [.int 0, .ref 67]) (vok sc) kC_runs dL_runs_4 ⟨wd_388, wd_389, wd_390, wd_1⟩ rfl hC.1 rfl (Nat.le_of_ble_eq_true rfl) (Nat.le_of_ble_eq_true rfl) (p_runs (by omega) hC hV.1 hβ) (C2 := 0) (S2 := 0) (by omega) (by omega) (fun v9 h9 hle9 q9 => ?_) (fun E9 h9 hle9 q9 => ?_)
  · rcases q9 with ⟨e0, e1, e2, e3⟩ | ⟨_, _, _, e1, _⟩
    · obtain ⟨x9, hx9⟩ := T_runs e0
      rw [hx9] at e1
      cases e1
      have ho9 : is_O g9 h9 := (e3.2 67 (by decide) (by decide)).trans ho
      refine se_if_eq (pc := 7) (tgt := 14) dL_runs_7 (by decide) (fun q1 => ?_) (fun q1 => ?_)
      · refine se_lconst (pc := 14) 0 (by decide) dL_runs_14 ?_
        refine se_lastN (pc := 15) (j := 0) 2 dL_runs_15 rfl ho9 (by decide) (by decide) ?_
        refine se_goto (pc := 16) (tgt := 22) dL_runs_16 (by decide) ?_
        refine se_iconst (pc := 22) 0 (by decide) dL_runs_22 ?_
        exact se_iret (pc := 23) dL_runs_23 rfl (lQ_ok e0 e2 (by rw [nv_runs]; exact hβ) hle9 e3.2 ho9 ⟨x9, hx9, by simp_all⟩)
      · refine se_lconst (pc := 10) 1 (by decide) dL_runs_10 ?_
        refine se_goto (pc := 11) (tgt := 15) dL_runs_11 (by decide) ?_
        refine se_lastN (pc := 15) (j := 0) 2 dL_runs_15 rfl ho9 (by decide) (by decide) ?_
        refine se_goto (pc := 16) (tgt := 22) dL_runs_16 (by decide) ?_
        refine se_iconst (pc := 22) 0 (by decide) dL_runs_22 ?_
        exact se_iret (pc := 23) dL_runs_23 rfl (lQ_ok e0 e2 (by rw [nv_runs]; exact hβ) hle9 e3.2 ho9 ⟨x9, hx9, by simp_all⟩)
    · cases e1
  · rcases q9 with ⟨_, e1, _⟩ | ⟨E, e0, e1, e2, e3⟩
    · cases e1
    · cases e2
      subst e3
      have eN := N_runs e0
      obtain ⟨c9, hc9⟩ : ∃ c, (sp_runs S v).1 = c + 1 := ⟨(sp_runs S v).1 - 1, by omega⟩
      rw [hc9] at e1
      rcases c9 with _ | c9
      · have e4 : some "java/lang/IllegalArgumentException" = some E9 := e1
        cases e4
        refine ⟨0, 19, tk0 rfl (by decide) (by decide) wd_86 (List.mem_append_left _ (by decide +kernel)) , fun q8 => ?_⟩
        refine se_astore_nR (pc := 19) dL_runs_19 (by decide) [some (.ref 0), some (.int v), some (.ref 67), some (.retAddr q8)] rfl ?_
        refine se_iconst (pc := 20) 1 (by decide) dL_runs_20 ?_
        exact se_iret (pc := 21) dL_runs_21 rfl (lQ_no 0 hc9 eN rfl hC hβ ho)
      · simp at e1
set_option maxHeartbeats 1000000 in
set_option maxRecDepth 100000 in
theorem w_reason {v i : Int32} (hd : 10 ≤ d) (hC : is_C 0 β S h) (hβ : ∀ v, v < st_nv S → 68 ≤ β v) (hV : st_V N S) (ho : is_O g9 h) : se_W (vG sc) l d mL_reason 0 (se_ent 5 [.ref 0, .int v, .int i, .ref 67]) [] h 8 78 (lQ h (sp_reason S v i) vI) := by
  obtain ⟨d, rfl⟩ : ∃ e, d = e + 1 := ⟨d - 1, by omega⟩
  show se_W (vG sc) l (d + 1) mL_reason 0 [some (.ref 0), some (.int v), some (.int i), some (.ref 67), none] [] h 8 78 _
  refine se_aload_n (pc := 0) rfl dL_reason_0 ?_
  refine se_iconst (pc := 1) 0 (by decide) dL_reason_1 ?_
  refine se_aload_n (pc := 2) rfl dL_reason_2 ?_
  refine se_iload_n (pc := 3) rfl dL_reason_3 ?_
  refine se_iload_n (pc := 4) rfl dL_reason_4 ?_
  refine se_invVC (pc := 5) (as := [.int v, .int i]) (st := [.int 0, .ref 67]) (vok sc) kC_reason dL_reason_5 ⟨wd_395, wd_396, wd_397, wd_1⟩ rfl hC.1 rfl (Nat.le_of_ble_eq_true rfl) (Nat.le_of_ble_eq_true rfl) (p_reason (by omega) hC hV.1 hβ) (C2 := 0) (S2 := 0) (by omega) (by omega) (fun v9 h9 hle9 q9 => ?_) (fun E9 h9 hle9 q9 => ?_)
  · rcases q9 with ⟨e0, e1, e2, e3⟩ | ⟨_, _, _, e1, _⟩
    · obtain ⟨x9, hx9⟩ := T_reason e0
      rw [hx9] at e1
      cases e1
      have ho9 : is_O g9 h9 := (e3.2 67 (by decide) (by decide)).trans ho
      refine se_i2l (pc := 8) dL_reason_8 ?_
      refine se_lastN (pc := 9) (j := 0) 2 dL_reason_9 rfl ho9 (by decide) (by decide) ?_
      refine se_goto (pc := 10) (tgt := 21) dL_reason_10 (by decide) ?_
      refine se_iconst (pc := 21) 0 (by decide) dL_reason_21 ?_
      exact se_iret (pc := 22) dL_reason_22 rfl (lQ_ok e0 e2 (by rw [nv_reason]; exact hβ) hle9 e3.2 ho9 ⟨x9, hx9, rfl⟩)
    · cases e1
  · rcases q9 with ⟨_, e1, _⟩ | ⟨E, e0, e1, e2, e3⟩
    · cases e1
    · cases e2
      subst e3
      have eN := N_reason e0
      obtain ⟨c9, hc9⟩ : ∃ c, (sp_reason S v i).1 = c + 1 := ⟨(sp_reason S v i).1 - 1, by omega⟩
      rw [hc9] at e1
      rcases c9 with _ | _ | c9
      · have e4 : some "java/lang/IllegalArgumentException" = some E9 := e1
        cases e4
        refine ⟨0, 13, tk0 rfl (by decide) (by decide) wd_86 (List.mem_append_left _ (by decide +kernel)) , fun q8 => ?_⟩
        refine se_astoreR (pc := 13) dL_reason_13 (by decide) [some (.ref 0), some (.int v), some (.int i), some (.ref 67), some (.retAddr q8)] rfl ?_
        refine se_iconst (pc := 15) 1 (by decide) dL_reason_15 ?_
        exact se_iret (pc := 16) dL_reason_16 rfl (lQ_no 0 hc9 eN rfl hC hβ ho)
      · have e4 : some "java/lang/IndexOutOfBoundsException" = some E9 := e1
        cases e4
        refine ⟨1, 17, tk1 (E0 := "java/lang/IllegalArgumentException") rfl (by decide) (by decide) wd_249 (List.mem_append_left _ (by decide +kernel)) rfl (by decide) wd_86 (List.mem_append_right _ (by decide +kernel)), fun q8 => ?_⟩
        refine se_astoreR (pc := 17) dL_reason_17 (by decide) [some (.ref 0), some (.int v), some (.int i), some (.ref 67), some (.retAddr q8)] rfl ?_
        refine se_iconst (pc := 19) 2 (by decide) dL_reason_19 ?_
        exact se_iret (pc := 20) dL_reason_20 rfl (lQ_no 1 hc9 eN rfl hC hβ ho)
      · simp at e1
set_option maxHeartbeats 1000000 in
set_option maxRecDepth 100000 in
theorem w_off {v b p q : Int32} (hd : 10 ≤ d) (hC : is_C 0 β S h) (hβ : ∀ v, v < st_nv S → 68 ≤ β v) (hV : st_V N S) (ho : is_O g9 h) (hb : b = 0 ∨ b = 1) : se_W (vG sc) l d mL_off 0 (se_ent 6 [.ref 0, .int v, .int b, .int p, .int q]) [] h 8 78 (lQ h (sp_off S v b p q) vU) := by
  obtain ⟨d, rfl⟩ : ∃ e, d = e + 1 := ⟨d - 1, by omega⟩
  show se_W (vG sc) l (d + 1) mL_off 0 [some (.ref 0), some (.int v), some (.int b), some (.int p), some (.int q), none] [] h 8 78 _
  refine se_aload_n (pc := 0) rfl dL_off_0 ?_
  refine se_iload_n (pc := 1) rfl dL_off_1 ?_
  refine se_iload_n (pc := 2) rfl dL_off_2 ?_
  refine se_iload_n (pc := 3) rfl dL_off_3 ?_
  refine se_iload (pc := 4) rfl dL_off_4 ?_
  refine se_invVC (pc := 6) (as := [.int v, .int b, .int p, .int q]) (st := []) (vok sc) kC_off dL_off_6 ⟨wd_410, wd_411, wd_412, wd_1⟩ rfl hC.1 rfl (Nat.le_of_ble_eq_true rfl) (Nat.le_of_ble_eq_true rfl) (p_off (by omega) hC hV.1 hβ hb) (C2 := 0) (S2 := 0) (by omega) (by omega) (fun v9 h9 hle9 q9 => ?_) (fun E9 h9 hle9 q9 => ?_)
  · rcases q9 with ⟨e0, e1, e2, e3⟩ | ⟨_, _, _, e1, _⟩
    · rw [T_off e0] at e1
      cases e1
      have ho9 : is_O g9 h9 := (e3.2 67 (by decide) (by decide)).trans ho
      refine se_goto (pc := 9) (tgt := 20) dL_off_9 (by decide) ?_
      refine se_iconst (pc := 20) 0 (by decide) dL_off_20 ?_
      exact se_iret (pc := 21) dL_off_21 rfl (lQ_v e0 e2 (by rw [nv_off]; exact hβ) hle9 e3.2 ho9)
    · cases e1
  · rcases q9 with ⟨_, e1, _⟩ | ⟨E, e0, e1, e2, e3⟩
    · cases e1
    · cases e2
      subst e3
      have eN := N_off e0
      obtain ⟨c9, hc9⟩ : ∃ c, (sp_off S v b p q).1 = c + 1 := ⟨(sp_off S v b p q).1 - 1, by omega⟩
      rw [hc9] at e1
      rcases c9 with _ | _ | c9
      · have e4 : some "java/lang/IllegalArgumentException" = some E9 := e1
        cases e4
        refine ⟨0, 12, tk0 rfl (by decide) (by decide) wd_86 (List.mem_append_left _ (by decide +kernel)) , fun q8 => ?_⟩
        refine se_astoreR (pc := 12) dL_off_12 (by decide) [some (.ref 0), some (.int v), some (.int b), some (.int p), some (.int q), some (.retAddr q8)] rfl ?_
        refine se_iconst (pc := 14) 1 (by decide) dL_off_14 ?_
        exact se_iret (pc := 15) dL_off_15 rfl (lQ_no 0 hc9 eN rfl hC hβ ho)
      · have e4 : some "java/lang/IllegalStateException" = some E9 := e1
        cases e4
        refine ⟨1, 16, tk1 (E0 := "java/lang/IllegalArgumentException") rfl (by decide) (by decide) wd_284 (List.mem_append_left _ (by decide +kernel)) rfl (by decide) wd_86 (List.mem_append_right _ (by decide +kernel)), fun q8 => ?_⟩
        refine se_astoreR (pc := 16) dL_off_16 (by decide) [some (.ref 0), some (.int v), some (.int b), some (.int p), some (.int q), some (.retAddr q8)] rfl ?_
        refine se_iconst (pc := 18) 2 (by decide) dL_off_18 ?_
        exact se_iret (pc := 19) dL_off_19 rfl (lQ_no 1 hc9 eN rfl hC hβ ho)
      · simp at e1
set_option maxHeartbeats 1000000 in
set_option maxRecDepth 100000 in
theorem w_damage {v g : Int32} (hd : 10 ≤ d) (hC : is_C 0 β S h) (hβ : ∀ v, v < st_nv S → 68 ≤ β v) (hV : st_V N S) (ho : is_O g9 h) : se_W (vG sc) l d mL_damage 0 (se_ent 5 [.ref 0, .int v, .int g, .ref 67]) [] h 8 78 (lQ h (sp_damage S v g) vI) := by
  obtain ⟨d, rfl⟩ : ∃ e, d = e + 1 := ⟨d - 1, by omega⟩
  show se_W (vG sc) l (d + 1) mL_damage 0 [some (.ref 0), some (.int v), some (.int g), some (.ref 67), none] [] h 8 78 _
  refine se_aload_n (pc := 0) rfl dL_damage_0 ?_
  refine se_iconst (pc := 1) 0 (by decide) dL_damage_1 ?_
  refine se_aload_n (pc := 2) rfl dL_damage_2 ?_
  refine se_iload_n (pc := 3) rfl dL_damage_3 ?_
  refine se_iload_n (pc := 4) rfl dL_damage_4 ?_
  refine se_invVC (pc := 5) (as := [.int v, .int g]) (st := [.int 0, .ref 67]) (vok sc) kC_damage dL_damage_5 ⟨wd_419, wd_420, wd_421, wd_1⟩ rfl hC.1 rfl (Nat.le_of_ble_eq_true rfl) (Nat.le_of_ble_eq_true rfl) (p_damage (by omega) hC hV.1 hβ) (C2 := 0) (S2 := 0) (by omega) (by omega) (fun v9 h9 hle9 q9 => ?_) (fun E9 h9 hle9 q9 => ?_)
  · rcases q9 with ⟨e0, e1, e2, e3⟩ | ⟨_, _, _, e1, _⟩
    · obtain ⟨x9, hx9⟩ := T_damage e0
      rw [hx9] at e1
      cases e1
      have ho9 : is_O g9 h9 := (e3.2 67 (by decide) (by decide)).trans ho
      refine se_i2l (pc := 8) dL_damage_8 ?_
      refine se_lastN (pc := 9) (j := 0) 2 dL_damage_9 rfl ho9 (by decide) (by decide) ?_
      refine se_goto (pc := 10) (tgt := 25) dL_damage_10 (by decide) ?_
      refine se_iconst (pc := 25) 0 (by decide) dL_damage_25 ?_
      exact se_iret (pc := 26) dL_damage_26 rfl (lQ_ok e0 e2 (by rw [nv_damage]; exact hβ) hle9 e3.2 ho9 ⟨x9, hx9, rfl⟩)
    · cases e1
  · rcases q9 with ⟨_, e1, _⟩ | ⟨E, e0, e1, e2, e3⟩
    · cases e1
    · cases e2
      subst e3
      have eN := N_damage e0
      obtain ⟨c9, hc9⟩ : ∃ c, (sp_damage S v g).1 = c + 1 := ⟨(sp_damage S v g).1 - 1, by omega⟩
      rw [hc9] at e1
      rcases c9 with _ | _ | _ | c9
      · have e4 : some "java/lang/IllegalArgumentException" = some E9 := e1
        cases e4
        refine ⟨0, 13, tk0 rfl (by decide) (by decide) wd_86 (List.mem_append_left _ (by decide +kernel)) , fun q8 => ?_⟩
        refine se_astoreR (pc := 13) dL_damage_13 (by decide) [some (.ref 0), some (.int v), some (.int g), some (.ref 67), some (.retAddr q8)] rfl ?_
        refine se_iconst (pc := 15) 1 (by decide) dL_damage_15 ?_
        exact se_iret (pc := 16) dL_damage_16 rfl (lQ_no 0 hc9 eN rfl hC hβ ho)
      · have e4 : some "java/lang/IndexOutOfBoundsException" = some E9 := e1
        cases e4
        refine ⟨1, 17, tk1 (E0 := "java/lang/IllegalArgumentException") rfl (by decide) (by decide) wd_249 (List.mem_append_left _ (by decide +kernel)) rfl (by decide) wd_86 (List.mem_append_right _ (by decide +kernel)), fun q8 => ?_⟩
        refine se_astoreR (pc := 17) dL_damage_17 (by decide) [some (.ref 0), some (.int v), some (.int g), some (.ref 67), some (.retAddr q8)] rfl ?_
        refine se_iconst (pc := 19) 2 (by decide) dL_damage_19 ?_
        exact se_iret (pc := 20) dL_damage_20 rfl (lQ_no 1 hc9 eN rfl hC hβ ho)
      · have e4 : some "java/lang/UnsupportedOperationException" = some E9 := e1
        cases e4
        refine ⟨2, 21, tk2 (E0 := "java/lang/IllegalArgumentException") (E1 := "java/lang/IndexOutOfBoundsException") rfl (by decide) (by decide) wd_87 (List.mem_append_left _ (by decide +kernel)) rfl (by decide) wd_86 (List.mem_append_right _ (by decide +kernel)) rfl (by decide) wd_249 (List.mem_append_right _ (by decide +kernel)), fun q8 => ?_⟩
        refine se_astoreR (pc := 21) dL_damage_21 (by decide) [some (.ref 0), some (.int v), some (.int g), some (.ref 67), some (.retAddr q8)] rfl ?_
        refine se_iconst (pc := 23) 3 (by decide) dL_damage_23 ?_
        exact se_iret (pc := 24) dL_damage_24 rfl (lQ_no 2 hc9 eN rfl hC hβ ho)
      · simp at e1
set_option maxHeartbeats 1000000 in
set_option maxRecDepth 100000 in
theorem w_proof {e p : Int32} (hd : 10 ≤ d) (hC : is_C 0 β S h) (hβ : ∀ v, v < st_nv S → 68 ≤ β v) (hV : st_V N S) (ho : is_O g9 h) : se_W (vG sc) l d mL_proof 0 (se_ent 4 [.ref 0, .int e, .int p]) [] h 8 78 (lQ h (sp_proof S e p) vU) := by
  obtain ⟨d, rfl⟩ : ∃ e, d = e + 1 := ⟨d - 1, by omega⟩
  show se_W (vG sc) l (d + 1) mL_proof 0 [some (.ref 0), some (.int e), some (.int p), none] [] h 8 78 _
  refine se_aload_n (pc := 0) rfl dL_proof_0 ?_
  refine se_iload_n (pc := 1) rfl dL_proof_1 ?_
  refine se_iload_n (pc := 2) rfl dL_proof_2 ?_
  refine se_invVC (pc := 3) (as := [.int e, .int p]) (st := []) (vok sc) kC_proof dL_proof_3 ⟨wd_427, wd_428, wd_429, wd_1⟩ rfl hC.1 rfl (Nat.le_of_ble_eq_true rfl) (Nat.le_of_ble_eq_true rfl) (p_proof (by omega) hC hV.1 hβ) (C2 := 0) (S2 := 0) (by omega) (by omega) (fun v9 h9 hle9 q9 => ?_) (fun E9 h9 hle9 q9 => ?_)
  · rcases q9 with ⟨e0, e1, e2, e3⟩ | ⟨_, _, _, e1, _⟩
    · rw [T_proof e0] at e1
      cases e1
      have ho9 : is_O g9 h9 := (e3.2 67 (by decide) (by decide)).trans ho
      refine se_goto (pc := 6) (tgt := 18) dL_proof_6 (by decide) ?_
      refine se_iconst (pc := 18) 0 (by decide) dL_proof_18 ?_
      exact se_iret (pc := 19) dL_proof_19 rfl (lQ_v e0 e2 (by rw [nv_proof]; exact hβ) hle9 e3.2 ho9)
    · cases e1
  · rcases q9 with ⟨_, e1, _⟩ | ⟨E, e0, e1, e2, e3⟩
    · cases e1
    · cases e2
      subst e3
      have eN := N_proof e0
      obtain ⟨c9, hc9⟩ : ∃ c, (sp_proof S e p).1 = c + 1 := ⟨(sp_proof S e p).1 - 1, by omega⟩
      rw [hc9] at e1
      rcases c9 with _ | _ | _ | c9
      · have e4 : some "java/lang/IllegalArgumentException" = some E9 := e1
        cases e4
        refine ⟨0, 9, tk0 rfl (by decide) (by decide) wd_86 (List.mem_append_left _ (by decide +kernel)) , fun q8 => ?_⟩
        refine se_astore_nR (pc := 9) dL_proof_9 (by decide) [some (.ref 0), some (.int e), some (.int p), some (.retAddr q8)] rfl ?_
        refine se_iconst (pc := 10) 1 (by decide) dL_proof_10 ?_
        exact se_iret (pc := 11) dL_proof_11 rfl (lQ_no 0 hc9 eN rfl hC hβ ho)
      · have e4 : some "java/lang/IndexOutOfBoundsException" = some E9 := e1
        cases e4
        refine ⟨1, 12, tk1 (E0 := "java/lang/IllegalArgumentException") rfl (by decide) (by decide) wd_249 (List.mem_append_left _ (by decide +kernel)) rfl (by decide) wd_86 (List.mem_append_right _ (by decide +kernel)), fun q8 => ?_⟩
        refine se_astore_nR (pc := 12) dL_proof_12 (by decide) [some (.ref 0), some (.int e), some (.int p), some (.retAddr q8)] rfl ?_
        refine se_iconst (pc := 13) 2 (by decide) dL_proof_13 ?_
        exact se_iret (pc := 14) dL_proof_14 rfl (lQ_no 1 hc9 eN rfl hC hβ ho)
      · have e4 : some "java/lang/IllegalStateException" = some E9 := e1
        cases e4
        refine ⟨2, 15, tk2 (E0 := "java/lang/IllegalArgumentException") (E1 := "java/lang/IndexOutOfBoundsException") rfl (by decide) (by decide) wd_284 (List.mem_append_left _ (by decide +kernel)) rfl (by decide) wd_86 (List.mem_append_right _ (by decide +kernel)) rfl (by decide) wd_249 (List.mem_append_right _ (by decide +kernel)), fun q8 => ?_⟩
        refine se_astore_nR (pc := 15) dL_proof_15 (by decide) [some (.ref 0), some (.int e), some (.int p), some (.retAddr q8)] rfl ?_
        refine se_iconst (pc := 16) 3 (by decide) dL_proof_16 ?_
        exact se_iret (pc := 17) dL_proof_17 rfl (lQ_no 2 hc9 eN rfl hC hβ ho)
      · simp at e1
set_option maxHeartbeats 1000000 in
set_option maxRecDepth 100000 in
theorem w_need {k t n : Int32} (hd : 10 ≤ d) (hC : is_C 0 β S h) (hβ : ∀ v, v < st_nv S → 68 ≤ β v) (hV : st_V N S) (ho : is_O g9 h) : se_W (vG sc) l d mL_need 0 (se_ent 5 [.ref 0, .int k, .int t, .int n]) [] h 8 78 (lQ h (sp_need S k t n) vU) := by
  obtain ⟨d, rfl⟩ : ∃ e, d = e + 1 := ⟨d - 1, by omega⟩
  show se_W (vG sc) l (d + 1) mL_need 0 [some (.ref 0), some (.int k), some (.int t), some (.int n), none] [] h 8 78 _
  refine se_aload_n (pc := 0) rfl dL_need_0 ?_
  refine se_iload_n (pc := 1) rfl dL_need_1 ?_
  refine se_iload_n (pc := 2) rfl dL_need_2 ?_
  refine se_iload_n (pc := 3) rfl dL_need_3 ?_
  refine se_invVC (pc := 4) (as := [.int k, .int t, .int n]) (st := []) (vok sc) kC_need dL_need_4 ⟨wd_436, wd_437, wd_438, wd_1⟩ rfl hC.1 rfl (Nat.le_of_ble_eq_true rfl) (Nat.le_of_ble_eq_true rfl) (p_need (by omega) hC hV.1 hβ) (C2 := 0) (S2 := 0) (by omega) (by omega) (fun v9 h9 hle9 q9 => ?_) (fun E9 h9 hle9 q9 => ?_)
  · rcases q9 with ⟨e0, e1, e2, e3⟩ | ⟨_, _, _, e1, _⟩
    · rw [T_need e0] at e1
      cases e1
      have ho9 : is_O g9 h9 := (e3.2 67 (by decide) (by decide)).trans ho
      refine se_goto (pc := 7) (tgt := 18) dL_need_7 (by decide) ?_
      refine se_iconst (pc := 18) 0 (by decide) dL_need_18 ?_
      exact se_iret (pc := 19) dL_need_19 rfl (lQ_v e0 e2 (by rw [nv_need]; exact hβ) hle9 e3.2 ho9)
    · cases e1
  · rcases q9 with ⟨_, e1, _⟩ | ⟨E, e0, e1, e2, e3⟩
    · cases e1
    · cases e2
      subst e3
      have eN := N_need e0
      obtain ⟨c9, hc9⟩ : ∃ c, (sp_need S k t n).1 = c + 1 := ⟨(sp_need S k t n).1 - 1, by omega⟩
      rw [hc9] at e1
      rcases c9 with _ | _ | c9
      · have e4 : some "java/lang/IllegalArgumentException" = some E9 := e1
        cases e4
        refine ⟨0, 10, tk0 rfl (by decide) (by decide) wd_86 (List.mem_append_left _ (by decide +kernel)) , fun q8 => ?_⟩
        refine se_astoreR (pc := 10) dL_need_10 (by decide) [some (.ref 0), some (.int k), some (.int t), some (.int n), some (.retAddr q8)] rfl ?_
        refine se_iconst (pc := 12) 1 (by decide) dL_need_12 ?_
        exact se_iret (pc := 13) dL_need_13 rfl (lQ_no 0 hc9 eN rfl hC hβ ho)
      · have e4 : some "java/lang/IndexOutOfBoundsException" = some E9 := e1
        cases e4
        refine ⟨1, 14, tk1 (E0 := "java/lang/IllegalArgumentException") rfl (by decide) (by decide) wd_249 (List.mem_append_left _ (by decide +kernel)) rfl (by decide) wd_86 (List.mem_append_right _ (by decide +kernel)), fun q8 => ?_⟩
        refine se_astoreR (pc := 14) dL_need_14 (by decide) [some (.ref 0), some (.int k), some (.int t), some (.int n), some (.retAddr q8)] rfl ?_
        refine se_iconst (pc := 16) 2 (by decide) dL_need_16 ?_
        exact se_iret (pc := 17) dL_need_17 rfl (lQ_no 1 hc9 eN rfl hC hβ ho)
      · simp at e1
set_option maxHeartbeats 1000000 in
set_option maxRecDepth 100000 in
theorem w_put {v t n : Int32} (hd : 10 ≤ d) (hC : is_C 0 β S h) (hβ : ∀ v, v < st_nv S → 68 ≤ β v) (hV : st_V N S) (ho : is_O g9 h) : se_W (vG sc) l d mL_put 0 (se_ent 6 [.ref 0, .int v, .int t, .int n, .ref 67]) [] h 8 78 (lQ h (sp_put S v t n) vI) := by
  obtain ⟨d, rfl⟩ : ∃ e, d = e + 1 := ⟨d - 1, by omega⟩
  show se_W (vG sc) l (d + 1) mL_put 0 [some (.ref 0), some (.int v), some (.int t), some (.int n), some (.ref 67), none] [] h 8 78 _
  refine se_aload (pc := 0) rfl dL_put_0 ?_
  refine se_iconst (pc := 2) 0 (by decide) dL_put_2 ?_
  refine se_aload_n (pc := 3) rfl dL_put_3 ?_
  refine se_iload_n (pc := 4) rfl dL_put_4 ?_
  refine se_iload_n (pc := 5) rfl dL_put_5 ?_
  refine se_iload_n (pc := 6) rfl dL_put_6 ?_
  refine se_invVC (pc := 7) (as := [.int v, .int t, .int n]) (st := [.int 0, .ref 67]) (vok sc) kC_put dL_put_7 ⟨wd_447, wd_448, wd_449, wd_1⟩ rfl hC.1 rfl (Nat.le_of_ble_eq_true rfl) (Nat.le_of_ble_eq_true rfl) (p_put (by omega) hC hV.1 hβ) (C2 := 0) (S2 := 0) (by omega) (by omega) (fun v9 h9 hle9 q9 => ?_) (fun E9 h9 hle9 q9 => ?_)
  · rcases q9 with ⟨e0, e1, e2, e3⟩ | ⟨_, _, _, e1, _⟩
    · obtain ⟨x9, hx9⟩ := T_put e0
      rw [hx9] at e1
      cases e1
      have ho9 : is_O g9 h9 := (e3.2 67 (by decide) (by decide)).trans ho
      refine se_i2l (pc := 10) dL_put_10 ?_
      refine se_lastN (pc := 11) (j := 0) 2 dL_put_11 rfl ho9 (by decide) (by decide) ?_
      refine se_goto (pc := 12) (tgt := 27) dL_put_12 (by decide) ?_
      refine se_iconst (pc := 27) 0 (by decide) dL_put_27 ?_
      exact se_iret (pc := 28) dL_put_28 rfl (lQ_ok e0 e2 (by rw [nv_put]; exact hβ) hle9 e3.2 ho9 ⟨x9, hx9, rfl⟩)
    · cases e1
  · rcases q9 with ⟨_, e1, _⟩ | ⟨E, e0, e1, e2, e3⟩
    · cases e1
    · cases e2
      subst e3
      have eN := N_put e0
      obtain ⟨c9, hc9⟩ : ∃ c, (sp_put S v t n).1 = c + 1 := ⟨(sp_put S v t n).1 - 1, by omega⟩
      rw [hc9] at e1
      rcases c9 with _ | _ | _ | c9
      · have e4 : some "java/lang/IllegalArgumentException" = some E9 := e1
        cases e4
        refine ⟨0, 15, tk0 rfl (by decide) (by decide) wd_86 (List.mem_append_left _ (by decide +kernel)) , fun q8 => ?_⟩
        refine se_astoreR (pc := 15) dL_put_15 (by decide) [some (.ref 0), some (.int v), some (.int t), some (.int n), some (.ref 67), some (.retAddr q8)] rfl ?_
        refine se_iconst (pc := 17) 1 (by decide) dL_put_17 ?_
        exact se_iret (pc := 18) dL_put_18 rfl (lQ_no 0 hc9 eN rfl hC hβ ho)
      · have e4 : some "java/lang/IndexOutOfBoundsException" = some E9 := e1
        cases e4
        refine ⟨1, 19, tk1 (E0 := "java/lang/IllegalArgumentException") rfl (by decide) (by decide) wd_249 (List.mem_append_left _ (by decide +kernel)) rfl (by decide) wd_86 (List.mem_append_right _ (by decide +kernel)), fun q8 => ?_⟩
        refine se_astoreR (pc := 19) dL_put_19 (by decide) [some (.ref 0), some (.int v), some (.int t), some (.int n), some (.ref 67), some (.retAddr q8)] rfl ?_
        refine se_iconst (pc := 21) 2 (by decide) dL_put_21 ?_
        exact se_iret (pc := 22) dL_put_22 rfl (lQ_no 1 hc9 eN rfl hC hβ ho)
      · have e4 : some "java/lang/UnsupportedOperationException" = some E9 := e1
        cases e4
        refine ⟨2, 23, tk2 (E0 := "java/lang/IllegalArgumentException") (E1 := "java/lang/IndexOutOfBoundsException") rfl (by decide) (by decide) wd_87 (List.mem_append_left _ (by decide +kernel)) rfl (by decide) wd_86 (List.mem_append_right _ (by decide +kernel)) rfl (by decide) wd_249 (List.mem_append_right _ (by decide +kernel)), fun q8 => ?_⟩
        refine se_astoreR (pc := 23) dL_put_23 (by decide) [some (.ref 0), some (.int v), some (.int t), some (.int n), some (.ref 67), some (.retAddr q8)] rfl ?_
        refine se_iconst (pc := 25) 3 (by decide) dL_put_25 ?_
        exact se_iret (pc := 26) dL_put_26 rfl (lQ_no 2 hc9 eN rfl hC hβ ho)
      · simp at e1
set_option maxHeartbeats 1000000 in
set_option maxRecDepth 100000 in
theorem w_swap {v w t : Int32} (hd : 10 ≤ d) (hC : is_C 0 β S h) (hβ : ∀ v, v < st_nv S → 68 ≤ β v) (hV : st_V N S) (ho : is_O g9 h) : se_W (vG sc) l d mL_swap 0 (se_ent 6 [.ref 0, .int v, .int w, .int t, .ref 67]) [] h 8 78 (lQ h (sp_swap S v w t) vI) := by
  obtain ⟨d, rfl⟩ : ∃ e, d = e + 1 := ⟨d - 1, by omega⟩
  show se_W (vG sc) l (d + 1) mL_swap 0 [some (.ref 0), some (.int v), some (.int w), some (.int t), some (.ref 67), none] [] h 8 78 _
  refine se_aload (pc := 0) rfl dL_swap_0 ?_
  refine se_iconst (pc := 2) 0 (by decide) dL_swap_2 ?_
  refine se_aload_n (pc := 3) rfl dL_swap_3 ?_
  refine se_iload_n (pc := 4) rfl dL_swap_4 ?_
  refine se_iload_n (pc := 5) rfl dL_swap_5 ?_
  refine se_iload_n (pc := 6) rfl dL_swap_6 ?_
  refine se_invVC (pc := 7) (as := [.int v, .int w, .int t]) (st := [.int 0, .ref 67]) (vok sc) kC_swap dL_swap_7 ⟨wd_458, wd_459, wd_460, wd_1⟩ rfl hC.1 rfl (Nat.le_of_ble_eq_true rfl) (Nat.le_of_ble_eq_true rfl) (p_swap (by omega) hC hV.1 hβ) (C2 := 0) (S2 := 0) (by omega) (by omega) (fun v9 h9 hle9 q9 => ?_) (fun E9 h9 hle9 q9 => ?_)
  · rcases q9 with ⟨e0, e1, e2, e3⟩ | ⟨_, _, _, e1, _⟩
    · obtain ⟨x9, hx9⟩ := T_swap e0
      rw [hx9] at e1
      cases e1
      have ho9 : is_O g9 h9 := (e3.2 67 (by decide) (by decide)).trans ho
      refine se_i2l (pc := 10) dL_swap_10 ?_
      refine se_lastN (pc := 11) (j := 0) 2 dL_swap_11 rfl ho9 (by decide) (by decide) ?_
      refine se_goto (pc := 12) (tgt := 23) dL_swap_12 (by decide) ?_
      refine se_iconst (pc := 23) 0 (by decide) dL_swap_23 ?_
      exact se_iret (pc := 24) dL_swap_24 rfl (lQ_ok e0 e2 (by rw [nv_swap]; exact hβ) hle9 e3.2 ho9 ⟨x9, hx9, rfl⟩)
    · cases e1
  · rcases q9 with ⟨_, e1, _⟩ | ⟨E, e0, e1, e2, e3⟩
    · cases e1
    · cases e2
      subst e3
      have eN := N_swap e0
      obtain ⟨c9, hc9⟩ : ∃ c, (sp_swap S v w t).1 = c + 1 := ⟨(sp_swap S v w t).1 - 1, by omega⟩
      rw [hc9] at e1
      rcases c9 with _ | _ | c9
      · have e4 : some "java/lang/IllegalArgumentException" = some E9 := e1
        cases e4
        refine ⟨0, 15, tk0 rfl (by decide) (by decide) wd_86 (List.mem_append_left _ (by decide +kernel)) , fun q8 => ?_⟩
        refine se_astoreR (pc := 15) dL_swap_15 (by decide) [some (.ref 0), some (.int v), some (.int w), some (.int t), some (.ref 67), some (.retAddr q8)] rfl ?_
        refine se_iconst (pc := 17) 1 (by decide) dL_swap_17 ?_
        exact se_iret (pc := 18) dL_swap_18 rfl (lQ_no 0 hc9 eN rfl hC hβ ho)
      · have e4 : some "java/lang/IllegalStateException" = some E9 := e1
        cases e4
        refine ⟨1, 19, tk1 (E0 := "java/lang/IllegalArgumentException") rfl (by decide) (by decide) wd_284 (List.mem_append_left _ (by decide +kernel)) rfl (by decide) wd_86 (List.mem_append_right _ (by decide +kernel)), fun q8 => ?_⟩
        refine se_astoreR (pc := 19) dL_swap_19 (by decide) [some (.ref 0), some (.int v), some (.int w), some (.int t), some (.ref 67), some (.retAddr q8)] rfl ?_
        refine se_iconst (pc := 21) 2 (by decide) dL_swap_21 ?_
        exact se_iret (pc := 22) dL_swap_22 rfl (lQ_no 1 hc9 eN rfl hC hβ ho)
      · simp at e1
set_option maxHeartbeats 1000000 in
set_option maxRecDepth 100000 in
theorem w_spare {v : Int32} (hd : 10 ≤ d) (hC : is_C 0 β S h) (hβ : ∀ v, v < st_nv S → 68 ≤ β v) (hV : st_V N S) (ho : is_O g9 h) : se_W (vG sc) l d mL_spare 0 (se_ent 4 [.ref 0, .int v, .ref 67]) [] h 8 78 (lQ h (sp_spare S v) vI) := by
  obtain ⟨d, rfl⟩ : ∃ e, d = e + 1 := ⟨d - 1, by omega⟩
  show se_W (vG sc) l (d + 1) mL_spare 0 [some (.ref 0), some (.int v), some (.ref 67), none] [] h 8 78 _
  refine se_aload_n (pc := 0) rfl dL_spare_0 ?_
  refine se_iconst (pc := 1) 0 (by decide) dL_spare_1 ?_
  refine se_aload_n (pc := 2) rfl dL_spare_2 ?_
  refine se_iload_n (pc := 3) rfl dL_spare_3 ?_
  refine se_invVC (pc := 4) (as := [.int v]) (st := [.int 0, .ref 67]) (vok sc) kC_spare dL_spare_4 ⟨wd_467, wd_468, wd_469, wd_1⟩ rfl hC.1 rfl (Nat.le_of_ble_eq_true rfl) (Nat.le_of_ble_eq_true rfl) (p_spare (by omega) hC hV.1 hβ) (C2 := 0) (S2 := 0) (by omega) (by omega) (fun v9 h9 hle9 q9 => ?_) (fun E9 h9 hle9 q9 => ?_)
  · rcases q9 with ⟨e0, e1, e2, e3⟩ | ⟨_, _, _, e1, _⟩
    · obtain ⟨x9, hx9⟩ := T_spare e0
      rw [hx9] at e1
      cases e1
      have ho9 : is_O g9 h9 := (e3.2 67 (by decide) (by decide)).trans ho
      refine se_i2l (pc := 7) dL_spare_7 ?_
      refine se_lastN (pc := 8) (j := 0) 2 dL_spare_8 rfl ho9 (by decide) (by decide) ?_
      refine se_goto (pc := 9) (tgt := 15) dL_spare_9 (by decide) ?_
      refine se_iconst (pc := 15) 0 (by decide) dL_spare_15 ?_
      exact se_iret (pc := 16) dL_spare_16 rfl (lQ_ok e0 e2 (by rw [nv_spare]; exact hβ) hle9 e3.2 ho9 ⟨x9, hx9, rfl⟩)
    · cases e1
  · rcases q9 with ⟨_, e1, _⟩ | ⟨E, e0, e1, e2, e3⟩
    · cases e1
    · cases e2
      subst e3
      have eN := N_spare e0
      obtain ⟨c9, hc9⟩ : ∃ c, (sp_spare S v).1 = c + 1 := ⟨(sp_spare S v).1 - 1, by omega⟩
      rw [hc9] at e1
      rcases c9 with _ | c9
      · have e4 : some "java/lang/IllegalArgumentException" = some E9 := e1
        cases e4
        refine ⟨0, 12, tk0 rfl (by decide) (by decide) wd_86 (List.mem_append_left _ (by decide +kernel)) , fun q8 => ?_⟩
        refine se_astore_nR (pc := 12) dL_spare_12 (by decide) [some (.ref 0), some (.int v), some (.ref 67), some (.retAddr q8)] rfl ?_
        refine se_iconst (pc := 13) 1 (by decide) dL_spare_13 ?_
        exact se_iret (pc := 14) dL_spare_14 rfl (lQ_no 0 hc9 eN rfl hC hβ ho)
      · simp at e1
set_option maxHeartbeats 1000000 in
set_option maxRecDepth 100000 in
theorem w_fuel {v m : Int32} (hd : 10 ≤ d) (hC : is_C 0 β S h) (hβ : ∀ v, v < st_nv S → 68 ≤ β v) (hV : st_V N S) (ho : is_O g9 h) : se_W (vG sc) l d mL_fuel 0 (se_ent 5 [.ref 0, .int v, .int m, .ref 67]) [] h 8 78 (lQ h (sp_fuel S v m) vI) := by
  obtain ⟨d, rfl⟩ : ∃ e, d = e + 1 := ⟨d - 1, by omega⟩
  show se_W (vG sc) l (d + 1) mL_fuel 0 [some (.ref 0), some (.int v), some (.int m), some (.ref 67), none] [] h 8 78 _
  refine se_aload_n (pc := 0) rfl dL_fuel_0 ?_
  refine se_iconst (pc := 1) 0 (by decide) dL_fuel_1 ?_
  refine se_aload_n (pc := 2) rfl dL_fuel_2 ?_
  refine se_iload_n (pc := 3) rfl dL_fuel_3 ?_
  refine se_iload_n (pc := 4) rfl dL_fuel_4 ?_
  refine se_invVC (pc := 5) (as := [.int v, .int m]) (st := [.int 0, .ref 67]) (vok sc) kC_fuel dL_fuel_5 ⟨wd_486, wd_487, wd_488, wd_1⟩ rfl hC.1 rfl (Nat.le_of_ble_eq_true rfl) (Nat.le_of_ble_eq_true rfl) (p_fuel (by omega) hC hV.1 hβ) (C2 := 0) (S2 := 0) (by omega) (by omega) (fun v9 h9 hle9 q9 => ?_) (fun E9 h9 hle9 q9 => ?_)
  · rcases q9 with ⟨e0, e1, e2, e3⟩ | ⟨_, _, _, e1, _⟩
    · obtain ⟨x9, hx9⟩ := T_fuel e0
      rw [hx9] at e1
      cases e1
      have ho9 : is_O g9 h9 := (e3.2 67 (by decide) (by decide)).trans ho
      refine se_i2l (pc := 8) dL_fuel_8 ?_
      refine se_lastN (pc := 9) (j := 0) 2 dL_fuel_9 rfl ho9 (by decide) (by decide) ?_
      refine se_goto (pc := 10) (tgt := 25) dL_fuel_10 (by decide) ?_
      refine se_iconst (pc := 25) 0 (by decide) dL_fuel_25 ?_
      exact se_iret (pc := 26) dL_fuel_26 rfl (lQ_ok e0 e2 (by rw [nv_fuel]; exact hβ) hle9 e3.2 ho9 ⟨x9, hx9, rfl⟩)
    · cases e1
  · rcases q9 with ⟨_, e1, _⟩ | ⟨E, e0, e1, e2, e3⟩
    · cases e1
    · cases e2
      subst e3
      have eN := N_fuel e0
      obtain ⟨c9, hc9⟩ : ∃ c, (sp_fuel S v m).1 = c + 1 := ⟨(sp_fuel S v m).1 - 1, by omega⟩
      rw [hc9] at e1
      rcases c9 with _ | _ | _ | c9
      · have e4 : some "java/lang/IllegalArgumentException" = some E9 := e1
        cases e4
        refine ⟨0, 13, tk0 rfl (by decide) (by decide) wd_86 (List.mem_append_left _ (by decide +kernel)) , fun q8 => ?_⟩
        refine se_astoreR (pc := 13) dL_fuel_13 (by decide) [some (.ref 0), some (.int v), some (.int m), some (.ref 67), some (.retAddr q8)] rfl ?_
        refine se_iconst (pc := 15) 1 (by decide) dL_fuel_15 ?_
        exact se_iret (pc := 16) dL_fuel_16 rfl (lQ_no 0 hc9 eN rfl hC hβ ho)
      · have e4 : some "java/lang/IndexOutOfBoundsException" = some E9 := e1
        cases e4
        refine ⟨1, 17, tk1 (E0 := "java/lang/IllegalArgumentException") rfl (by decide) (by decide) wd_249 (List.mem_append_left _ (by decide +kernel)) rfl (by decide) wd_86 (List.mem_append_right _ (by decide +kernel)), fun q8 => ?_⟩
        refine se_astoreR (pc := 17) dL_fuel_17 (by decide) [some (.ref 0), some (.int v), some (.int m), some (.ref 67), some (.retAddr q8)] rfl ?_
        refine se_iconst (pc := 19) 2 (by decide) dL_fuel_19 ?_
        exact se_iret (pc := 20) dL_fuel_20 rfl (lQ_no 1 hc9 eN rfl hC hβ ho)
      · have e4 : some "java/lang/UnsupportedOperationException" = some E9 := e1
        cases e4
        refine ⟨2, 21, tk2 (E0 := "java/lang/IllegalArgumentException") (E1 := "java/lang/IndexOutOfBoundsException") rfl (by decide) (by decide) wd_87 (List.mem_append_left _ (by decide +kernel)) rfl (by decide) wd_86 (List.mem_append_right _ (by decide +kernel)) rfl (by decide) wd_249 (List.mem_append_right _ (by decide +kernel)), fun q8 => ?_⟩
        refine se_astoreR (pc := 21) dL_fuel_21 (by decide) [some (.ref 0), some (.int v), some (.int m), some (.ref 67), some (.retAddr q8)] rfl ?_
        refine se_iconst (pc := 23) 3 (by decide) dL_fuel_23 ?_
        exact se_iret (pc := 24) dL_fuel_24 rfl (lQ_no 2 hc9 eN rfl hC hβ ho)
      · simp at e1
set_option maxHeartbeats 1000000 in
set_option maxRecDepth 100000 in
theorem w_using {v w : Int32} (hd : 10 ≤ d) (hC : is_C 0 β S h) (hβ : ∀ v, v < st_nv S → 68 ≤ β v) (hV : st_V N S) (ho : is_O g9 h) : se_W (vG sc) l d mL_using 0 (se_ent 5 [.ref 0, .int v, .int w, .ref 67]) [] h 8 78 (lQ h (sp_using S v w) vJ) := by
  obtain ⟨d, rfl⟩ : ∃ e, d = e + 1 := ⟨d - 1, by omega⟩
  show se_W (vG sc) l (d + 1) mL_using 0 [some (.ref 0), some (.int v), some (.int w), some (.ref 67), none] [] h 8 78 _
  refine se_aload_n (pc := 0) rfl dL_using_0 ?_
  refine se_iconst (pc := 1) 0 (by decide) dL_using_1 ?_
  refine se_aload_n (pc := 2) rfl dL_using_2 ?_
  refine se_iload_n (pc := 3) rfl dL_using_3 ?_
  refine se_iload_n (pc := 4) rfl dL_using_4 ?_
  refine se_invVC (pc := 5) (as := [.int v, .int w]) (st := [.int 0, .ref 67]) (vok sc) kC_using dL_using_5 ⟨wd_494, wd_495, wd_496, wd_1⟩ rfl hC.1 rfl (Nat.le_of_ble_eq_true rfl) (Nat.le_of_ble_eq_true rfl) (p_using (by omega) hC hV.1 (q_R hV.2.2)) (C2 := 0) (S2 := 0) (by omega) (by omega) (fun v9 h9 hle9 q9 => ?_) (fun E9 h9 hle9 q9 => ?_)
  · rcases q9 with ⟨e0, e1, e2, e3⟩ | ⟨_, _, _, e1, _⟩
    · obtain ⟨x9, hx9⟩ := T_using e0
      rw [hx9] at e1
      cases e1
      have ho9 : is_O g9 h9 := (e3.2 67 (by decide) (by decide)).trans ho
      refine se_lastN (pc := 8) (j := 0) 2 dL_using_8 rfl ho9 (by decide) (by decide) ?_
      refine se_goto (pc := 9) (tgt := 20) dL_using_9 (by decide) ?_
      refine se_iconst (pc := 20) 0 (by decide) dL_using_20 ?_
      exact se_iret (pc := 21) dL_using_21 rfl (lQ_ok e0 e2 (by rw [nv_using]; exact hβ) hle9 e3.2 ho9 hx9)
    · cases e1
  · rcases q9 with ⟨_, e1, _⟩ | ⟨E, e0, e1, e2, e3⟩
    · cases e1
    · cases e2
      subst e3
      have eN := N_using e0
      obtain ⟨c9, hc9⟩ : ∃ c, (sp_using S v w).1 = c + 1 := ⟨(sp_using S v w).1 - 1, by omega⟩
      rw [hc9] at e1
      rcases c9 with _ | _ | c9
      · have e4 : some "java/lang/IllegalArgumentException" = some E9 := e1
        cases e4
        refine ⟨0, 12, tk0 rfl (by decide) (by decide) wd_86 (List.mem_append_left _ (by decide +kernel)) , fun q8 => ?_⟩
        refine se_astoreR (pc := 12) dL_using_12 (by decide) [some (.ref 0), some (.int v), some (.int w), some (.ref 67), some (.retAddr q8)] rfl ?_
        refine se_iconst (pc := 14) 1 (by decide) dL_using_14 ?_
        exact se_iret (pc := 15) dL_using_15 rfl (lQ_no 0 hc9 eN rfl hC hβ ho)
      · have e4 : some "java/lang/IllegalStateException" = some E9 := e1
        cases e4
        refine ⟨1, 16, tk1 (E0 := "java/lang/IllegalArgumentException") rfl (by decide) (by decide) wd_284 (List.mem_append_left _ (by decide +kernel)) rfl (by decide) wd_86 (List.mem_append_right _ (by decide +kernel)), fun q8 => ?_⟩
        refine se_astoreR (pc := 16) dL_using_16 (by decide) [some (.ref 0), some (.int v), some (.int w), some (.ref 67), some (.retAddr q8)] rfl ?_
        refine se_iconst (pc := 18) 2 (by decide) dL_using_18 ?_
        exact se_iret (pc := 19) dL_using_19 rfl (lQ_no 1 hc9 eN rfl hC hβ ho)
      · simp at e1
set_option maxHeartbeats 1000000 in
set_option maxRecDepth 100000 in
theorem w_key {v p : Int32} (hd : 10 ≤ d) (hC : is_C 0 β S h) (hβ : ∀ v, v < st_nv S → 68 ≤ β v) (hV : st_V N S) (ho : is_O g9 h) : se_W (vG sc) l d mL_key 0 (se_ent 5 [.ref 0, .int v, .int p, .ref 67]) [] h 8 78 (lQ h (sp_key S v p) vI) := by
  obtain ⟨d, rfl⟩ : ∃ e, d = e + 1 := ⟨d - 1, by omega⟩
  show se_W (vG sc) l (d + 1) mL_key 0 [some (.ref 0), some (.int v), some (.int p), some (.ref 67), none] [] h 8 78 _
  refine se_aload_n (pc := 0) rfl dL_key_0 ?_
  refine se_iconst (pc := 1) 0 (by decide) dL_key_1 ?_
  refine se_aload_n (pc := 2) rfl dL_key_2 ?_
  refine se_iload_n (pc := 3) rfl dL_key_3 ?_
  refine se_iload_n (pc := 4) rfl dL_key_4 ?_
  refine se_invVC (pc := 5) (as := [.int v, .int p]) (st := [.int 0, .ref 67]) (vok sc) kC_key dL_key_5 ⟨wd_509, wd_510, wd_511, wd_1⟩ rfl hC.1 rfl (Nat.le_of_ble_eq_true rfl) (Nat.le_of_ble_eq_true rfl) (p_key (by omega) hC hV.1 hβ) (C2 := 0) (S2 := 0) (by omega) (by omega) (fun v9 h9 hle9 q9 => ?_) (fun E9 h9 hle9 q9 => ?_)
  · rcases q9 with ⟨e0, e1, e2, e3⟩ | ⟨_, _, _, e1, _⟩
    · obtain ⟨x9, hx9⟩ := T_key e0
      rw [hx9] at e1
      cases e1
      have ho9 : is_O g9 h9 := (e3.2 67 (by decide) (by decide)).trans ho
      refine se_i2l (pc := 8) dL_key_8 ?_
      refine se_lastN (pc := 9) (j := 0) 2 dL_key_9 rfl ho9 (by decide) (by decide) ?_
      refine se_goto (pc := 10) (tgt := 21) dL_key_10 (by decide) ?_
      refine se_iconst (pc := 21) 0 (by decide) dL_key_21 ?_
      exact se_iret (pc := 22) dL_key_22 rfl (lQ_ok e0 e2 (by rw [nv_key]; exact hβ) hle9 e3.2 ho9 ⟨x9, hx9, rfl⟩)
    · cases e1
  · rcases q9 with ⟨_, e1, _⟩ | ⟨E, e0, e1, e2, e3⟩
    · cases e1
    · cases e2
      subst e3
      have eN := N_key e0
      obtain ⟨c9, hc9⟩ : ∃ c, (sp_key S v p).1 = c + 1 := ⟨(sp_key S v p).1 - 1, by omega⟩
      rw [hc9] at e1
      rcases c9 with _ | _ | c9
      · have e4 : some "java/lang/IllegalArgumentException" = some E9 := e1
        cases e4
        refine ⟨0, 13, tk0 rfl (by decide) (by decide) wd_86 (List.mem_append_left _ (by decide +kernel)) , fun q8 => ?_⟩
        refine se_astoreR (pc := 13) dL_key_13 (by decide) [some (.ref 0), some (.int v), some (.int p), some (.ref 67), some (.retAddr q8)] rfl ?_
        refine se_iconst (pc := 15) 1 (by decide) dL_key_15 ?_
        exact se_iret (pc := 16) dL_key_16 rfl (lQ_no 0 hc9 eN rfl hC hβ ho)
      · have e4 : some "java/lang/IllegalStateException" = some E9 := e1
        cases e4
        refine ⟨1, 17, tk1 (E0 := "java/lang/IllegalArgumentException") rfl (by decide) (by decide) wd_284 (List.mem_append_left _ (by decide +kernel)) rfl (by decide) wd_86 (List.mem_append_right _ (by decide +kernel)), fun q8 => ?_⟩
        refine se_astoreR (pc := 17) dL_key_17 (by decide) [some (.ref 0), some (.int v), some (.int p), some (.ref 67), some (.retAddr q8)] rfl ?_
        refine se_iconst (pc := 19) 2 (by decide) dL_key_19 ?_
        exact se_iret (pc := 20) dL_key_20 rfl (lQ_no 1 hc9 eN rfl hC hβ ho)
      · simp at e1
set_option maxHeartbeats 1000000 in
set_option maxRecDepth 100000 in
theorem w_cost {v m : Int32} (hd : 10 ≤ d) (hC : is_C 0 β S h) (hβ : ∀ v, v < st_nv S → 68 ≤ β v) (hV : st_V N S) (ho : is_O g9 h) : se_W (vG sc) l d mL_cost 0 (se_ent 5 [.ref 0, .int v, .int m, .ref 67]) [] h 8 78 (lQ h (sp_cost S v m) vI) := by
  obtain ⟨d, rfl⟩ : ∃ e, d = e + 1 := ⟨d - 1, by omega⟩
  show se_W (vG sc) l (d + 1) mL_cost 0 [some (.ref 0), some (.int v), some (.int m), some (.ref 67), none] [] h 8 78 _
  refine se_aload_n (pc := 0) rfl dL_cost_0 ?_
  refine se_iconst (pc := 1) 0 (by decide) dL_cost_1 ?_
  refine se_aload_n (pc := 2) rfl dL_cost_2 ?_
  refine se_iload_n (pc := 3) rfl dL_cost_3 ?_
  refine se_iload_n (pc := 4) rfl dL_cost_4 ?_
  refine se_invVC (pc := 5) (as := [.int v, .int m]) (st := [.int 0, .ref 67]) (vok sc) kC_cost dL_cost_5 ⟨wd_517, wd_518, wd_519, wd_1⟩ rfl hC.1 rfl (Nat.le_of_ble_eq_true rfl) (Nat.le_of_ble_eq_true rfl) (p_cost (by omega) hC hV.1 hβ) (C2 := 0) (S2 := 0) (by omega) (by omega) (fun v9 h9 hle9 q9 => ?_) (fun E9 h9 hle9 q9 => ?_)
  · rcases q9 with ⟨e0, e1, e2, e3⟩ | ⟨_, _, _, e1, _⟩
    · obtain ⟨x9, hx9⟩ := T_cost e0
      rw [hx9] at e1
      cases e1
      have ho9 : is_O g9 h9 := (e3.2 67 (by decide) (by decide)).trans ho
      refine se_i2l (pc := 8) dL_cost_8 ?_
      refine se_lastN (pc := 9) (j := 0) 2 dL_cost_9 rfl ho9 (by decide) (by decide) ?_
      refine se_goto (pc := 10) (tgt := 25) dL_cost_10 (by decide) ?_
      refine se_iconst (pc := 25) 0 (by decide) dL_cost_25 ?_
      exact se_iret (pc := 26) dL_cost_26 rfl (lQ_ok e0 e2 (by rw [nv_cost]; exact hβ) hle9 e3.2 ho9 ⟨x9, hx9, rfl⟩)
    · cases e1
  · rcases q9 with ⟨_, e1, _⟩ | ⟨E, e0, e1, e2, e3⟩
    · cases e1
    · cases e2
      subst e3
      have eN := N_cost e0
      obtain ⟨c9, hc9⟩ : ∃ c, (sp_cost S v m).1 = c + 1 := ⟨(sp_cost S v m).1 - 1, by omega⟩
      rw [hc9] at e1
      rcases c9 with _ | _ | _ | c9
      · have e4 : some "java/lang/IllegalArgumentException" = some E9 := e1
        cases e4
        refine ⟨0, 13, tk0 rfl (by decide) (by decide) wd_86 (List.mem_append_left _ (by decide +kernel)) , fun q8 => ?_⟩
        refine se_astoreR (pc := 13) dL_cost_13 (by decide) [some (.ref 0), some (.int v), some (.int m), some (.ref 67), some (.retAddr q8)] rfl ?_
        refine se_iconst (pc := 15) 1 (by decide) dL_cost_15 ?_
        exact se_iret (pc := 16) dL_cost_16 rfl (lQ_no 0 hc9 eN rfl hC hβ ho)
      · have e4 : some "java/lang/IndexOutOfBoundsException" = some E9 := e1
        cases e4
        refine ⟨1, 17, tk1 (E0 := "java/lang/IllegalArgumentException") rfl (by decide) (by decide) wd_249 (List.mem_append_left _ (by decide +kernel)) rfl (by decide) wd_86 (List.mem_append_right _ (by decide +kernel)), fun q8 => ?_⟩
        refine se_astoreR (pc := 17) dL_cost_17 (by decide) [some (.ref 0), some (.int v), some (.int m), some (.ref 67), some (.retAddr q8)] rfl ?_
        refine se_iconst (pc := 19) 2 (by decide) dL_cost_19 ?_
        exact se_iret (pc := 20) dL_cost_20 rfl (lQ_no 1 hc9 eN rfl hC hβ ho)
      · have e4 : some "java/lang/UnsupportedOperationException" = some E9 := e1
        cases e4
        refine ⟨2, 21, tk2 (E0 := "java/lang/IllegalArgumentException") (E1 := "java/lang/IndexOutOfBoundsException") rfl (by decide) (by decide) wd_87 (List.mem_append_left _ (by decide +kernel)) rfl (by decide) wd_86 (List.mem_append_right _ (by decide +kernel)) rfl (by decide) wd_249 (List.mem_append_right _ (by decide +kernel)), fun q8 => ?_⟩
        refine se_astoreR (pc := 21) dL_cost_21 (by decide) [some (.ref 0), some (.int v), some (.int m), some (.ref 67), some (.retAddr q8)] rfl ?_
        refine se_iconst (pc := 23) 3 (by decide) dL_cost_23 ?_
        exact se_iret (pc := 24) dL_cost_24 rfl (lQ_no 2 hc9 eN rfl hC hβ ho)
      · simp at e1
set_option maxHeartbeats 1000000 in
set_option maxRecDepth 100000 in
theorem w_skipped {i : Int32} (hd : 10 ≤ d) (hC : is_C 0 β S h) (hβ : ∀ v, v < st_nv S → 68 ≤ β v) (hV : st_V N S) (ho : is_O g9 h) : se_W (vG sc) l d mL_skipped 0 (se_ent 4 [.ref 0, .int i, .ref 67]) [] h 8 78 (lQ h (sp_skipped S i) vI) := by
  obtain ⟨d, rfl⟩ : ∃ e, d = e + 1 := ⟨d - 1, by omega⟩
  show se_W (vG sc) l (d + 1) mL_skipped 0 [some (.ref 0), some (.int i), some (.ref 67), none] [] h 8 78 _
  refine se_aload_n (pc := 0) rfl dL_skipped_0 ?_
  refine se_iconst (pc := 1) 0 (by decide) dL_skipped_1 ?_
  refine se_aload_n (pc := 2) rfl dL_skipped_2 ?_
  refine se_iload_n (pc := 3) rfl dL_skipped_3 ?_
  refine se_invVC (pc := 4) (as := [.int i]) (st := [.int 0, .ref 67]) (vok sc) kC_skipped dL_skipped_4 ⟨wd_525, wd_526, wd_527, wd_1⟩ rfl hC.1 rfl (Nat.le_of_ble_eq_true rfl) (Nat.le_of_ble_eq_true rfl) (p_skipped (by omega) hC hV.1 hβ) (C2 := 0) (S2 := 0) (by omega) (by omega) (fun v9 h9 hle9 q9 => ?_) (fun E9 h9 hle9 q9 => ?_)
  · rcases q9 with ⟨e0, e1, e2, e3⟩ | ⟨_, _, _, e1, _⟩
    · obtain ⟨x9, hx9⟩ := T_skipped e0
      rw [hx9] at e1
      cases e1
      have ho9 : is_O g9 h9 := (e3.2 67 (by decide) (by decide)).trans ho
      refine se_i2l (pc := 7) dL_skipped_7 ?_
      refine se_lastN (pc := 8) (j := 0) 2 dL_skipped_8 rfl ho9 (by decide) (by decide) ?_
      refine se_goto (pc := 9) (tgt := 15) dL_skipped_9 (by decide) ?_
      refine se_iconst (pc := 15) 0 (by decide) dL_skipped_15 ?_
      exact se_iret (pc := 16) dL_skipped_16 rfl (lQ_ok e0 e2 (by rw [nv_skipped]; exact hβ) hle9 e3.2 ho9 ⟨x9, hx9, rfl⟩)
    · cases e1
  · rcases q9 with ⟨_, e1, _⟩ | ⟨E, e0, e1, e2, e3⟩
    · cases e1
    · cases e2
      subst e3
      have eN := N_skipped e0
      obtain ⟨c9, hc9⟩ : ∃ c, (sp_skipped S i).1 = c + 1 := ⟨(sp_skipped S i).1 - 1, by omega⟩
      rw [hc9] at e1
      rcases c9 with _ | c9
      · have e4 : some "java/lang/IndexOutOfBoundsException" = some E9 := e1
        cases e4
        refine ⟨0, 12, tk0 rfl (by decide) (by decide) wd_249 (List.mem_append_left _ (by decide +kernel)) , fun q8 => ?_⟩
        refine se_astore_nR (pc := 12) dL_skipped_12 (by decide) [some (.ref 0), some (.int i), some (.ref 67), some (.retAddr q8)] rfl ?_
        refine se_iconst (pc := 13) 1 (by decide) dL_skipped_13 ?_
        exact se_iret (pc := 14) dL_skipped_14 rfl (lQ_no 0 hc9 eN rfl hC hβ ho)
      · simp at e1
set_option maxHeartbeats 1000000 in
set_option maxRecDepth 100000 in
theorem w_tick {n : Int32} (hd : 10 ≤ d) (hC : is_C 0 β S h) (hβ : ∀ v, v < st_nv S → 68 ≤ β v) (hV : st_V N S) (ho : is_O g9 h) : se_W (vG sc) l d mL_tick 0 (se_ent 4 [.ref 0, .int n, .ref 67]) [] h 8 78 (lQ h (sp_tick S n) vI) := by
  obtain ⟨d, rfl⟩ : ∃ e, d = e + 1 := ⟨d - 1, by omega⟩
  show se_W (vG sc) l (d + 1) mL_tick 0 [some (.ref 0), some (.int n), some (.ref 67), none] [] h 8 78 _
  refine se_aload_n (pc := 0) rfl dL_tick_0 ?_
  refine se_iconst (pc := 1) 0 (by decide) dL_tick_1 ?_
  refine se_aload_n (pc := 2) rfl dL_tick_2 ?_
  refine se_iload_n (pc := 3) rfl dL_tick_3 ?_
  refine se_invVC (pc := 4) (as := [.int n]) (st := [.int 0, .ref 67]) (vok sc) kC_tick dL_tick_4 ⟨wd_532, wd_533, wd_534, wd_1⟩ rfl hC.1 rfl (Nat.le_of_ble_eq_true rfl) (Nat.le_of_ble_eq_true rfl) (p_tick (by omega) hC hV.1 hβ) (C2 := 0) (S2 := 0) (by omega) (by omega) (fun v9 h9 hle9 q9 => ?_) (fun E9 h9 hle9 q9 => ?_)
  · rcases q9 with ⟨e0, e1, e2, e3⟩ | ⟨_, _, _, e1, _⟩
    · obtain ⟨x9, hx9⟩ := T_tick e0
      rw [hx9] at e1
      cases e1
      have ho9 : is_O g9 h9 := (e3.2 67 (by decide) (by decide)).trans ho
      refine se_i2l (pc := 7) dL_tick_7 ?_
      refine se_lastN (pc := 8) (j := 0) 2 dL_tick_8 rfl ho9 (by decide) (by decide) ?_
      refine se_goto (pc := 9) (tgt := 15) dL_tick_9 (by decide) ?_
      refine se_iconst (pc := 15) 0 (by decide) dL_tick_15 ?_
      exact se_iret (pc := 16) dL_tick_16 rfl (lQ_ok e0 e2 (by rw [nv_tick]; exact hβ) hle9 e3.2 ho9 ⟨x9, hx9, rfl⟩)
    · cases e1
  · rcases q9 with ⟨_, e1, _⟩ | ⟨E, e0, e1, e2, e3⟩
    · cases e1
    · cases e2
      subst e3
      have eN := N_tick e0
      obtain ⟨c9, hc9⟩ : ∃ c, (sp_tick S n).1 = c + 1 := ⟨(sp_tick S n).1 - 1, by omega⟩
      rw [hc9] at e1
      rcases c9 with _ | c9
      · have e4 : some "java/lang/IndexOutOfBoundsException" = some E9 := e1
        cases e4
        refine ⟨0, 12, tk0 rfl (by decide) (by decide) wd_249 (List.mem_append_left _ (by decide +kernel)) , fun q8 => ?_⟩
        refine se_astore_nR (pc := 12) dL_tick_12 (by decide) [some (.ref 0), some (.int n), some (.ref 67), some (.retAddr q8)] rfl ?_
        refine se_iconst (pc := 13) 1 (by decide) dL_tick_13 ?_
        exact se_iret (pc := 14) dL_tick_14 rfl (lQ_no 0 hc9 eN rfl hC hβ ho)
      · simp at e1
set_option maxHeartbeats 1000000 in
set_option maxRecDepth 100000 in
theorem w_vehicleAt {v w : Int32} (hd : 10 ≤ d) (hC : is_C 0 β S h) (hβ : ∀ v, v < st_nv S → 68 ≤ β v) (hV : st_V N S) (ho : is_O g9 h) : se_W (vG sc) l d mL_vehicleAt 0 (se_ent 5 [.ref 0, .int v, .int w, .ref 67]) [] h 8 78 (lQ h (sp_vehicleAt S v w) vI) := by
  obtain ⟨d, rfl⟩ : ∃ e, d = e + 1 := ⟨d - 1, by omega⟩
  show se_W (vG sc) l (d + 1) mL_vehicleAt 0 [some (.ref 0), some (.int v), some (.int w), some (.ref 67), none] [] h 8 78 _
  refine se_aload_n (pc := 0) rfl dL_vehicleAt_0 ?_
  refine se_iconst (pc := 1) 0 (by decide) dL_vehicleAt_1 ?_
  refine se_aload_n (pc := 2) rfl dL_vehicleAt_2 ?_
  refine se_iload_n (pc := 3) rfl dL_vehicleAt_3 ?_
  refine se_iload_n (pc := 4) rfl dL_vehicleAt_4 ?_
  refine se_invVC (pc := 5) (as := [.int v, .int w]) (st := [.int 0, .ref 67]) (vok sc) kC_vehicleAt dL_vehicleAt_5 ⟨wd_539, wd_540, wd_541, wd_1⟩ rfl hC.1 rfl (Nat.le_of_ble_eq_true rfl) (Nat.le_of_ble_eq_true rfl) (p_vehicleAt (by omega) hC hV.1 hβ) (C2 := 0) (S2 := 0) (by omega) (by omega) (fun v9 h9 hle9 q9 => ?_) (fun E9 h9 hle9 q9 => ?_)
  · rcases q9 with ⟨e0, e1, e2, e3⟩ | ⟨_, _, _, e1, _⟩
    · obtain ⟨x9, hx9⟩ := T_vehicleAt e0
      rw [hx9] at e1
      cases e1
      have ho9 : is_O g9 h9 := (e3.2 67 (by decide) (by decide)).trans ho
      refine se_i2l (pc := 8) dL_vehicleAt_8 ?_
      refine se_lastN (pc := 9) (j := 0) 2 dL_vehicleAt_9 rfl ho9 (by decide) (by decide) ?_
      refine se_goto (pc := 10) (tgt := 17) dL_vehicleAt_10 (by decide) ?_
      refine se_iconst (pc := 17) 0 (by decide) dL_vehicleAt_17 ?_
      exact se_iret (pc := 18) dL_vehicleAt_18 rfl (lQ_ok e0 e2 (by rw [nv_vehicleAt]; exact hβ) hle9 e3.2 ho9 ⟨x9, hx9, rfl⟩)
    · cases e1
  · rcases q9 with ⟨_, e1, _⟩ | ⟨E, e0, e1, e2, e3⟩
    · cases e1
    · cases e2
      subst e3
      have eN := N_vehicleAt e0
      obtain ⟨c9, hc9⟩ : ∃ c, (sp_vehicleAt S v w).1 = c + 1 := ⟨(sp_vehicleAt S v w).1 - 1, by omega⟩
      rw [hc9] at e1
      rcases c9 with _ | c9
      · have e4 : some "java/lang/IllegalArgumentException" = some E9 := e1
        cases e4
        refine ⟨0, 13, tk0 rfl (by decide) (by decide) wd_86 (List.mem_append_left _ (by decide +kernel)) , fun q8 => ?_⟩
        refine se_astoreR (pc := 13) dL_vehicleAt_13 (by decide) [some (.ref 0), some (.int v), some (.int w), some (.ref 67), some (.retAddr q8)] rfl ?_
        refine se_iconst (pc := 15) 1 (by decide) dL_vehicleAt_15 ?_
        exact se_iret (pc := 16) dL_vehicleAt_16 rfl (lQ_no 0 hc9 eN rfl hC hβ ho)
      · simp at e1
end WRAP
