/-! THE LAW: one call, then the loop over the script -/
theorem nI_p1 {a : Nat} : nI a + 1 = nI (a + 1) := nI_1 a
theorem nI_p2 {a : Nat} : nI a + 2 = nI (a + 2) := nI_add a 2
theorem nI_p3 {a : Nat} : nI a + 3 = nI (a + 3) := nI_add a 3
theorem nI_p4 {a : Nat} : nI a + 4 = nI (a + 4) := nI_add a 4
theorem nI_p5 {a : Nat} : nI a + 5 = nI (a + 5) := nI_add a 5
theorem nI_p6 {a : Nat} : nI a + 6 = nI (a + 6) := nI_add a 6
theorem nI_p7 {a : Nat} : nI a + 7 = nI (a + 7) := nI_add a 7
theorem se_sldN {G : se_G} {l : Launch} {d : Nat} {M : se_M} {pc : Nat} {L : List (Option Value)} {st : List Value} {h : se_H} {C S : Nat} {Φ : se_O → se_H → Prop} {b N j : Nat} {xs : Nat → Int32} (hg : decode M.2.1 pc = .ok (.iaload, 1)) (hb : (b, N, xs) ∈ G.2.2.2.2.2) (hj : j < N) (hn : N < 2 ^ 31) (k : se_W G l d M (pc + 1) L (.int (xs j) :: st) h C S Φ) : se_W G l d M pc L (.int (nI j) :: .retAddr b :: st) h C S Φ := by
  refine se_sld hg hb (vp_in_nI hj hn) ?_
  rw [nI_clamp (Nat.lt_trans hj hn)]
  exact k
theorem is_R_mv {S : st_S} {t : Int32} {h h' : se_H} (hR : is_R S t h) (hf : ∀ a, 41 ≤ a → a < 67 → h'[a]? = h[a]?) : is_R S t h' := ⟨(hf _ (by decide) (by decide)).trans hR.1, (hf _ (by decide) (by decide)).trans hR.2.1, (hf _ (by decide) (by decide)).trans hR.2.2.1, (hf _ (by decide) (by decide)).trans hR.2.2.2.1, (hf _ (by decide) (by decide)).trans hR.2.2.2.2.1, (hf _ (by decide) (by decide)).trans hR.2.2.2.2.2.1, (hf _ (by decide) (by decide)).trans hR.2.2.2.2.2.2.1, (hf _ (by decide) (by decide)).trans hR.2.2.2.2.2.2.2.1, (hf _ (by decide) (by decide)).trans hR.2.2.2.2.2.2.2.2.1, (hf _ (by decide) (by decide)).trans hR.2.2.2.2.2.2.2.2.2.1, (hf _ (by decide) (by decide)).trans hR.2.2.2.2.2.2.2.2.2.2.1, (hf _ (by decide) (by decide)).trans hR.2.2.2.2.2.2.2.2.2.2.2.1, (hf _ (by decide) (by decide)).trans hR.2.2.2.2.2.2.2.2.2.2.2.2.1, (hf _ (by decide) (by decide)).trans hR.2.2.2.2.2.2.2.2.2.2.2.2.2.1, (hf _ (by decide) (by decide)).trans hR.2.2.2.2.2.2.2.2.2.2.2.2.2.2.1, (hf _ (by decide) (by decide)).trans hR.2.2.2.2.2.2.2.2.2.2.2.2.2.2.2.1, (hf _ (by decide) (by decide)).trans hR.2.2.2.2.2.2.2.2.2.2.2.2.2.2.2.2.1, (hf _ (by decide) (by decide)).trans hR.2.2.2.2.2.2.2.2.2.2.2.2.2.2.2.2.2.1, (hf _ (by decide) (by decide)).trans hR.2.2.2.2.2.2.2.2.2.2.2.2.2.2.2.2.2.2.1, (hf _ (by decide) (by decide)).trans hR.2.2.2.2.2.2.2.2.2.2.2.2.2.2.2.2.2.2.2.1, (hf _ (by decide) (by decide)).trans hR.2.2.2.2.2.2.2.2.2.2.2.2.2.2.2.2.2.2.2.2.1, (hf _ (by decide) (by decide)).trans hR.2.2.2.2.2.2.2.2.2.2.2.2.2.2.2.2.2.2.2.2.2.1, (hf _ (by decide) (by decide)).trans hR.2.2.2.2.2.2.2.2.2.2.2.2.2.2.2.2.2.2.2.2.2.2.1, (hf _ (by decide) (by decide)).trans hR.2.2.2.2.2.2.2.2.2.2.2.2.2.2.2.2.2.2.2.2.2.2.2.1, (hf _ (by decide) (by decide)).trans hR.2.2.2.2.2.2.2.2.2.2.2.2.2.2.2.2.2.2.2.2.2.2.2.2.1, (hf _ (by decide) (by decide)).trans hR.2.2.2.2.2.2.2.2.2.2.2.2.2.2.2.2.2.2.2.2.2.2.2.2.2⟩
theorem vI_eq {o : Option Value} {y : Int64} {x : Int32} (h : vI o y) (h' : o = some (.int x)) : y = x.toInt64 := by
  obtain ⟨z, h1, h2⟩ := h
  rw [h'] at h1; cases h1; exact h2
theorem vB_eq {o : Option Value} {y : Int64} {x : Int32} (h : vB o y) (h' : o = some (.int x)) : y = if x = 0 then 0 else 1 := by
  obtain ⟨z, h1, h2⟩ := h
  rw [h'] at h1; cases h1; exact h2
theorem vJ_eq {o : Option Value} {y x : Int64} (h : vJ o y) (h' : o = some (.long x)) : y = x := by
  rw [show o = some (.long y) from h] at h'; cases h'; rfl
theorem lg_self (a : Int64) : lg_cmp a a = 0 := by simp [lg_cmp]
theorem nI_z0 {c : Nat} (hc : c ≤ 3) (h : nI c = 0) : c = 0 := (nI_eq (a := c) (b := 0) (by omega) (by decide)).mp h
def lI (N : Nat) (S : st_S) (h : se_H) : Prop := ∃ β g t, is_C 0 β S h ∧ (∀ v, v < st_nv S → 68 ≤ β v) ∧ is_R S t h ∧ is_O g h ∧ 68 ≤ h.length ∧ st_V N S
def lZ : se_O → se_H → Prop := fun u _ => u = .inl (some (.int 1))
theorem cb_vehicle {S : st_S} {k s : Int32} : (sp_vehicle S k s).1 ≤ 3 := by
  unfold sp_vehicle
  repeat' split
  all_goals simp
theorem cb_list {S : st_S} {k i a b g e : Int32} : (sp_list S k i a b g e).1 ≤ 3 := by
  unfold sp_list
  repeat' split
  all_goals simp
theorem cb_unlist {S : st_S} {k i : Int32} : (sp_unlist S k i).1 ≤ 3 := by
  unfold sp_unlist
  repeat' split
  all_goals simp
theorem cb_answer {S : st_S} {v i x p : Int32} : (sp_answer S v i x p).1 ≤ 3 := by
  unfold sp_answer
  repeat' split
  all_goals simp
theorem cb_item {S : st_S} {v i w : Int32} : (sp_item S v i w).1 ≤ 3 := by
  unfold sp_item
  repeat' split
  all_goals simp
theorem cb_use {S : st_S} {v k : Int32} : (sp_use S v k).1 ≤ 3 := by
  unfold sp_use
  repeat' split
  all_goals simp
theorem cb_runs {S : st_S} {v : Int32} : (sp_runs S v).1 ≤ 3 := by
  unfold sp_runs
  repeat' split
  all_goals simp
theorem cb_reason {S : st_S} {v i : Int32} : (sp_reason S v i).1 ≤ 3 := by
  unfold sp_reason
  repeat' split
  all_goals simp
theorem cb_off {S : st_S} {v b p q : Int32} : (sp_off S v b p q).1 ≤ 3 := by
  unfold sp_off
  repeat' split
  all_goals simp
theorem cb_damage {S : st_S} {v g : Int32} : (sp_damage S v g).1 ≤ 3 := by
  unfold sp_damage
  repeat' split
  all_goals simp
theorem cb_proof {S : st_S} {e p : Int32} : (sp_proof S e p).1 ≤ 3 := by
  unfold sp_proof
  repeat' split
  all_goals simp
theorem cb_need {S : st_S} {k t n : Int32} : (sp_need S k t n).1 ≤ 3 := by
  unfold sp_need
  repeat' split
  all_goals simp
theorem cb_put {S : st_S} {v t n : Int32} : (sp_put S v t n).1 ≤ 3 := by
  unfold sp_put
  repeat' split
  all_goals simp
theorem cb_swap {S : st_S} {v w t : Int32} : (sp_swap S v w t).1 ≤ 3 := by
  unfold sp_swap
  repeat' split
  all_goals simp
theorem cb_spare {S : st_S} {v : Int32} : (sp_spare S v).1 ≤ 3 := by
  unfold sp_spare
  repeat' split
  all_goals simp
theorem cb_fuel {S : st_S} {v m : Int32} : (sp_fuel S v m).1 ≤ 3 := by
  unfold sp_fuel
  repeat' split
  all_goals simp
theorem cb_using {S : st_S} {v w : Int32} : (sp_using S v w).1 ≤ 3 := by
  unfold sp_using
  repeat' split
  all_goals simp
theorem cb_key {S : st_S} {v p : Int32} : (sp_key S v p).1 ≤ 3 := by
  unfold sp_key
  repeat' split
  all_goals simp
theorem cb_cost {S : st_S} {v m : Int32} : (sp_cost S v m).1 ≤ 3 := by
  unfold sp_cost
  repeat' split
  all_goals simp
theorem cb_skipped {S : st_S} {i : Int32} : (sp_skipped S i).1 ≤ 3 := by
  unfold sp_skipped
  repeat' split
  all_goals simp
theorem cb_tick {S : st_S} {n : Int32} : (sp_tick S n).1 ≤ 3 := by
  unfold sp_tick
  repeat' split
  all_goals simp
theorem cb_vehicleAt {S : st_S} {v w : Int32} : (sp_vehicleAt S v w).1 ≤ 3 := by
  unfold sp_vehicleAt
  repeat' split
  all_goals simp
section LAW
variable {sc : List (Nat × Nat × (Nat → Int32))} {l : Launch} {d : Nat} {h : se_H} {S : st_S} {N i bb N0 CC SS : Nat} {xs : Nat → Int32} {z5 z6 z7 : Option Value}
set_option maxHeartbeats 1000000 in
set_option maxRecDepth 100000 in
theorem b_vehicle (hd : 10 ≤ d) (hN : N < 2 ^ 31) (hb : (bb, N0, xs) ∈ (vG sc).2.2.2.2.2) (h35 : N0 ≤ 3584) (hin : i + 7 ≤ N0) (hl : lI N S h) (hk : ∀ (S' : st_S) (h' : se_H) (z5 z6 z7 : Option Value), lI (N + 1) S' h' → se_W (vG sc) l (d + 1) mL_law 1690 [some (.retAddr bb), some (.ref 0), some (.ref 41), some (.ref 67), some (.int (nI i)), z5, z6, z7] [] h' CC SS lZ) : se_W (vG sc) l (d + 1) mL_law 144 [some (.retAddr bb), some (.ref 0), some (.ref 41), some (.ref 67), some (.int (nI i)), z5, z6, z7] [] h (CC + 8) (SS + 78) lZ := by
  obtain ⟨β, g9, t, hC, hβ, hR, ho, h68, hV⟩ := hl
  refine se_aload_n (pc := 144) rfl dL_law_144 ?_
  refine se_aload_nR (pc := 145) rfl dL_law_145 ?_
  refine se_iload (pc := 146) rfl dL_law_146 ?_
  refine se_iconst (pc := 148) 1 (by decide) dL_law_148 ?_
  refine se_iadd (pc := 149) dL_law_149 ?_
  rw [nI_p1]
  refine se_sldN (pc := 150) dL_law_150 hb (by omega) (by omega) ?_
  refine se_aload_nR (pc := 151) rfl dL_law_151 ?_
  refine se_iload (pc := 152) rfl dL_law_152 ?_
  refine se_iconst (pc := 154) 2 (by decide) dL_law_154 ?_
  refine se_iadd (pc := 155) dL_law_155 ?_
  rw [nI_p2]
  refine se_sldN (pc := 156) dL_law_156 hb (by omega) (by omega) ?_
  refine se_if_eq (pc := 157) (tgt := 164) dL_law_157 (by decide) (fun q1 => ?_) (fun q1 => ?_)
  · refine se_iconst (pc := 164) 0 (by decide) dL_law_164 ?_
    refine se_aload_n (pc := 165) rfl dL_law_165 ?_
    refine se_invSH (pc := 166) (as := [.ref 0, .int (xs (i + 1)), .int 0, .ref 67]) (st := []) (vok sc) kL_vehicle dL_law_166 ⟨wd_83, wd_84, wd_0⟩ rfl (Nat.le_of_ble_eq_true rfl) (Nat.le_of_ble_eq_true rfl) (w_vehicle (by omega) hC hβ hV ho (by decide) h68) (C2 := CC) (S2 := SS) (by omega) (by omega) (fun v166 h166 _ q166 => ?_) (fun x hx => absurd hx List.not_mem_nil) (fun v166 h166 _ q166 => ?_)
    rotate_left
    · cases q166.1
    obtain ⟨q166, ⟨β2, hC2, hb2⟩, hl2, hf2, g2, ho2, hv2⟩ := q166
    cases q166
    have hR2 := is_R_mv hR hf2
    refine se_istore (pc := 169) dL_law_169 (by decide) [some (.retAddr bb), some (.ref 0), some (.ref 41), some (.ref 67), some (.int (nI i)), some (.int (nI (sp_vehicle S (xs (i + 1)) 0).1)), z6, z7] rfl ?_
    refine se_aload_n (pc := 171) rfl dL_law_171 ?_
    refine se_aload_nR (pc := 172) rfl dL_law_172 ?_
    refine se_iload (pc := 173) rfl dL_law_173 ?_
    refine se_iconst (pc := 175) 1 (by decide) dL_law_175 ?_
    refine se_iadd (pc := 176) dL_law_176 ?_
    rw [nI_p1]
    refine se_sldN (pc := 177) dL_law_177 hb (by omega) (by omega) ?_
    refine se_aload_nR (pc := 178) rfl dL_law_178 ?_
    refine se_iload (pc := 179) rfl dL_law_179 ?_
    refine se_iconst (pc := 181) 2 (by decide) dL_law_181 ?_
    refine se_iadd (pc := 182) dL_law_182 ?_
    rw [nI_p2]
    refine se_sldN (pc := 183) dL_law_183 hb (by omega) (by omega) ?_
    refine se_if_eq (pc := 184) (tgt := 191) dL_law_184 (by decide) (fun q2 => ?_) (fun q2 => absurd q2 (fun z => z q1))
    refine se_iconst (pc := 191) 0 (by decide) dL_law_191 ?_
    refine se_invV (pc := 192) (as := [.int (xs (i + 1)), .int 0]) (st := []) (vok sc) kR_vehicle dL_law_192 ⟨wd_645, wd_646, wd_647, wd_3⟩ rfl hR2.1 rfl (Nat.le_of_ble_eq_true rfl) (Nat.le_of_ble_eq_true rfl) (r_vehicle (by omega) hR2 hV.1 hV.2.2 hN hV.2.1 (by decide)) (C2 := CC) (S2 := SS) (by omega) (by omega) (fun v192 h192 _ q192 => ?_) (fun x hx => absurd hx List.not_mem_nil) (fun v192 h192 _ q192 => ?_)
    rotate_left
    · obtain ⟨⟨_, e, _⟩, _⟩ := q192; cases e
    obtain ⟨⟨x3, q192, hx3⟩, hR3, hf3⟩ := q192
    cases q192
    have hC3 := is_C_mv hC2 hb2 (fun a ha => hf3.2 a (by omega))
    have ho3 : is_O g2 _ := (hf3.2 67 (by decide)).trans ho2
    refine se_istore (pc := 195) dL_law_195 (by decide) [some (.retAddr bb), some (.ref 0), some (.ref 41), some (.ref 67), some (.int (nI i)), some (.int (nI (sp_vehicle S (xs (i + 1)) 0).1)), some (.int x3), z7] rfl ?_
    refine se_aload_n (pc := 197) rfl dL_law_197 ?_
    refine se_invV (pc := 198) (as := []) (st := []) (vok sc) kR_thrown dL_law_198 ⟨wd_641, wd_642, wd_643, wd_3⟩ rfl hR3.1 rfl (Nat.le_of_ble_eq_true rfl) (Nat.le_of_ble_eq_true rfl) (c_R_thrown hR3) (C2 := CC) (S2 := SS) (by omega) (by omega) (fun v198 h198 _ q198 => ?_) (fun x hx => absurd hx List.not_mem_nil) (fun v198 h198 _ q198 => ?_)
    rotate_left
    · cases q198.2
    obtain ⟨h198e, q198⟩ := q198
    have h198f := h198e.symm
    subst h198f
    cases q198
    refine se_iload (pc := 201) rfl dL_law_201 ?_
    refine se_icmp_eq (pc := 203) (tgt := 208) dL_law_203 (by decide) (fun q3 => ?_) (fun q3 => absurd q3 (fun z => z rfl))
    refine se_iload (pc := 208) rfl dL_law_208 ?_
    refine se_if_ne (pc := 210) (tgt := 225) dL_law_210 (by decide) (fun q4 => ?_) (fun q4 => ?_)
    · refine se_goto (pc := 225) (tgt := 1690) dL_law_225 (by decide) ?_
      exact hk _ _ _ _ _ ⟨β2, g2, nI (sp_vehicle S (xs (i + 1)) 0).1, hC3, hb2, hR3, ho3, by rw [hf3.1]; exact Nat.le_trans h68 hl2, K_vehicle hV⟩
    · have hz8 : (sp_vehicle S (xs (i + 1)) 0).1 = 0 := nI_z0 cb_vehicle (by assumption)
      have ev9 := vI_eq (hv2 hz8) (hx3 hz8)
      refine se_aload_n (pc := 213) rfl dL_law_213 ?_
      refine se_iconst (pc := 214) 0 (by decide) dL_law_214 ?_
      refine se_laldN (pc := 215) (j := 0) 2 dL_law_215 rfl ho3 (by decide) (by decide) ?_
      refine se_iload (pc := 216) rfl dL_law_216 ?_
      refine se_i2l (pc := 218) dL_law_218 ?_
      refine se_lcmp (pc := 219) dL_law_219 ?_
      refine se_if_eq (pc := 220) (tgt := 225) dL_law_220 (by decide) (fun q5 => ?_) (fun q5 => absurd q5 (fun z => z (by rw [ev9]; exact lg_self _)))
      refine se_goto (pc := 225) (tgt := 1690) dL_law_225 (by decide) ?_
      exact hk _ _ _ _ _ ⟨β2, g2, nI (sp_vehicle S (xs (i + 1)) 0).1, hC3, hb2, hR3, ho3, by rw [hf3.1]; exact Nat.le_trans h68 hl2, K_vehicle hV⟩
  · refine se_iconst (pc := 160) 1 (by decide) dL_law_160 ?_
    refine se_goto (pc := 161) (tgt := 165) dL_law_161 (by decide) ?_
    refine se_aload_n (pc := 165) rfl dL_law_165 ?_
    refine se_invSH (pc := 166) (as := [.ref 0, .int (xs (i + 1)), .int 1, .ref 67]) (st := []) (vok sc) kL_vehicle dL_law_166 ⟨wd_83, wd_84, wd_0⟩ rfl (Nat.le_of_ble_eq_true rfl) (Nat.le_of_ble_eq_true rfl) (w_vehicle (by omega) hC hβ hV ho (by decide) h68) (C2 := CC) (S2 := SS) (by omega) (by omega) (fun v166 h166 _ q166 => ?_) (fun x hx => absurd hx List.not_mem_nil) (fun v166 h166 _ q166 => ?_)
    rotate_left
    · cases q166.1
    obtain ⟨q166, ⟨β2, hC2, hb2⟩, hl2, hf2, g2, ho2, hv2⟩ := q166
    cases q166
    have hR2 := is_R_mv hR hf2
    refine se_istore (pc := 169) dL_law_169 (by decide) [some (.retAddr bb), some (.ref 0), some (.ref 41), some (.ref 67), some (.int (nI i)), some (.int (nI (sp_vehicle S (xs (i + 1)) 1).1)), z6, z7] rfl ?_
    refine se_aload_n (pc := 171) rfl dL_law_171 ?_
    refine se_aload_nR (pc := 172) rfl dL_law_172 ?_
    refine se_iload (pc := 173) rfl dL_law_173 ?_
    refine se_iconst (pc := 175) 1 (by decide) dL_law_175 ?_
    refine se_iadd (pc := 176) dL_law_176 ?_
    rw [nI_p1]
    refine se_sldN (pc := 177) dL_law_177 hb (by omega) (by omega) ?_
    refine se_aload_nR (pc := 178) rfl dL_law_178 ?_
    refine se_iload (pc := 179) rfl dL_law_179 ?_
    refine se_iconst (pc := 181) 2 (by decide) dL_law_181 ?_
    refine se_iadd (pc := 182) dL_law_182 ?_
    rw [nI_p2]
    refine se_sldN (pc := 183) dL_law_183 hb (by omega) (by omega) ?_
    refine se_if_eq (pc := 184) (tgt := 191) dL_law_184 (by decide) (fun q6 => absurd q6 q1) (fun q6 => ?_)
    refine se_iconst (pc := 187) 1 (by decide) dL_law_187 ?_
    refine se_goto (pc := 188) (tgt := 192) dL_law_188 (by decide) ?_
    refine se_invV (pc := 192) (as := [.int (xs (i + 1)), .int 1]) (st := []) (vok sc) kR_vehicle dL_law_192 ⟨wd_645, wd_646, wd_647, wd_3⟩ rfl hR2.1 rfl (Nat.le_of_ble_eq_true rfl) (Nat.le_of_ble_eq_true rfl) (r_vehicle (by omega) hR2 hV.1 hV.2.2 hN hV.2.1 (by decide)) (C2 := CC) (S2 := SS) (by omega) (by omega) (fun v192 h192 _ q192 => ?_) (fun x hx => absurd hx List.not_mem_nil) (fun v192 h192 _ q192 => ?_)
    rotate_left
    · obtain ⟨⟨_, e, _⟩, _⟩ := q192; cases e
    obtain ⟨⟨x3, q192, hx3⟩, hR3, hf3⟩ := q192
    cases q192
    have hC3 := is_C_mv hC2 hb2 (fun a ha => hf3.2 a (by omega))
    have ho3 : is_O g2 _ := (hf3.2 67 (by decide)).trans ho2
    refine se_istore (pc := 195) dL_law_195 (by decide) [some (.retAddr bb), some (.ref 0), some (.ref 41), some (.ref 67), some (.int (nI i)), some (.int (nI (sp_vehicle S (xs (i + 1)) 1).1)), some (.int x3), z7] rfl ?_
    refine se_aload_n (pc := 197) rfl dL_law_197 ?_
    refine se_invV (pc := 198) (as := []) (st := []) (vok sc) kR_thrown dL_law_198 ⟨wd_641, wd_642, wd_643, wd_3⟩ rfl hR3.1 rfl (Nat.le_of_ble_eq_true rfl) (Nat.le_of_ble_eq_true rfl) (c_R_thrown hR3) (C2 := CC) (S2 := SS) (by omega) (by omega) (fun v198 h198 _ q198 => ?_) (fun x hx => absurd hx List.not_mem_nil) (fun v198 h198 _ q198 => ?_)
    rotate_left
    · cases q198.2
    obtain ⟨h198e, q198⟩ := q198
    have h198f := h198e.symm
    subst h198f
    cases q198
    refine se_iload (pc := 201) rfl dL_law_201 ?_
    refine se_icmp_eq (pc := 203) (tgt := 208) dL_law_203 (by decide) (fun q7 => ?_) (fun q7 => absurd q7 (fun z => z rfl))
    refine se_iload (pc := 208) rfl dL_law_208 ?_
    refine se_if_ne (pc := 210) (tgt := 225) dL_law_210 (by decide) (fun q8 => ?_) (fun q8 => ?_)
    · refine se_goto (pc := 225) (tgt := 1690) dL_law_225 (by decide) ?_
      exact hk _ _ _ _ _ ⟨β2, g2, nI (sp_vehicle S (xs (i + 1)) 1).1, hC3, hb2, hR3, ho3, by rw [hf3.1]; exact Nat.le_trans h68 hl2, K_vehicle hV⟩
    · have hz8 : (sp_vehicle S (xs (i + 1)) 1).1 = 0 := nI_z0 cb_vehicle (by assumption)
      have ev9 := vI_eq (hv2 hz8) (hx3 hz8)
      refine se_aload_n (pc := 213) rfl dL_law_213 ?_
      refine se_iconst (pc := 214) 0 (by decide) dL_law_214 ?_
      refine se_laldN (pc := 215) (j := 0) 2 dL_law_215 rfl ho3 (by decide) (by decide) ?_
      refine se_iload (pc := 216) rfl dL_law_216 ?_
      refine se_i2l (pc := 218) dL_law_218 ?_
      refine se_lcmp (pc := 219) dL_law_219 ?_
      refine se_if_eq (pc := 220) (tgt := 225) dL_law_220 (by decide) (fun q9 => ?_) (fun q9 => absurd q9 (fun z => z (by rw [ev9]; exact lg_self _)))
      refine se_goto (pc := 225) (tgt := 1690) dL_law_225 (by decide) ?_
      exact hk _ _ _ _ _ ⟨β2, g2, nI (sp_vehicle S (xs (i + 1)) 1).1, hC3, hb2, hR3, ho3, by rw [hf3.1]; exact Nat.le_trans h68 hl2, K_vehicle hV⟩
set_option maxHeartbeats 1000000 in
set_option maxRecDepth 100000 in
theorem b_list (hd : 10 ≤ d) (hN : N < 2 ^ 31) (hb : (bb, N0, xs) ∈ (vG sc).2.2.2.2.2) (h35 : N0 ≤ 3584) (hin : i + 7 ≤ N0) (hl : lI N S h) (hk : ∀ (S' : st_S) (h' : se_H) (z5 z6 z7 : Option Value), lI (N + 1) S' h' → se_W (vG sc) l (d + 1) mL_law 1690 [some (.retAddr bb), some (.ref 0), some (.ref 41), some (.ref 67), some (.int (nI i)), z5, z6, z7] [] h' CC SS lZ) : se_W (vG sc) l (d + 1) mL_law 228 [some (.retAddr bb), some (.ref 0), some (.ref 41), some (.ref 67), some (.int (nI i)), z5, z6, z7] [] h (CC + 8) (SS + 78) lZ := by
  obtain ⟨β, g9, t, hC, hβ, hR, ho, h68, hV⟩ := hl
  refine se_aload_n (pc := 228) rfl dL_law_228 ?_
  refine se_aload_nR (pc := 229) rfl dL_law_229 ?_
  refine se_iload (pc := 230) rfl dL_law_230 ?_
  refine se_iconst (pc := 232) 1 (by decide) dL_law_232 ?_
  refine se_iadd (pc := 233) dL_law_233 ?_
  rw [nI_p1]
  refine se_sldN (pc := 234) dL_law_234 hb (by omega) (by omega) ?_
  refine se_aload_nR (pc := 235) rfl dL_law_235 ?_
  refine se_iload (pc := 236) rfl dL_law_236 ?_
  refine se_iconst (pc := 238) 2 (by decide) dL_law_238 ?_
  refine se_iadd (pc := 239) dL_law_239 ?_
  rw [nI_p2]
  refine se_sldN (pc := 240) dL_law_240 hb (by omega) (by omega) ?_
  refine se_aload_nR (pc := 241) rfl dL_law_241 ?_
  refine se_iload (pc := 242) rfl dL_law_242 ?_
  refine se_iconst (pc := 244) 3 (by decide) dL_law_244 ?_
  refine se_iadd (pc := 245) dL_law_245 ?_
  rw [nI_p3]
  refine se_sldN (pc := 246) dL_law_246 hb (by omega) (by omega) ?_
  refine se_aload_nR (pc := 247) rfl dL_law_247 ?_
  refine se_iload (pc := 248) rfl dL_law_248 ?_
  refine se_iconst (pc := 250) 4 (by decide) dL_law_250 ?_
  refine se_iadd (pc := 251) dL_law_251 ?_
  rw [nI_p4]
  refine se_sldN (pc := 252) dL_law_252 hb (by omega) (by omega) ?_
  refine se_aload_nR (pc := 253) rfl dL_law_253 ?_
  refine se_iload (pc := 254) rfl dL_law_254 ?_
  refine se_iconst (pc := 256) 5 (by decide) dL_law_256 ?_
  refine se_iadd (pc := 257) dL_law_257 ?_
  rw [nI_p5]
  refine se_sldN (pc := 258) dL_law_258 hb (by omega) (by omega) ?_
  refine se_aload_nR (pc := 259) rfl dL_law_259 ?_
  refine se_iload (pc := 260) rfl dL_law_260 ?_
  refine se_bipush (pc := 262) 6 (by decide) dL_law_262 ?_
  refine se_iadd (pc := 264) dL_law_264 ?_
  rw [nI_p6]
  refine se_sldN (pc := 265) dL_law_265 hb (by omega) (by omega) ?_
  refine se_invSH (pc := 266) (as := [.ref 0, .int (xs (i + 1)), .int (xs (i + 2)), .int (xs (i + 3)), .int (xs (i + 4)), .int (xs (i + 5)), .int (xs (i + 6))]) (st := []) (vok sc) kL_list dL_law_266 ⟨wd_246, wd_247, wd_0⟩ rfl (Nat.le_of_ble_eq_true rfl) (Nat.le_of_ble_eq_true rfl) (w_list (by omega) hC hβ hV ho) (C2 := CC) (S2 := SS) (by omega) (by omega) (fun v266 h266 _ q266 => ?_) (fun x hx => absurd hx List.not_mem_nil) (fun v266 h266 _ q266 => ?_)
  rotate_left
  · cases q266.1
  obtain ⟨q266, ⟨β2, hC2, hb2⟩, hl2, hf2, g2, ho2, hv2⟩ := q266
  cases q266
  have hR2 := is_R_mv hR hf2
  refine se_istore (pc := 269) dL_law_269 (by decide) [some (.retAddr bb), some (.ref 0), some (.ref 41), some (.ref 67), some (.int (nI i)), some (.int (nI (sp_list S (xs (i + 1)) (xs (i + 2)) (xs (i + 3)) (xs (i + 4)) (xs (i + 5)) (xs (i + 6))).1)), z6, z7] rfl ?_
  refine se_aload_n (pc := 271) rfl dL_law_271 ?_
  refine se_aload_nR (pc := 272) rfl dL_law_272 ?_
  refine se_iload (pc := 273) rfl dL_law_273 ?_
  refine se_iconst (pc := 275) 1 (by decide) dL_law_275 ?_
  refine se_iadd (pc := 276) dL_law_276 ?_
  rw [nI_p1]
  refine se_sldN (pc := 277) dL_law_277 hb (by omega) (by omega) ?_
  refine se_aload_nR (pc := 278) rfl dL_law_278 ?_
  refine se_iload (pc := 279) rfl dL_law_279 ?_
  refine se_iconst (pc := 281) 2 (by decide) dL_law_281 ?_
  refine se_iadd (pc := 282) dL_law_282 ?_
  rw [nI_p2]
  refine se_sldN (pc := 283) dL_law_283 hb (by omega) (by omega) ?_
  refine se_aload_nR (pc := 284) rfl dL_law_284 ?_
  refine se_iload (pc := 285) rfl dL_law_285 ?_
  refine se_iconst (pc := 287) 3 (by decide) dL_law_287 ?_
  refine se_iadd (pc := 288) dL_law_288 ?_
  rw [nI_p3]
  refine se_sldN (pc := 289) dL_law_289 hb (by omega) (by omega) ?_
  refine se_aload_nR (pc := 290) rfl dL_law_290 ?_
  refine se_iload (pc := 291) rfl dL_law_291 ?_
  refine se_iconst (pc := 293) 4 (by decide) dL_law_293 ?_
  refine se_iadd (pc := 294) dL_law_294 ?_
  rw [nI_p4]
  refine se_sldN (pc := 295) dL_law_295 hb (by omega) (by omega) ?_
  refine se_aload_nR (pc := 296) rfl dL_law_296 ?_
  refine se_iload (pc := 297) rfl dL_law_297 ?_
  refine se_iconst (pc := 299) 5 (by decide) dL_law_299 ?_
  refine se_iadd (pc := 300) dL_law_300 ?_
  rw [nI_p5]
  refine se_sldN (pc := 301) dL_law_301 hb (by omega) (by omega) ?_
  refine se_aload_nR (pc := 302) rfl dL_law_302 ?_
  refine se_iload (pc := 303) rfl dL_law_303 ?_
  refine se_bipush (pc := 305) 6 (by decide) dL_law_305 ?_
  refine se_iadd (pc := 307) dL_law_307 ?_
  rw [nI_p6]
  refine se_sldN (pc := 308) dL_law_308 hb (by omega) (by omega) ?_
  refine se_invV (pc := 309) (as := [.int (xs (i + 1)), .int (xs (i + 2)), .int (xs (i + 3)), .int (xs (i + 4)), .int (xs (i + 5)), .int (xs (i + 6))]) (st := []) (vok sc) kR_list dL_law_309 ⟨wd_659, wd_660, wd_661, wd_3⟩ rfl hR2.1 rfl (Nat.le_of_ble_eq_true rfl) (Nat.le_of_ble_eq_true rfl) (r_list (by omega) hR2 hV.1 hV.2.2 hN) (C2 := CC) (S2 := SS) (by omega) (by omega) (fun v309 h309 _ q309 => ?_) (fun x hx => absurd hx List.not_mem_nil) (fun v309 h309 _ q309 => ?_)
  rotate_left
  · cases q309.1
  obtain ⟨q309, hR3, hf3⟩ := q309
  cases q309
  have hC3 := is_C_mv hC2 hb2 (fun a ha => hf3.2 a (by omega))
  have ho3 : is_O g2 _ := (hf3.2 67 (by decide)).trans ho2
  refine se_aload_n (pc := 312) rfl dL_law_312 ?_
  refine se_invV (pc := 313) (as := []) (st := []) (vok sc) kR_thrown dL_law_313 ⟨wd_641, wd_642, wd_643, wd_3⟩ rfl hR3.1 rfl (Nat.le_of_ble_eq_true rfl) (Nat.le_of_ble_eq_true rfl) (c_R_thrown hR3) (C2 := CC) (S2 := SS) (by omega) (by omega) (fun v313 h313 _ q313 => ?_) (fun x hx => absurd hx List.not_mem_nil) (fun v313 h313 _ q313 => ?_)
  rotate_left
  · cases q313.2
  obtain ⟨h313e, q313⟩ := q313
  have h313f := h313e.symm
  subst h313f
  cases q313
  refine se_iload (pc := 316) rfl dL_law_316 ?_
  refine se_icmp_eq (pc := 318) (tgt := 323) dL_law_318 (by decide) (fun q1 => ?_) (fun q1 => absurd q1 (fun z => z rfl))
  refine se_goto (pc := 323) (tgt := 1690) dL_law_323 (by decide) ?_
  exact hk _ _ _ _ _ ⟨β2, g2, nI (sp_list S (xs (i + 1)) (xs (i + 2)) (xs (i + 3)) (xs (i + 4)) (xs (i + 5)) (xs (i + 6))).1, hC3, hb2, hR3, ho3, by rw [hf3.1]; exact Nat.le_trans h68 hl2, K_list hV⟩
set_option maxHeartbeats 1000000 in
set_option maxRecDepth 100000 in
theorem b_unlist (hd : 10 ≤ d) (hN : N < 2 ^ 31) (hb : (bb, N0, xs) ∈ (vG sc).2.2.2.2.2) (h35 : N0 ≤ 3584) (hin : i + 7 ≤ N0) (hl : lI N S h) (hk : ∀ (S' : st_S) (h' : se_H) (z5 z6 z7 : Option Value), lI (N + 1) S' h' → se_W (vG sc) l (d + 1) mL_law 1690 [some (.retAddr bb), some (.ref 0), some (.ref 41), some (.ref 67), some (.int (nI i)), z5, z6, z7] [] h' CC SS lZ) : se_W (vG sc) l (d + 1) mL_law 326 [some (.retAddr bb), some (.ref 0), some (.ref 41), some (.ref 67), some (.int (nI i)), z5, z6, z7] [] h (CC + 8) (SS + 78) lZ := by
  obtain ⟨β, g9, t, hC, hβ, hR, ho, h68, hV⟩ := hl
  refine se_aload_n (pc := 326) rfl dL_law_326 ?_
  refine se_aload_nR (pc := 327) rfl dL_law_327 ?_
  refine se_iload (pc := 328) rfl dL_law_328 ?_
  refine se_iconst (pc := 330) 1 (by decide) dL_law_330 ?_
  refine se_iadd (pc := 331) dL_law_331 ?_
  rw [nI_p1]
  refine se_sldN (pc := 332) dL_law_332 hb (by omega) (by omega) ?_
  refine se_aload_nR (pc := 333) rfl dL_law_333 ?_
  refine se_iload (pc := 334) rfl dL_law_334 ?_
  refine se_iconst (pc := 336) 2 (by decide) dL_law_336 ?_
  refine se_iadd (pc := 337) dL_law_337 ?_
  rw [nI_p2]
  refine se_sldN (pc := 338) dL_law_338 hb (by omega) (by omega) ?_
  refine se_invSH (pc := 339) (as := [.ref 0, .int (xs (i + 1)), .int (xs (i + 2))]) (st := []) (vok sc) kL_unlist dL_law_339 ⟨wd_281, wd_282, wd_0⟩ rfl (Nat.le_of_ble_eq_true rfl) (Nat.le_of_ble_eq_true rfl) (w_unlist (by omega) hC hβ hV ho) (C2 := CC) (S2 := SS) (by omega) (by omega) (fun v339 h339 _ q339 => ?_) (fun x hx => absurd hx List.not_mem_nil) (fun v339 h339 _ q339 => ?_)
  rotate_left
  · cases q339.1
  obtain ⟨q339, ⟨β2, hC2, hb2⟩, hl2, hf2, g2, ho2, hv2⟩ := q339
  cases q339
  have hR2 := is_R_mv hR hf2
  refine se_istore (pc := 342) dL_law_342 (by decide) [some (.retAddr bb), some (.ref 0), some (.ref 41), some (.ref 67), some (.int (nI i)), some (.int (nI (sp_unlist S (xs (i + 1)) (xs (i + 2))).1)), z6, z7] rfl ?_
  refine se_aload_n (pc := 344) rfl dL_law_344 ?_
  refine se_aload_nR (pc := 345) rfl dL_law_345 ?_
  refine se_iload (pc := 346) rfl dL_law_346 ?_
  refine se_iconst (pc := 348) 1 (by decide) dL_law_348 ?_
  refine se_iadd (pc := 349) dL_law_349 ?_
  rw [nI_p1]
  refine se_sldN (pc := 350) dL_law_350 hb (by omega) (by omega) ?_
  refine se_aload_nR (pc := 351) rfl dL_law_351 ?_
  refine se_iload (pc := 352) rfl dL_law_352 ?_
  refine se_iconst (pc := 354) 2 (by decide) dL_law_354 ?_
  refine se_iadd (pc := 355) dL_law_355 ?_
  rw [nI_p2]
  refine se_sldN (pc := 356) dL_law_356 hb (by omega) (by omega) ?_
  refine se_invV (pc := 357) (as := [.int (xs (i + 1)), .int (xs (i + 2))]) (st := []) (vok sc) kR_unlist dL_law_357 ⟨wd_666, wd_667, wd_668, wd_3⟩ rfl hR2.1 rfl (Nat.le_of_ble_eq_true rfl) (Nat.le_of_ble_eq_true rfl) (r_unlist (by omega) hR2 hV.1 hV.2.2 hN) (C2 := CC) (S2 := SS) (by omega) (by omega) (fun v357 h357 _ q357 => ?_) (fun x hx => absurd hx List.not_mem_nil) (fun v357 h357 _ q357 => ?_)
  rotate_left
  · cases q357.1
  obtain ⟨q357, hR3, hf3⟩ := q357
  cases q357
  have hC3 := is_C_mv hC2 hb2 (fun a ha => hf3.2 a (by omega))
  have ho3 : is_O g2 _ := (hf3.2 67 (by decide)).trans ho2
  refine se_aload_n (pc := 360) rfl dL_law_360 ?_
  refine se_invV (pc := 361) (as := []) (st := []) (vok sc) kR_thrown dL_law_361 ⟨wd_641, wd_642, wd_643, wd_3⟩ rfl hR3.1 rfl (Nat.le_of_ble_eq_true rfl) (Nat.le_of_ble_eq_true rfl) (c_R_thrown hR3) (C2 := CC) (S2 := SS) (by omega) (by omega) (fun v361 h361 _ q361 => ?_) (fun x hx => absurd hx List.not_mem_nil) (fun v361 h361 _ q361 => ?_)
  rotate_left
  · cases q361.2
  obtain ⟨h361e, q361⟩ := q361
  have h361f := h361e.symm
  subst h361f
  cases q361
  refine se_iload (pc := 364) rfl dL_law_364 ?_
  refine se_icmp_eq (pc := 366) (tgt := 371) dL_law_366 (by decide) (fun q1 => ?_) (fun q1 => absurd q1 (fun z => z rfl))
  refine se_goto (pc := 371) (tgt := 1690) dL_law_371 (by decide) ?_
  exact hk _ _ _ _ _ ⟨β2, g2, nI (sp_unlist S (xs (i + 1)) (xs (i + 2))).1, hC3, hb2, hR3, ho3, by rw [hf3.1]; exact Nat.le_trans h68 hl2, K_unlist hV⟩
set_option maxHeartbeats 1000000 in
set_option maxRecDepth 100000 in
theorem b_answer (hd : 10 ≤ d) (hN : N < 2 ^ 31) (hb : (bb, N0, xs) ∈ (vG sc).2.2.2.2.2) (h35 : N0 ≤ 3584) (hin : i + 7 ≤ N0) (hl : lI N S h) (hk : ∀ (S' : st_S) (h' : se_H) (z5 z6 z7 : Option Value), lI (N + 1) S' h' → se_W (vG sc) l (d + 1) mL_law 1690 [some (.retAddr bb), some (.ref 0), some (.ref 41), some (.ref 67), some (.int (nI i)), z5, z6, z7] [] h' CC SS lZ) : se_W (vG sc) l (d + 1) mL_law 374 [some (.retAddr bb), some (.ref 0), some (.ref 41), some (.ref 67), some (.int (nI i)), z5, z6, z7] [] h (CC + 8) (SS + 78) lZ := by
  obtain ⟨β, g9, t, hC, hβ, hR, ho, h68, hV⟩ := hl
  refine se_aload_n (pc := 374) rfl dL_law_374 ?_
  refine se_aload_nR (pc := 375) rfl dL_law_375 ?_
  refine se_iload (pc := 376) rfl dL_law_376 ?_
  refine se_iconst (pc := 378) 1 (by decide) dL_law_378 ?_
  refine se_iadd (pc := 379) dL_law_379 ?_
  rw [nI_p1]
  refine se_sldN (pc := 380) dL_law_380 hb (by omega) (by omega) ?_
  refine se_aload_nR (pc := 381) rfl dL_law_381 ?_
  refine se_iload (pc := 382) rfl dL_law_382 ?_
  refine se_iconst (pc := 384) 2 (by decide) dL_law_384 ?_
  refine se_iadd (pc := 385) dL_law_385 ?_
  rw [nI_p2]
  refine se_sldN (pc := 386) dL_law_386 hb (by omega) (by omega) ?_
  refine se_aload_nR (pc := 387) rfl dL_law_387 ?_
  refine se_iload (pc := 388) rfl dL_law_388 ?_
  refine se_iconst (pc := 390) 3 (by decide) dL_law_390 ?_
  refine se_iadd (pc := 391) dL_law_391 ?_
  rw [nI_p3]
  refine se_sldN (pc := 392) dL_law_392 hb (by omega) (by omega) ?_
  refine se_aload_nR (pc := 393) rfl dL_law_393 ?_
  refine se_iload (pc := 394) rfl dL_law_394 ?_
  refine se_iconst (pc := 396) 4 (by decide) dL_law_396 ?_
  refine se_iadd (pc := 397) dL_law_397 ?_
  rw [nI_p4]
  refine se_sldN (pc := 398) dL_law_398 hb (by omega) (by omega) ?_
  refine se_aload_n (pc := 399) rfl dL_law_399 ?_
  refine se_invSH (pc := 400) (as := [.ref 0, .int (xs (i + 1)), .int (xs (i + 2)), .int (xs (i + 3)), .int (xs (i + 4)), .ref 67]) (st := []) (vok sc) kL_answer dL_law_400 ⟨wd_308, wd_309, wd_0⟩ rfl (Nat.le_of_ble_eq_true rfl) (Nat.le_of_ble_eq_true rfl) (w_answer (by omega) hC hβ hV ho) (C2 := CC) (S2 := SS) (by omega) (by omega) (fun v400 h400 _ q400 => ?_) (fun x hx => absurd hx List.not_mem_nil) (fun v400 h400 _ q400 => ?_)
  rotate_left
  · cases q400.1
  obtain ⟨q400, ⟨β2, hC2, hb2⟩, hl2, hf2, g2, ho2, hv2⟩ := q400
  cases q400
  have hR2 := is_R_mv hR hf2
  refine se_istore (pc := 403) dL_law_403 (by decide) [some (.retAddr bb), some (.ref 0), some (.ref 41), some (.ref 67), some (.int (nI i)), some (.int (nI (sp_answer S (xs (i + 1)) (xs (i + 2)) (xs (i + 3)) (xs (i + 4))).1)), z6, z7] rfl ?_
  refine se_aload_n (pc := 405) rfl dL_law_405 ?_
  refine se_aload_nR (pc := 406) rfl dL_law_406 ?_
  refine se_iload (pc := 407) rfl dL_law_407 ?_
  refine se_iconst (pc := 409) 1 (by decide) dL_law_409 ?_
  refine se_iadd (pc := 410) dL_law_410 ?_
  rw [nI_p1]
  refine se_sldN (pc := 411) dL_law_411 hb (by omega) (by omega) ?_
  refine se_aload_nR (pc := 412) rfl dL_law_412 ?_
  refine se_iload (pc := 413) rfl dL_law_413 ?_
  refine se_iconst (pc := 415) 2 (by decide) dL_law_415 ?_
  refine se_iadd (pc := 416) dL_law_416 ?_
  rw [nI_p2]
  refine se_sldN (pc := 417) dL_law_417 hb (by omega) (by omega) ?_
  refine se_aload_nR (pc := 418) rfl dL_law_418 ?_
  refine se_iload (pc := 419) rfl dL_law_419 ?_
  refine se_iconst (pc := 421) 3 (by decide) dL_law_421 ?_
  refine se_iadd (pc := 422) dL_law_422 ?_
  rw [nI_p3]
  refine se_sldN (pc := 423) dL_law_423 hb (by omega) (by omega) ?_
  refine se_aload_nR (pc := 424) rfl dL_law_424 ?_
  refine se_iload (pc := 425) rfl dL_law_425 ?_
  refine se_iconst (pc := 427) 4 (by decide) dL_law_427 ?_
  refine se_iadd (pc := 428) dL_law_428 ?_
  rw [nI_p4]
  refine se_sldN (pc := 429) dL_law_429 hb (by omega) (by omega) ?_
  refine se_invV (pc := 430) (as := [.int (xs (i + 1)), .int (xs (i + 2)), .int (xs (i + 3)), .int (xs (i + 4))]) (st := []) (vok sc) kR_answer dL_law_430 ⟨wd_670, wd_671, wd_672, wd_3⟩ rfl hR2.1 rfl (Nat.le_of_ble_eq_true rfl) (Nat.le_of_ble_eq_true rfl) (r_answer (by omega) hR2 hV.1 hV.2.2 hN) (C2 := CC) (S2 := SS) (by omega) (by omega) (fun v430 h430 _ q430 => ?_) (fun x hx => absurd hx List.not_mem_nil) (fun v430 h430 _ q430 => ?_)
  rotate_left
  · obtain ⟨⟨_, e, _⟩, _⟩ := q430; cases e
  obtain ⟨⟨x3, q430, hx3⟩, hR3, hf3⟩ := q430
  cases q430
  have hC3 := is_C_mv hC2 hb2 (fun a ha => hf3.2 a (by omega))
  have ho3 : is_O g2 _ := (hf3.2 67 (by decide)).trans ho2
  refine se_istore (pc := 433) dL_law_433 (by decide) [some (.retAddr bb), some (.ref 0), some (.ref 41), some (.ref 67), some (.int (nI i)), some (.int (nI (sp_answer S (xs (i + 1)) (xs (i + 2)) (xs (i + 3)) (xs (i + 4))).1)), some (.int x3), z7] rfl ?_
  refine se_aload_n (pc := 435) rfl dL_law_435 ?_
  refine se_invV (pc := 436) (as := []) (st := []) (vok sc) kR_thrown dL_law_436 ⟨wd_641, wd_642, wd_643, wd_3⟩ rfl hR3.1 rfl (Nat.le_of_ble_eq_true rfl) (Nat.le_of_ble_eq_true rfl) (c_R_thrown hR3) (C2 := CC) (S2 := SS) (by omega) (by omega) (fun v436 h436 _ q436 => ?_) (fun x hx => absurd hx List.not_mem_nil) (fun v436 h436 _ q436 => ?_)
  rotate_left
  · cases q436.2
  obtain ⟨h436e, q436⟩ := q436
  have h436f := h436e.symm
  subst h436f
  cases q436
  refine se_iload (pc := 439) rfl dL_law_439 ?_
  refine se_icmp_eq (pc := 441) (tgt := 446) dL_law_441 (by decide) (fun q1 => ?_) (fun q1 => absurd q1 (fun z => z rfl))
  refine se_iload (pc := 446) rfl dL_law_446 ?_
  refine se_if_ne (pc := 448) (tgt := 470) dL_law_448 (by decide) (fun q2 => ?_) (fun q2 => ?_)
  · refine se_goto (pc := 470) (tgt := 1690) dL_law_470 (by decide) ?_
    exact hk _ _ _ _ _ ⟨β2, g2, nI (sp_answer S (xs (i + 1)) (xs (i + 2)) (xs (i + 3)) (xs (i + 4))).1, hC3, hb2, hR3, ho3, by rw [hf3.1]; exact Nat.le_trans h68 hl2, K_answer hV⟩
  · have hz8 : (sp_answer S (xs (i + 1)) (xs (i + 2)) (xs (i + 3)) (xs (i + 4))).1 = 0 := nI_z0 cb_answer (by assumption)
    have ev9 := vB_eq (hv2 hz8) (hx3 hz8)
    refine se_aload_n (pc := 451) rfl dL_law_451 ?_
    refine se_iconst (pc := 452) 0 (by decide) dL_law_452 ?_
    refine se_laldN (pc := 453) (j := 0) 2 dL_law_453 rfl ho3 (by decide) (by decide) ?_
    refine se_iload (pc := 454) rfl dL_law_454 ?_
    refine se_if_eq (pc := 456) (tgt := 463) dL_law_456 (by decide) (fun q3 => ?_) (fun q3 => ?_)
    · refine se_lconst (pc := 463) 0 (by decide) dL_law_463 ?_
      refine se_lcmp (pc := 464) dL_law_464 ?_
      refine se_if_eq (pc := 465) (tgt := 470) dL_law_465 (by decide) (fun q4 => ?_) (fun q4 => absurd q4 (fun z => z (by first | (rw [ev9, if_pos (show x3 = 0 by assumption)]; exact lg_self _) | (rw [ev9, if_neg (show ¬ x3 = 0 by assumption)]; exact lg_self _))))
      refine se_goto (pc := 470) (tgt := 1690) dL_law_470 (by decide) ?_
      exact hk _ _ _ _ _ ⟨β2, g2, nI (sp_answer S (xs (i + 1)) (xs (i + 2)) (xs (i + 3)) (xs (i + 4))).1, hC3, hb2, hR3, ho3, by rw [hf3.1]; exact Nat.le_trans h68 hl2, K_answer hV⟩
    · refine se_lconst (pc := 459) 1 (by decide) dL_law_459 ?_
      refine se_goto (pc := 460) (tgt := 464) dL_law_460 (by decide) ?_
      refine se_lcmp (pc := 464) dL_law_464 ?_
      refine se_if_eq (pc := 465) (tgt := 470) dL_law_465 (by decide) (fun q5 => ?_) (fun q5 => absurd q5 (fun z => z (by first | (rw [ev9, if_pos (show x3 = 0 by assumption)]; exact lg_self _) | (rw [ev9, if_neg (show ¬ x3 = 0 by assumption)]; exact lg_self _))))
      refine se_goto (pc := 470) (tgt := 1690) dL_law_470 (by decide) ?_
      exact hk _ _ _ _ _ ⟨β2, g2, nI (sp_answer S (xs (i + 1)) (xs (i + 2)) (xs (i + 3)) (xs (i + 4))).1, hC3, hb2, hR3, ho3, by rw [hf3.1]; exact Nat.le_trans h68 hl2, K_answer hV⟩
set_option maxHeartbeats 1000000 in
set_option maxRecDepth 100000 in
theorem b_item (hd : 10 ≤ d) (hN : N < 2 ^ 31) (hb : (bb, N0, xs) ∈ (vG sc).2.2.2.2.2) (h35 : N0 ≤ 3584) (hin : i + 7 ≤ N0) (hl : lI N S h) (hk : ∀ (S' : st_S) (h' : se_H) (z5 z6 z7 : Option Value), lI (N + 1) S' h' → se_W (vG sc) l (d + 1) mL_law 1690 [some (.retAddr bb), some (.ref 0), some (.ref 41), some (.ref 67), some (.int (nI i)), z5, z6, z7] [] h' CC SS lZ) : se_W (vG sc) l (d + 1) mL_law 473 [some (.retAddr bb), some (.ref 0), some (.ref 41), some (.ref 67), some (.int (nI i)), z5, z6, z7] [] h (CC + 8) (SS + 78) lZ := by
  obtain ⟨β, g9, t, hC, hβ, hR, ho, h68, hV⟩ := hl
  refine se_aload_n (pc := 473) rfl dL_law_473 ?_
  refine se_aload_nR (pc := 474) rfl dL_law_474 ?_
  refine se_iload (pc := 475) rfl dL_law_475 ?_
  refine se_iconst (pc := 477) 1 (by decide) dL_law_477 ?_
  refine se_iadd (pc := 478) dL_law_478 ?_
  rw [nI_p1]
  refine se_sldN (pc := 479) dL_law_479 hb (by omega) (by omega) ?_
  refine se_aload_nR (pc := 480) rfl dL_law_480 ?_
  refine se_iload (pc := 481) rfl dL_law_481 ?_
  refine se_iconst (pc := 483) 2 (by decide) dL_law_483 ?_
  refine se_iadd (pc := 484) dL_law_484 ?_
  rw [nI_p2]
  refine se_sldN (pc := 485) dL_law_485 hb (by omega) (by omega) ?_
  refine se_aload_nR (pc := 486) rfl dL_law_486 ?_
  refine se_iload (pc := 487) rfl dL_law_487 ?_
  refine se_iconst (pc := 489) 3 (by decide) dL_law_489 ?_
  refine se_iadd (pc := 490) dL_law_490 ?_
  rw [nI_p3]
  refine se_sldN (pc := 491) dL_law_491 hb (by omega) (by omega) ?_
  refine se_aload_n (pc := 492) rfl dL_law_492 ?_
  refine se_invSH (pc := 493) (as := [.ref 0, .int (xs (i + 1)), .int (xs (i + 2)), .int (xs (i + 3)), .ref 67]) (st := []) (vok sc) kL_item dL_law_493 ⟨wd_334, wd_335, wd_0⟩ rfl (Nat.le_of_ble_eq_true rfl) (Nat.le_of_ble_eq_true rfl) (w_item (by omega) hC hβ hV ho) (C2 := CC) (S2 := SS) (by omega) (by omega) (fun v493 h493 _ q493 => ?_) (fun x hx => absurd hx List.not_mem_nil) (fun v493 h493 _ q493 => ?_)
  rotate_left
  · cases q493.1
  obtain ⟨q493, ⟨β2, hC2, hb2⟩, hl2, hf2, g2, ho2, hv2⟩ := q493
  cases q493
  have hR2 := is_R_mv hR hf2
  refine se_istore (pc := 496) dL_law_496 (by decide) [some (.retAddr bb), some (.ref 0), some (.ref 41), some (.ref 67), some (.int (nI i)), some (.int (nI (sp_item S (xs (i + 1)) (xs (i + 2)) (xs (i + 3))).1)), z6, z7] rfl ?_
  refine se_aload_n (pc := 498) rfl dL_law_498 ?_
  refine se_aload_nR (pc := 499) rfl dL_law_499 ?_
  refine se_iload (pc := 500) rfl dL_law_500 ?_
  refine se_iconst (pc := 502) 1 (by decide) dL_law_502 ?_
  refine se_iadd (pc := 503) dL_law_503 ?_
  rw [nI_p1]
  refine se_sldN (pc := 504) dL_law_504 hb (by omega) (by omega) ?_
  refine se_aload_nR (pc := 505) rfl dL_law_505 ?_
  refine se_iload (pc := 506) rfl dL_law_506 ?_
  refine se_iconst (pc := 508) 2 (by decide) dL_law_508 ?_
  refine se_iadd (pc := 509) dL_law_509 ?_
  rw [nI_p2]
  refine se_sldN (pc := 510) dL_law_510 hb (by omega) (by omega) ?_
  refine se_aload_nR (pc := 511) rfl dL_law_511 ?_
  refine se_iload (pc := 512) rfl dL_law_512 ?_
  refine se_iconst (pc := 514) 3 (by decide) dL_law_514 ?_
  refine se_iadd (pc := 515) dL_law_515 ?_
  rw [nI_p3]
  refine se_sldN (pc := 516) dL_law_516 hb (by omega) (by omega) ?_
  refine se_invV (pc := 517) (as := [.int (xs (i + 1)), .int (xs (i + 2)), .int (xs (i + 3))]) (st := []) (vok sc) kR_item dL_law_517 ⟨wd_691, wd_692, wd_693, wd_3⟩ rfl hR2.1 rfl (Nat.le_of_ble_eq_true rfl) (Nat.le_of_ble_eq_true rfl) (r_item (by omega) hR2 hV.1 hV.2.2 hN) (C2 := CC) (S2 := SS) (by omega) (by omega) (fun v517 h517 _ q517 => ?_) (fun x hx => absurd hx List.not_mem_nil) (fun v517 h517 _ q517 => ?_)
  rotate_left
  · obtain ⟨⟨_, e, _⟩, _⟩ := q517; cases e
  obtain ⟨⟨x3, q517, hx3⟩, hR3, hf3⟩ := q517
  cases q517
  have hC3 := is_C_mv hC2 hb2 (fun a ha => hf3.2 a (by omega))
  have ho3 : is_O g2 _ := (hf3.2 67 (by decide)).trans ho2
  refine se_istore (pc := 520) dL_law_520 (by decide) [some (.retAddr bb), some (.ref 0), some (.ref 41), some (.ref 67), some (.int (nI i)), some (.int (nI (sp_item S (xs (i + 1)) (xs (i + 2)) (xs (i + 3))).1)), some (.int x3), z7] rfl ?_
  refine se_aload_n (pc := 522) rfl dL_law_522 ?_
  refine se_invV (pc := 523) (as := []) (st := []) (vok sc) kR_thrown dL_law_523 ⟨wd_641, wd_642, wd_643, wd_3⟩ rfl hR3.1 rfl (Nat.le_of_ble_eq_true rfl) (Nat.le_of_ble_eq_true rfl) (c_R_thrown hR3) (C2 := CC) (S2 := SS) (by omega) (by omega) (fun v523 h523 _ q523 => ?_) (fun x hx => absurd hx List.not_mem_nil) (fun v523 h523 _ q523 => ?_)
  rotate_left
  · cases q523.2
  obtain ⟨h523e, q523⟩ := q523
  have h523f := h523e.symm
  subst h523f
  cases q523
  refine se_iload (pc := 526) rfl dL_law_526 ?_
  refine se_icmp_eq (pc := 528) (tgt := 533) dL_law_528 (by decide) (fun q1 => ?_) (fun q1 => absurd q1 (fun z => z rfl))
  refine se_iload (pc := 533) rfl dL_law_533 ?_
  refine se_if_ne (pc := 535) (tgt := 550) dL_law_535 (by decide) (fun q2 => ?_) (fun q2 => ?_)
  · refine se_goto (pc := 550) (tgt := 1690) dL_law_550 (by decide) ?_
    exact hk _ _ _ _ _ ⟨β2, g2, nI (sp_item S (xs (i + 1)) (xs (i + 2)) (xs (i + 3))).1, hC3, hb2, hR3, ho3, by rw [hf3.1]; exact Nat.le_trans h68 hl2, K_item hV⟩
  · have hz8 : (sp_item S (xs (i + 1)) (xs (i + 2)) (xs (i + 3))).1 = 0 := nI_z0 cb_item (by assumption)
    have ev9 := vI_eq (hv2 hz8) (hx3 hz8)
    refine se_aload_n (pc := 538) rfl dL_law_538 ?_
    refine se_iconst (pc := 539) 0 (by decide) dL_law_539 ?_
    refine se_laldN (pc := 540) (j := 0) 2 dL_law_540 rfl ho3 (by decide) (by decide) ?_
    refine se_iload (pc := 541) rfl dL_law_541 ?_
    refine se_i2l (pc := 543) dL_law_543 ?_
    refine se_lcmp (pc := 544) dL_law_544 ?_
    refine se_if_eq (pc := 545) (tgt := 550) dL_law_545 (by decide) (fun q3 => ?_) (fun q3 => absurd q3 (fun z => z (by rw [ev9]; exact lg_self _)))
    refine se_goto (pc := 550) (tgt := 1690) dL_law_550 (by decide) ?_
    exact hk _ _ _ _ _ ⟨β2, g2, nI (sp_item S (xs (i + 1)) (xs (i + 2)) (xs (i + 3))).1, hC3, hb2, hR3, ho3, by rw [hf3.1]; exact Nat.le_trans h68 hl2, K_item hV⟩
set_option maxHeartbeats 1000000 in
set_option maxRecDepth 100000 in
theorem b_use (hd : 10 ≤ d) (hN : N < 2 ^ 31) (hb : (bb, N0, xs) ∈ (vG sc).2.2.2.2.2) (h35 : N0 ≤ 3584) (hin : i + 7 ≤ N0) (hl : lI N S h) (hk : ∀ (S' : st_S) (h' : se_H) (z5 z6 z7 : Option Value), lI (N + 1) S' h' → se_W (vG sc) l (d + 1) mL_law 1690 [some (.retAddr bb), some (.ref 0), some (.ref 41), some (.ref 67), some (.int (nI i)), z5, z6, z7] [] h' CC SS lZ) : se_W (vG sc) l (d + 1) mL_law 553 [some (.retAddr bb), some (.ref 0), some (.ref 41), some (.ref 67), some (.int (nI i)), z5, z6, z7] [] h (CC + 8) (SS + 78) lZ := by
  obtain ⟨β, g9, t, hC, hβ, hR, ho, h68, hV⟩ := hl
  refine se_aload_n (pc := 553) rfl dL_law_553 ?_
  refine se_aload_nR (pc := 554) rfl dL_law_554 ?_
  refine se_iload (pc := 555) rfl dL_law_555 ?_
  refine se_iconst (pc := 557) 1 (by decide) dL_law_557 ?_
  refine se_iadd (pc := 558) dL_law_558 ?_
  rw [nI_p1]
  refine se_sldN (pc := 559) dL_law_559 hb (by omega) (by omega) ?_
  refine se_aload_nR (pc := 560) rfl dL_law_560 ?_
  refine se_iload (pc := 561) rfl dL_law_561 ?_
  refine se_iconst (pc := 563) 2 (by decide) dL_law_563 ?_
  refine se_iadd (pc := 564) dL_law_564 ?_
  rw [nI_p2]
  refine se_sldN (pc := 565) dL_law_565 hb (by omega) (by omega) ?_
  refine se_aload_n (pc := 566) rfl dL_law_566 ?_
  refine se_invSH (pc := 567) (as := [.ref 0, .int (xs (i + 1)), .int (xs (i + 2)), .ref 67]) (st := []) (vok sc) kL_use dL_law_567 ⟨wd_354, wd_355, wd_0⟩ rfl (Nat.le_of_ble_eq_true rfl) (Nat.le_of_ble_eq_true rfl) (w_use (by omega) hC hβ hV ho) (C2 := CC) (S2 := SS) (by omega) (by omega) (fun v567 h567 _ q567 => ?_) (fun x hx => absurd hx List.not_mem_nil) (fun v567 h567 _ q567 => ?_)
  rotate_left
  · cases q567.1
  obtain ⟨q567, ⟨β2, hC2, hb2⟩, hl2, hf2, g2, ho2, hv2⟩ := q567
  cases q567
  have hR2 := is_R_mv hR hf2
  refine se_istore (pc := 570) dL_law_570 (by decide) [some (.retAddr bb), some (.ref 0), some (.ref 41), some (.ref 67), some (.int (nI i)), some (.int (nI (sp_use S (xs (i + 1)) (xs (i + 2))).1)), z6, z7] rfl ?_
  refine se_aload_n (pc := 572) rfl dL_law_572 ?_
  refine se_aload_nR (pc := 573) rfl dL_law_573 ?_
  refine se_iload (pc := 574) rfl dL_law_574 ?_
  refine se_iconst (pc := 576) 1 (by decide) dL_law_576 ?_
  refine se_iadd (pc := 577) dL_law_577 ?_
  rw [nI_p1]
  refine se_sldN (pc := 578) dL_law_578 hb (by omega) (by omega) ?_
  refine se_aload_nR (pc := 579) rfl dL_law_579 ?_
  refine se_iload (pc := 580) rfl dL_law_580 ?_
  refine se_iconst (pc := 582) 2 (by decide) dL_law_582 ?_
  refine se_iadd (pc := 583) dL_law_583 ?_
  rw [nI_p2]
  refine se_sldN (pc := 584) dL_law_584 hb (by omega) (by omega) ?_
  refine se_invV (pc := 585) (as := [.int (xs (i + 1)), .int (xs (i + 2))]) (st := []) (vok sc) kR_use dL_law_585 ⟨wd_719, wd_720, wd_721, wd_3⟩ rfl hR2.1 rfl (Nat.le_of_ble_eq_true rfl) (Nat.le_of_ble_eq_true rfl) (r_use (by omega) hR2 hV.1 hV.2.2 hN) (C2 := CC) (S2 := SS) (by omega) (by omega) (fun v585 h585 _ q585 => ?_) (fun x hx => absurd hx List.not_mem_nil) (fun v585 h585 _ q585 => ?_)
  rotate_left
  · obtain ⟨⟨_, e, _⟩, _⟩ := q585; cases e
  obtain ⟨⟨x3, q585, hx3⟩, hR3, hf3⟩ := q585
  cases q585
  have hC3 := is_C_mv hC2 hb2 (fun a ha => hf3.2 a (by omega))
  have ho3 : is_O g2 _ := (hf3.2 67 (by decide)).trans ho2
  refine se_istore (pc := 588) dL_law_588 (by decide) [some (.retAddr bb), some (.ref 0), some (.ref 41), some (.ref 67), some (.int (nI i)), some (.int (nI (sp_use S (xs (i + 1)) (xs (i + 2))).1)), some (.int x3), z7] rfl ?_
  refine se_aload_n (pc := 590) rfl dL_law_590 ?_
  refine se_invV (pc := 591) (as := []) (st := []) (vok sc) kR_thrown dL_law_591 ⟨wd_641, wd_642, wd_643, wd_3⟩ rfl hR3.1 rfl (Nat.le_of_ble_eq_true rfl) (Nat.le_of_ble_eq_true rfl) (c_R_thrown hR3) (C2 := CC) (S2 := SS) (by omega) (by omega) (fun v591 h591 _ q591 => ?_) (fun x hx => absurd hx List.not_mem_nil) (fun v591 h591 _ q591 => ?_)
  rotate_left
  · cases q591.2
  obtain ⟨h591e, q591⟩ := q591
  have h591f := h591e.symm
  subst h591f
  cases q591
  refine se_iload (pc := 594) rfl dL_law_594 ?_
  refine se_icmp_eq (pc := 596) (tgt := 601) dL_law_596 (by decide) (fun q1 => ?_) (fun q1 => absurd q1 (fun z => z rfl))
  refine se_iload (pc := 601) rfl dL_law_601 ?_
  refine se_if_ne (pc := 603) (tgt := 625) dL_law_603 (by decide) (fun q2 => ?_) (fun q2 => ?_)
  · refine se_goto (pc := 625) (tgt := 1690) dL_law_625 (by decide) ?_
    exact hk _ _ _ _ _ ⟨β2, g2, nI (sp_use S (xs (i + 1)) (xs (i + 2))).1, hC3, hb2, hR3, ho3, by rw [hf3.1]; exact Nat.le_trans h68 hl2, K_use hV⟩
  · have hz8 : (sp_use S (xs (i + 1)) (xs (i + 2))).1 = 0 := nI_z0 cb_use (by assumption)
    have ev9 := vB_eq (hv2 hz8) (hx3 hz8)
    refine se_aload_n (pc := 606) rfl dL_law_606 ?_
    refine se_iconst (pc := 607) 0 (by decide) dL_law_607 ?_
    refine se_laldN (pc := 608) (j := 0) 2 dL_law_608 rfl ho3 (by decide) (by decide) ?_
    refine se_iload (pc := 609) rfl dL_law_609 ?_
    refine se_if_eq (pc := 611) (tgt := 618) dL_law_611 (by decide) (fun q3 => ?_) (fun q3 => ?_)
    · refine se_lconst (pc := 618) 0 (by decide) dL_law_618 ?_
      refine se_lcmp (pc := 619) dL_law_619 ?_
      refine se_if_eq (pc := 620) (tgt := 625) dL_law_620 (by decide) (fun q4 => ?_) (fun q4 => absurd q4 (fun z => z (by first | (rw [ev9, if_pos (show x3 = 0 by assumption)]; exact lg_self _) | (rw [ev9, if_neg (show ¬ x3 = 0 by assumption)]; exact lg_self _))))
      refine se_goto (pc := 625) (tgt := 1690) dL_law_625 (by decide) ?_
      exact hk _ _ _ _ _ ⟨β2, g2, nI (sp_use S (xs (i + 1)) (xs (i + 2))).1, hC3, hb2, hR3, ho3, by rw [hf3.1]; exact Nat.le_trans h68 hl2, K_use hV⟩
    · refine se_lconst (pc := 614) 1 (by decide) dL_law_614 ?_
      refine se_goto (pc := 615) (tgt := 619) dL_law_615 (by decide) ?_
      refine se_lcmp (pc := 619) dL_law_619 ?_
      refine se_if_eq (pc := 620) (tgt := 625) dL_law_620 (by decide) (fun q5 => ?_) (fun q5 => absurd q5 (fun z => z (by first | (rw [ev9, if_pos (show x3 = 0 by assumption)]; exact lg_self _) | (rw [ev9, if_neg (show ¬ x3 = 0 by assumption)]; exact lg_self _))))
      refine se_goto (pc := 625) (tgt := 1690) dL_law_625 (by decide) ?_
      exact hk _ _ _ _ _ ⟨β2, g2, nI (sp_use S (xs (i + 1)) (xs (i + 2))).1, hC3, hb2, hR3, ho3, by rw [hf3.1]; exact Nat.le_trans h68 hl2, K_use hV⟩
set_option maxHeartbeats 1000000 in
set_option maxRecDepth 100000 in
theorem b_runs (hd : 10 ≤ d) (hN : N < 2 ^ 31) (hb : (bb, N0, xs) ∈ (vG sc).2.2.2.2.2) (h35 : N0 ≤ 3584) (hin : i + 7 ≤ N0) (hl : lI N S h) (hk : ∀ (S' : st_S) (h' : se_H) (z5 z6 z7 : Option Value), lI (N + 1) S' h' → se_W (vG sc) l (d + 1) mL_law 1690 [some (.retAddr bb), some (.ref 0), some (.ref 41), some (.ref 67), some (.int (nI i)), z5, z6, z7] [] h' CC SS lZ) : se_W (vG sc) l (d + 1) mL_law 628 [some (.retAddr bb), some (.ref 0), some (.ref 41), some (.ref 67), some (.int (nI i)), z5, z6, z7] [] h (CC + 8) (SS + 78) lZ := by
  obtain ⟨β, g9, t, hC, hβ, hR, ho, h68, hV⟩ := hl
  refine se_aload_n (pc := 628) rfl dL_law_628 ?_
  refine se_aload_nR (pc := 629) rfl dL_law_629 ?_
  refine se_iload (pc := 630) rfl dL_law_630 ?_
  refine se_iconst (pc := 632) 1 (by decide) dL_law_632 ?_
  refine se_iadd (pc := 633) dL_law_633 ?_
  rw [nI_p1]
  refine se_sldN (pc := 634) dL_law_634 hb (by omega) (by omega) ?_
  refine se_aload_n (pc := 635) rfl dL_law_635 ?_
  refine se_invSH (pc := 636) (as := [.ref 0, .int (xs (i + 1)), .ref 67]) (st := []) (vok sc) kL_runs dL_law_636 ⟨wd_385, wd_386, wd_0⟩ rfl (Nat.le_of_ble_eq_true rfl) (Nat.le_of_ble_eq_true rfl) (w_runs (by omega) hC hβ hV ho) (C2 := CC) (S2 := SS) (by omega) (by omega) (fun v636 h636 _ q636 => ?_) (fun x hx => absurd hx List.not_mem_nil) (fun v636 h636 _ q636 => ?_)
  rotate_left
  · cases q636.1
  obtain ⟨q636, ⟨β2, hC2, hb2⟩, hl2, hf2, g2, ho2, hv2⟩ := q636
  cases q636
  have hR2 := is_R_mv hR hf2
  refine se_istore (pc := 639) dL_law_639 (by decide) [some (.retAddr bb), some (.ref 0), some (.ref 41), some (.ref 67), some (.int (nI i)), some (.int (nI (sp_runs S (xs (i + 1))).1)), z6, z7] rfl ?_
  refine se_aload_n (pc := 641) rfl dL_law_641 ?_
  refine se_aload_nR (pc := 642) rfl dL_law_642 ?_
  refine se_iload (pc := 643) rfl dL_law_643 ?_
  refine se_iconst (pc := 645) 1 (by decide) dL_law_645 ?_
  refine se_iadd (pc := 646) dL_law_646 ?_
  rw [nI_p1]
  refine se_sldN (pc := 647) dL_law_647 hb (by omega) (by omega) ?_
  refine se_invV (pc := 648) (as := [.int (xs (i + 1))]) (st := []) (vok sc) kR_runs dL_law_648 ⟨wd_711, wd_712, wd_713, wd_3⟩ rfl hR2.1 rfl (Nat.le_of_ble_eq_true rfl) (Nat.le_of_ble_eq_true rfl) (r_runs (by omega) hR2 hV.1 hV.2.2 hN) (C2 := CC) (S2 := SS) (by omega) (by omega) (fun v648 h648 _ q648 => ?_) (fun x hx => absurd hx List.not_mem_nil) (fun v648 h648 _ q648 => ?_)
  rotate_left
  · obtain ⟨⟨_, e, _⟩, _⟩ := q648; cases e
  obtain ⟨⟨x3, q648, hx3⟩, hR3, hf3⟩ := q648
  cases q648
  have hC3 := is_C_mv hC2 hb2 (fun a ha => hf3.2 a (by omega))
  have ho3 : is_O g2 _ := (hf3.2 67 (by decide)).trans ho2
  refine se_istore (pc := 651) dL_law_651 (by decide) [some (.retAddr bb), some (.ref 0), some (.ref 41), some (.ref 67), some (.int (nI i)), some (.int (nI (sp_runs S (xs (i + 1))).1)), some (.int x3), z7] rfl ?_
  refine se_aload_n (pc := 653) rfl dL_law_653 ?_
  refine se_invV (pc := 654) (as := []) (st := []) (vok sc) kR_thrown dL_law_654 ⟨wd_641, wd_642, wd_643, wd_3⟩ rfl hR3.1 rfl (Nat.le_of_ble_eq_true rfl) (Nat.le_of_ble_eq_true rfl) (c_R_thrown hR3) (C2 := CC) (S2 := SS) (by omega) (by omega) (fun v654 h654 _ q654 => ?_) (fun x hx => absurd hx List.not_mem_nil) (fun v654 h654 _ q654 => ?_)
  rotate_left
  · cases q654.2
  obtain ⟨h654e, q654⟩ := q654
  have h654f := h654e.symm
  subst h654f
  cases q654
  refine se_iload (pc := 657) rfl dL_law_657 ?_
  refine se_icmp_eq (pc := 659) (tgt := 664) dL_law_659 (by decide) (fun q1 => ?_) (fun q1 => absurd q1 (fun z => z rfl))
  refine se_iload (pc := 664) rfl dL_law_664 ?_
  refine se_if_ne (pc := 666) (tgt := 688) dL_law_666 (by decide) (fun q2 => ?_) (fun q2 => ?_)
  · refine se_goto (pc := 688) (tgt := 1690) dL_law_688 (by decide) ?_
    exact hk _ _ _ _ _ ⟨β2, g2, nI (sp_runs S (xs (i + 1))).1, hC3, hb2, hR3, ho3, by rw [hf3.1]; exact Nat.le_trans h68 hl2, K_runs hV⟩
  · have hz8 : (sp_runs S (xs (i + 1))).1 = 0 := nI_z0 cb_runs (by assumption)
    have ev9 := vB_eq (hv2 hz8) (hx3 hz8)
    refine se_aload_n (pc := 669) rfl dL_law_669 ?_
    refine se_iconst (pc := 670) 0 (by decide) dL_law_670 ?_
    refine se_laldN (pc := 671) (j := 0) 2 dL_law_671 rfl ho3 (by decide) (by decide) ?_
    refine se_iload (pc := 672) rfl dL_law_672 ?_
    refine se_if_eq (pc := 674) (tgt := 681) dL_law_674 (by decide) (fun q3 => ?_) (fun q3 => ?_)
    · refine se_lconst (pc := 681) 0 (by decide) dL_law_681 ?_
      refine se_lcmp (pc := 682) dL_law_682 ?_
      refine se_if_eq (pc := 683) (tgt := 688) dL_law_683 (by decide) (fun q4 => ?_) (fun q4 => absurd q4 (fun z => z (by first | (rw [ev9, if_pos (show x3 = 0 by assumption)]; exact lg_self _) | (rw [ev9, if_neg (show ¬ x3 = 0 by assumption)]; exact lg_self _))))
      refine se_goto (pc := 688) (tgt := 1690) dL_law_688 (by decide) ?_
      exact hk _ _ _ _ _ ⟨β2, g2, nI (sp_runs S (xs (i + 1))).1, hC3, hb2, hR3, ho3, by rw [hf3.1]; exact Nat.le_trans h68 hl2, K_runs hV⟩
    · refine se_lconst (pc := 677) 1 (by decide) dL_law_677 ?_
      refine se_goto (pc := 678) (tgt := 682) dL_law_678 (by decide) ?_
      refine se_lcmp (pc := 682) dL_law_682 ?_
      refine se_if_eq (pc := 683) (tgt := 688) dL_law_683 (by decide) (fun q5 => ?_) (fun q5 => absurd q5 (fun z => z (by first | (rw [ev9, if_pos (show x3 = 0 by assumption)]; exact lg_self _) | (rw [ev9, if_neg (show ¬ x3 = 0 by assumption)]; exact lg_self _))))
      refine se_goto (pc := 688) (tgt := 1690) dL_law_688 (by decide) ?_
      exact hk _ _ _ _ _ ⟨β2, g2, nI (sp_runs S (xs (i + 1))).1, hC3, hb2, hR3, ho3, by rw [hf3.1]; exact Nat.le_trans h68 hl2, K_runs hV⟩
set_option maxHeartbeats 1000000 in
set_option maxRecDepth 100000 in
theorem b_reason (hd : 10 ≤ d) (hN : N < 2 ^ 31) (hb : (bb, N0, xs) ∈ (vG sc).2.2.2.2.2) (h35 : N0 ≤ 3584) (hin : i + 7 ≤ N0) (hl : lI N S h) (hk : ∀ (S' : st_S) (h' : se_H) (z5 z6 z7 : Option Value), lI (N + 1) S' h' → se_W (vG sc) l (d + 1) mL_law 1690 [some (.retAddr bb), some (.ref 0), some (.ref 41), some (.ref 67), some (.int (nI i)), z5, z6, z7] [] h' CC SS lZ) : se_W (vG sc) l (d + 1) mL_law 691 [some (.retAddr bb), some (.ref 0), some (.ref 41), some (.ref 67), some (.int (nI i)), z5, z6, z7] [] h (CC + 8) (SS + 78) lZ := by
  obtain ⟨β, g9, t, hC, hβ, hR, ho, h68, hV⟩ := hl
  refine se_aload_n (pc := 691) rfl dL_law_691 ?_
  refine se_aload_nR (pc := 692) rfl dL_law_692 ?_
  refine se_iload (pc := 693) rfl dL_law_693 ?_
  refine se_iconst (pc := 695) 1 (by decide) dL_law_695 ?_
  refine se_iadd (pc := 696) dL_law_696 ?_
  rw [nI_p1]
  refine se_sldN (pc := 697) dL_law_697 hb (by omega) (by omega) ?_
  refine se_aload_nR (pc := 698) rfl dL_law_698 ?_
  refine se_iload (pc := 699) rfl dL_law_699 ?_
  refine se_iconst (pc := 701) 2 (by decide) dL_law_701 ?_
  refine se_iadd (pc := 702) dL_law_702 ?_
  rw [nI_p2]
  refine se_sldN (pc := 703) dL_law_703 hb (by omega) (by omega) ?_
  refine se_aload_n (pc := 704) rfl dL_law_704 ?_
  refine se_invSH (pc := 705) (as := [.ref 0, .int (xs (i + 1)), .int (xs (i + 2)), .ref 67]) (st := []) (vok sc) kL_reason dL_law_705 ⟨wd_392, wd_393, wd_0⟩ rfl (Nat.le_of_ble_eq_true rfl) (Nat.le_of_ble_eq_true rfl) (w_reason (by omega) hC hβ hV ho) (C2 := CC) (S2 := SS) (by omega) (by omega) (fun v705 h705 _ q705 => ?_) (fun x hx => absurd hx List.not_mem_nil) (fun v705 h705 _ q705 => ?_)
  rotate_left
  · cases q705.1
  obtain ⟨q705, ⟨β2, hC2, hb2⟩, hl2, hf2, g2, ho2, hv2⟩ := q705
  cases q705
  have hR2 := is_R_mv hR hf2
  refine se_istore (pc := 708) dL_law_708 (by decide) [some (.retAddr bb), some (.ref 0), some (.ref 41), some (.ref 67), some (.int (nI i)), some (.int (nI (sp_reason S (xs (i + 1)) (xs (i + 2))).1)), z6, z7] rfl ?_
  refine se_aload_n (pc := 710) rfl dL_law_710 ?_
  refine se_aload_nR (pc := 711) rfl dL_law_711 ?_
  refine se_iload (pc := 712) rfl dL_law_712 ?_
  refine se_iconst (pc := 714) 1 (by decide) dL_law_714 ?_
  refine se_iadd (pc := 715) dL_law_715 ?_
  rw [nI_p1]
  refine se_sldN (pc := 716) dL_law_716 hb (by omega) (by omega) ?_
  refine se_aload_nR (pc := 717) rfl dL_law_717 ?_
  refine se_iload (pc := 718) rfl dL_law_718 ?_
  refine se_iconst (pc := 720) 2 (by decide) dL_law_720 ?_
  refine se_iadd (pc := 721) dL_law_721 ?_
  rw [nI_p2]
  refine se_sldN (pc := 722) dL_law_722 hb (by omega) (by omega) ?_
  refine se_invV (pc := 723) (as := [.int (xs (i + 1)), .int (xs (i + 2))]) (st := []) (vok sc) kR_reason dL_law_723 ⟨wd_703, wd_704, wd_705, wd_3⟩ rfl hR2.1 rfl (Nat.le_of_ble_eq_true rfl) (Nat.le_of_ble_eq_true rfl) (r_reason (by omega) hR2 hV.1 hV.2.2 hN) (C2 := CC) (S2 := SS) (by omega) (by omega) (fun v723 h723 _ q723 => ?_) (fun x hx => absurd hx List.not_mem_nil) (fun v723 h723 _ q723 => ?_)
  rotate_left
  · obtain ⟨⟨_, e, _⟩, _⟩ := q723; cases e
  obtain ⟨⟨x3, q723, hx3⟩, hR3, hf3⟩ := q723
  cases q723
  have hC3 := is_C_mv hC2 hb2 (fun a ha => hf3.2 a (by omega))
  have ho3 : is_O g2 _ := (hf3.2 67 (by decide)).trans ho2
  refine se_istore (pc := 726) dL_law_726 (by decide) [some (.retAddr bb), some (.ref 0), some (.ref 41), some (.ref 67), some (.int (nI i)), some (.int (nI (sp_reason S (xs (i + 1)) (xs (i + 2))).1)), some (.int x3), z7] rfl ?_
  refine se_aload_n (pc := 728) rfl dL_law_728 ?_
  refine se_invV (pc := 729) (as := []) (st := []) (vok sc) kR_thrown dL_law_729 ⟨wd_641, wd_642, wd_643, wd_3⟩ rfl hR3.1 rfl (Nat.le_of_ble_eq_true rfl) (Nat.le_of_ble_eq_true rfl) (c_R_thrown hR3) (C2 := CC) (S2 := SS) (by omega) (by omega) (fun v729 h729 _ q729 => ?_) (fun x hx => absurd hx List.not_mem_nil) (fun v729 h729 _ q729 => ?_)
  rotate_left
  · cases q729.2
  obtain ⟨h729e, q729⟩ := q729
  have h729f := h729e.symm
  subst h729f
  cases q729
  refine se_iload (pc := 732) rfl dL_law_732 ?_
  refine se_icmp_eq (pc := 734) (tgt := 739) dL_law_734 (by decide) (fun q1 => ?_) (fun q1 => absurd q1 (fun z => z rfl))
  refine se_iload (pc := 739) rfl dL_law_739 ?_
  refine se_if_ne (pc := 741) (tgt := 756) dL_law_741 (by decide) (fun q2 => ?_) (fun q2 => ?_)
  · refine se_goto (pc := 756) (tgt := 1690) dL_law_756 (by decide) ?_
    exact hk _ _ _ _ _ ⟨β2, g2, nI (sp_reason S (xs (i + 1)) (xs (i + 2))).1, hC3, hb2, hR3, ho3, by rw [hf3.1]; exact Nat.le_trans h68 hl2, K_reason hV⟩
  · have hz8 : (sp_reason S (xs (i + 1)) (xs (i + 2))).1 = 0 := nI_z0 cb_reason (by assumption)
    have ev9 := vI_eq (hv2 hz8) (hx3 hz8)
    refine se_aload_n (pc := 744) rfl dL_law_744 ?_
    refine se_iconst (pc := 745) 0 (by decide) dL_law_745 ?_
    refine se_laldN (pc := 746) (j := 0) 2 dL_law_746 rfl ho3 (by decide) (by decide) ?_
    refine se_iload (pc := 747) rfl dL_law_747 ?_
    refine se_i2l (pc := 749) dL_law_749 ?_
    refine se_lcmp (pc := 750) dL_law_750 ?_
    refine se_if_eq (pc := 751) (tgt := 756) dL_law_751 (by decide) (fun q3 => ?_) (fun q3 => absurd q3 (fun z => z (by rw [ev9]; exact lg_self _)))
    refine se_goto (pc := 756) (tgt := 1690) dL_law_756 (by decide) ?_
    exact hk _ _ _ _ _ ⟨β2, g2, nI (sp_reason S (xs (i + 1)) (xs (i + 2))).1, hC3, hb2, hR3, ho3, by rw [hf3.1]; exact Nat.le_trans h68 hl2, K_reason hV⟩
set_option maxHeartbeats 1000000 in
set_option maxRecDepth 100000 in
theorem b_off (hd : 10 ≤ d) (hN : N < 2 ^ 31) (hb : (bb, N0, xs) ∈ (vG sc).2.2.2.2.2) (h35 : N0 ≤ 3584) (hin : i + 7 ≤ N0) (hl : lI N S h) (hk : ∀ (S' : st_S) (h' : se_H) (z5 z6 z7 : Option Value), lI (N + 1) S' h' → se_W (vG sc) l (d + 1) mL_law 1690 [some (.retAddr bb), some (.ref 0), some (.ref 41), some (.ref 67), some (.int (nI i)), z5, z6, z7] [] h' CC SS lZ) : se_W (vG sc) l (d + 1) mL_law 759 [some (.retAddr bb), some (.ref 0), some (.ref 41), some (.ref 67), some (.int (nI i)), z5, z6, z7] [] h (CC + 8) (SS + 78) lZ := by
  obtain ⟨β, g9, t, hC, hβ, hR, ho, h68, hV⟩ := hl
  refine se_aload_n (pc := 759) rfl dL_law_759 ?_
  refine se_aload_nR (pc := 760) rfl dL_law_760 ?_
  refine se_iload (pc := 761) rfl dL_law_761 ?_
  refine se_iconst (pc := 763) 1 (by decide) dL_law_763 ?_
  refine se_iadd (pc := 764) dL_law_764 ?_
  rw [nI_p1]
  refine se_sldN (pc := 765) dL_law_765 hb (by omega) (by omega) ?_
  refine se_aload_nR (pc := 766) rfl dL_law_766 ?_
  refine se_iload (pc := 767) rfl dL_law_767 ?_
  refine se_iconst (pc := 769) 2 (by decide) dL_law_769 ?_
  refine se_iadd (pc := 770) dL_law_770 ?_
  rw [nI_p2]
  refine se_sldN (pc := 771) dL_law_771 hb (by omega) (by omega) ?_
  refine se_if_eq (pc := 772) (tgt := 779) dL_law_772 (by decide) (fun q1 => ?_) (fun q1 => ?_)
  · refine se_iconst (pc := 779) 0 (by decide) dL_law_779 ?_
    refine se_aload_nR (pc := 780) rfl dL_law_780 ?_
    refine se_iload (pc := 781) rfl dL_law_781 ?_
    refine se_iconst (pc := 783) 3 (by decide) dL_law_783 ?_
    refine se_iadd (pc := 784) dL_law_784 ?_
    rw [nI_p3]
    refine se_sldN (pc := 785) dL_law_785 hb (by omega) (by omega) ?_
    refine se_aload_nR (pc := 786) rfl dL_law_786 ?_
    refine se_iload (pc := 787) rfl dL_law_787 ?_
    refine se_iconst (pc := 789) 4 (by decide) dL_law_789 ?_
    refine se_iadd (pc := 790) dL_law_790 ?_
    rw [nI_p4]
    refine se_sldN (pc := 791) dL_law_791 hb (by omega) (by omega) ?_
    refine se_invSH (pc := 792) (as := [.ref 0, .int (xs (i + 1)), .int 0, .int (xs (i + 3)), .int (xs (i + 4))]) (st := []) (vok sc) kL_off dL_law_792 ⟨wd_407, wd_408, wd_0⟩ rfl (Nat.le_of_ble_eq_true rfl) (Nat.le_of_ble_eq_true rfl) (w_off (by omega) hC hβ hV ho (by decide)) (C2 := CC) (S2 := SS) (by omega) (by omega) (fun v792 h792 _ q792 => ?_) (fun x hx => absurd hx List.not_mem_nil) (fun v792 h792 _ q792 => ?_)
    rotate_left
    · cases q792.1
    obtain ⟨q792, ⟨β2, hC2, hb2⟩, hl2, hf2, g2, ho2, hv2⟩ := q792
    cases q792
    have hR2 := is_R_mv hR hf2
    refine se_istore (pc := 795) dL_law_795 (by decide) [some (.retAddr bb), some (.ref 0), some (.ref 41), some (.ref 67), some (.int (nI i)), some (.int (nI (sp_off S (xs (i + 1)) 0 (xs (i + 3)) (xs (i + 4))).1)), z6, z7] rfl ?_
    refine se_aload_n (pc := 797) rfl dL_law_797 ?_
    refine se_aload_nR (pc := 798) rfl dL_law_798 ?_
    refine se_iload (pc := 799) rfl dL_law_799 ?_
    refine se_iconst (pc := 801) 1 (by decide) dL_law_801 ?_
    refine se_iadd (pc := 802) dL_law_802 ?_
    rw [nI_p1]
    refine se_sldN (pc := 803) dL_law_803 hb (by omega) (by omega) ?_
    refine se_aload_nR (pc := 804) rfl dL_law_804 ?_
    refine se_iload (pc := 805) rfl dL_law_805 ?_
    refine se_iconst (pc := 807) 2 (by decide) dL_law_807 ?_
    refine se_iadd (pc := 808) dL_law_808 ?_
    rw [nI_p2]
    refine se_sldN (pc := 809) dL_law_809 hb (by omega) (by omega) ?_
    refine se_if_eq (pc := 810) (tgt := 817) dL_law_810 (by decide) (fun q2 => ?_) (fun q2 => absurd q2 (fun z => z q1))
    refine se_iconst (pc := 817) 0 (by decide) dL_law_817 ?_
    refine se_aload_nR (pc := 818) rfl dL_law_818 ?_
    refine se_iload (pc := 819) rfl dL_law_819 ?_
    refine se_iconst (pc := 821) 3 (by decide) dL_law_821 ?_
    refine se_iadd (pc := 822) dL_law_822 ?_
    rw [nI_p3]
    refine se_sldN (pc := 823) dL_law_823 hb (by omega) (by omega) ?_
    refine se_aload_nR (pc := 824) rfl dL_law_824 ?_
    refine se_iload (pc := 825) rfl dL_law_825 ?_
    refine se_iconst (pc := 827) 4 (by decide) dL_law_827 ?_
    refine se_iadd (pc := 828) dL_law_828 ?_
    rw [nI_p4]
    refine se_sldN (pc := 829) dL_law_829 hb (by omega) (by omega) ?_
    refine se_invV (pc := 830) (as := [.int (xs (i + 1)), .int 0, .int (xs (i + 3)), .int (xs (i + 4))]) (st := []) (vok sc) kR_off dL_law_830 ⟨wd_724, wd_725, wd_726, wd_3⟩ rfl hR2.1 rfl (Nat.le_of_ble_eq_true rfl) (Nat.le_of_ble_eq_true rfl) (r_off (by omega) hR2 hV.1 hV.2.2 hN (by decide)) (C2 := CC) (S2 := SS) (by omega) (by omega) (fun v830 h830 _ q830 => ?_) (fun x hx => absurd hx List.not_mem_nil) (fun v830 h830 _ q830 => ?_)
    rotate_left
    · cases q830.1
    obtain ⟨q830, hR3, hf3⟩ := q830
    cases q830
    have hC3 := is_C_mv hC2 hb2 (fun a ha => hf3.2 a (by omega))
    have ho3 : is_O g2 _ := (hf3.2 67 (by decide)).trans ho2
    refine se_aload_n (pc := 833) rfl dL_law_833 ?_
    refine se_invV (pc := 834) (as := []) (st := []) (vok sc) kR_thrown dL_law_834 ⟨wd_641, wd_642, wd_643, wd_3⟩ rfl hR3.1 rfl (Nat.le_of_ble_eq_true rfl) (Nat.le_of_ble_eq_true rfl) (c_R_thrown hR3) (C2 := CC) (S2 := SS) (by omega) (by omega) (fun v834 h834 _ q834 => ?_) (fun x hx => absurd hx List.not_mem_nil) (fun v834 h834 _ q834 => ?_)
    rotate_left
    · cases q834.2
    obtain ⟨h834e, q834⟩ := q834
    have h834f := h834e.symm
    subst h834f
    cases q834
    refine se_iload (pc := 837) rfl dL_law_837 ?_
    refine se_icmp_eq (pc := 839) (tgt := 844) dL_law_839 (by decide) (fun q3 => ?_) (fun q3 => absurd q3 (fun z => z rfl))
    refine se_goto (pc := 844) (tgt := 1690) dL_law_844 (by decide) ?_
    exact hk _ _ _ _ _ ⟨β2, g2, nI (sp_off S (xs (i + 1)) 0 (xs (i + 3)) (xs (i + 4))).1, hC3, hb2, hR3, ho3, by rw [hf3.1]; exact Nat.le_trans h68 hl2, K_off hV⟩
  · refine se_iconst (pc := 775) 1 (by decide) dL_law_775 ?_
    refine se_goto (pc := 776) (tgt := 780) dL_law_776 (by decide) ?_
    refine se_aload_nR (pc := 780) rfl dL_law_780 ?_
    refine se_iload (pc := 781) rfl dL_law_781 ?_
    refine se_iconst (pc := 783) 3 (by decide) dL_law_783 ?_
    refine se_iadd (pc := 784) dL_law_784 ?_
    rw [nI_p3]
    refine se_sldN (pc := 785) dL_law_785 hb (by omega) (by omega) ?_
    refine se_aload_nR (pc := 786) rfl dL_law_786 ?_
    refine se_iload (pc := 787) rfl dL_law_787 ?_
    refine se_iconst (pc := 789) 4 (by decide) dL_law_789 ?_
    refine se_iadd (pc := 790) dL_law_790 ?_
    rw [nI_p4]
    refine se_sldN (pc := 791) dL_law_791 hb (by omega) (by omega) ?_
    refine se_invSH (pc := 792) (as := [.ref 0, .int (xs (i + 1)), .int 1, .int (xs (i + 3)), .int (xs (i + 4))]) (st := []) (vok sc) kL_off dL_law_792 ⟨wd_407, wd_408, wd_0⟩ rfl (Nat.le_of_ble_eq_true rfl) (Nat.le_of_ble_eq_true rfl) (w_off (by omega) hC hβ hV ho (by decide)) (C2 := CC) (S2 := SS) (by omega) (by omega) (fun v792 h792 _ q792 => ?_) (fun x hx => absurd hx List.not_mem_nil) (fun v792 h792 _ q792 => ?_)
    rotate_left
    · cases q792.1
    obtain ⟨q792, ⟨β2, hC2, hb2⟩, hl2, hf2, g2, ho2, hv2⟩ := q792
    cases q792
    have hR2 := is_R_mv hR hf2
    refine se_istore (pc := 795) dL_law_795 (by decide) [some (.retAddr bb), some (.ref 0), some (.ref 41), some (.ref 67), some (.int (nI i)), some (.int (nI (sp_off S (xs (i + 1)) 1 (xs (i + 3)) (xs (i + 4))).1)), z6, z7] rfl ?_
    refine se_aload_n (pc := 797) rfl dL_law_797 ?_
    refine se_aload_nR (pc := 798) rfl dL_law_798 ?_
    refine se_iload (pc := 799) rfl dL_law_799 ?_
    refine se_iconst (pc := 801) 1 (by decide) dL_law_801 ?_
    refine se_iadd (pc := 802) dL_law_802 ?_
    rw [nI_p1]
    refine se_sldN (pc := 803) dL_law_803 hb (by omega) (by omega) ?_
    refine se_aload_nR (pc := 804) rfl dL_law_804 ?_
    refine se_iload (pc := 805) rfl dL_law_805 ?_
    refine se_iconst (pc := 807) 2 (by decide) dL_law_807 ?_
    refine se_iadd (pc := 808) dL_law_808 ?_
    rw [nI_p2]
    refine se_sldN (pc := 809) dL_law_809 hb (by omega) (by omega) ?_
    refine se_if_eq (pc := 810) (tgt := 817) dL_law_810 (by decide) (fun q4 => absurd q4 q1) (fun q4 => ?_)
    refine se_iconst (pc := 813) 1 (by decide) dL_law_813 ?_
    refine se_goto (pc := 814) (tgt := 818) dL_law_814 (by decide) ?_
    refine se_aload_nR (pc := 818) rfl dL_law_818 ?_
    refine se_iload (pc := 819) rfl dL_law_819 ?_
    refine se_iconst (pc := 821) 3 (by decide) dL_law_821 ?_
    refine se_iadd (pc := 822) dL_law_822 ?_
    rw [nI_p3]
    refine se_sldN (pc := 823) dL_law_823 hb (by omega) (by omega) ?_
    refine se_aload_nR (pc := 824) rfl dL_law_824 ?_
    refine se_iload (pc := 825) rfl dL_law_825 ?_
    refine se_iconst (pc := 827) 4 (by decide) dL_law_827 ?_
    refine se_iadd (pc := 828) dL_law_828 ?_
    rw [nI_p4]
    refine se_sldN (pc := 829) dL_law_829 hb (by omega) (by omega) ?_
    refine se_invV (pc := 830) (as := [.int (xs (i + 1)), .int 1, .int (xs (i + 3)), .int (xs (i + 4))]) (st := []) (vok sc) kR_off dL_law_830 ⟨wd_724, wd_725, wd_726, wd_3⟩ rfl hR2.1 rfl (Nat.le_of_ble_eq_true rfl) (Nat.le_of_ble_eq_true rfl) (r_off (by omega) hR2 hV.1 hV.2.2 hN (by decide)) (C2 := CC) (S2 := SS) (by omega) (by omega) (fun v830 h830 _ q830 => ?_) (fun x hx => absurd hx List.not_mem_nil) (fun v830 h830 _ q830 => ?_)
    rotate_left
    · cases q830.1
    obtain ⟨q830, hR3, hf3⟩ := q830
    cases q830
    have hC3 := is_C_mv hC2 hb2 (fun a ha => hf3.2 a (by omega))
    have ho3 : is_O g2 _ := (hf3.2 67 (by decide)).trans ho2
    refine se_aload_n (pc := 833) rfl dL_law_833 ?_
    refine se_invV (pc := 834) (as := []) (st := []) (vok sc) kR_thrown dL_law_834 ⟨wd_641, wd_642, wd_643, wd_3⟩ rfl hR3.1 rfl (Nat.le_of_ble_eq_true rfl) (Nat.le_of_ble_eq_true rfl) (c_R_thrown hR3) (C2 := CC) (S2 := SS) (by omega) (by omega) (fun v834 h834 _ q834 => ?_) (fun x hx => absurd hx List.not_mem_nil) (fun v834 h834 _ q834 => ?_)
    rotate_left
    · cases q834.2
    obtain ⟨h834e, q834⟩ := q834
    have h834f := h834e.symm
    subst h834f
    cases q834
    refine se_iload (pc := 837) rfl dL_law_837 ?_
    refine se_icmp_eq (pc := 839) (tgt := 844) dL_law_839 (by decide) (fun q5 => ?_) (fun q5 => absurd q5 (fun z => z rfl))
    refine se_goto (pc := 844) (tgt := 1690) dL_law_844 (by decide) ?_
    exact hk _ _ _ _ _ ⟨β2, g2, nI (sp_off S (xs (i + 1)) 1 (xs (i + 3)) (xs (i + 4))).1, hC3, hb2, hR3, ho3, by rw [hf3.1]; exact Nat.le_trans h68 hl2, K_off hV⟩
set_option maxHeartbeats 1000000 in
set_option maxRecDepth 100000 in
theorem b_damage (hd : 10 ≤ d) (hN : N < 2 ^ 31) (hb : (bb, N0, xs) ∈ (vG sc).2.2.2.2.2) (h35 : N0 ≤ 3584) (hin : i + 7 ≤ N0) (hl : lI N S h) (hk : ∀ (S' : st_S) (h' : se_H) (z5 z6 z7 : Option Value), lI (N + 1) S' h' → se_W (vG sc) l (d + 1) mL_law 1690 [some (.retAddr bb), some (.ref 0), some (.ref 41), some (.ref 67), some (.int (nI i)), z5, z6, z7] [] h' CC SS lZ) : se_W (vG sc) l (d + 1) mL_law 847 [some (.retAddr bb), some (.ref 0), some (.ref 41), some (.ref 67), some (.int (nI i)), z5, z6, z7] [] h (CC + 8) (SS + 78) lZ := by
  obtain ⟨β, g9, t, hC, hβ, hR, ho, h68, hV⟩ := hl
  refine se_aload_n (pc := 847) rfl dL_law_847 ?_
  refine se_aload_nR (pc := 848) rfl dL_law_848 ?_
  refine se_iload (pc := 849) rfl dL_law_849 ?_
  refine se_iconst (pc := 851) 1 (by decide) dL_law_851 ?_
  refine se_iadd (pc := 852) dL_law_852 ?_
  rw [nI_p1]
  refine se_sldN (pc := 853) dL_law_853 hb (by omega) (by omega) ?_
  refine se_aload_nR (pc := 854) rfl dL_law_854 ?_
  refine se_iload (pc := 855) rfl dL_law_855 ?_
  refine se_iconst (pc := 857) 2 (by decide) dL_law_857 ?_
  refine se_iadd (pc := 858) dL_law_858 ?_
  rw [nI_p2]
  refine se_sldN (pc := 859) dL_law_859 hb (by omega) (by omega) ?_
  refine se_aload_n (pc := 860) rfl dL_law_860 ?_
  refine se_invSH (pc := 861) (as := [.ref 0, .int (xs (i + 1)), .int (xs (i + 2)), .ref 67]) (st := []) (vok sc) kL_damage dL_law_861 ⟨wd_416, wd_417, wd_0⟩ rfl (Nat.le_of_ble_eq_true rfl) (Nat.le_of_ble_eq_true rfl) (w_damage (by omega) hC hβ hV ho) (C2 := CC) (S2 := SS) (by omega) (by omega) (fun v861 h861 _ q861 => ?_) (fun x hx => absurd hx List.not_mem_nil) (fun v861 h861 _ q861 => ?_)
  rotate_left
  · cases q861.1
  obtain ⟨q861, ⟨β2, hC2, hb2⟩, hl2, hf2, g2, ho2, hv2⟩ := q861
  cases q861
  have hR2 := is_R_mv hR hf2
  refine se_istore (pc := 864) dL_law_864 (by decide) [some (.retAddr bb), some (.ref 0), some (.ref 41), some (.ref 67), some (.int (nI i)), some (.int (nI (sp_damage S (xs (i + 1)) (xs (i + 2))).1)), z6, z7] rfl ?_
  refine se_aload_n (pc := 866) rfl dL_law_866 ?_
  refine se_aload_nR (pc := 867) rfl dL_law_867 ?_
  refine se_iload (pc := 868) rfl dL_law_868 ?_
  refine se_iconst (pc := 870) 1 (by decide) dL_law_870 ?_
  refine se_iadd (pc := 871) dL_law_871 ?_
  rw [nI_p1]
  refine se_sldN (pc := 872) dL_law_872 hb (by omega) (by omega) ?_
  refine se_aload_nR (pc := 873) rfl dL_law_873 ?_
  refine se_iload (pc := 874) rfl dL_law_874 ?_
  refine se_iconst (pc := 876) 2 (by decide) dL_law_876 ?_
  refine se_iadd (pc := 877) dL_law_877 ?_
  rw [nI_p2]
  refine se_sldN (pc := 878) dL_law_878 hb (by omega) (by omega) ?_
  refine se_invV (pc := 879) (as := [.int (xs (i + 1)), .int (xs (i + 2))]) (st := []) (vok sc) kR_damage dL_law_879 ⟨wd_728, wd_729, wd_730, wd_3⟩ rfl hR2.1 rfl (Nat.le_of_ble_eq_true rfl) (Nat.le_of_ble_eq_true rfl) (r_damage (by omega) hR2 hV.1 hV.2.2 hN) (C2 := CC) (S2 := SS) (by omega) (by omega) (fun v879 h879 _ q879 => ?_) (fun x hx => absurd hx List.not_mem_nil) (fun v879 h879 _ q879 => ?_)
  rotate_left
  · obtain ⟨⟨_, e, _⟩, _⟩ := q879; cases e
  obtain ⟨⟨x3, q879, hx3⟩, hR3, hf3⟩ := q879
  cases q879
  have hC3 := is_C_mv hC2 hb2 (fun a ha => hf3.2 a (by omega))
  have ho3 : is_O g2 _ := (hf3.2 67 (by decide)).trans ho2
  refine se_istore (pc := 882) dL_law_882 (by decide) [some (.retAddr bb), some (.ref 0), some (.ref 41), some (.ref 67), some (.int (nI i)), some (.int (nI (sp_damage S (xs (i + 1)) (xs (i + 2))).1)), some (.int x3), z7] rfl ?_
  refine se_aload_n (pc := 884) rfl dL_law_884 ?_
  refine se_invV (pc := 885) (as := []) (st := []) (vok sc) kR_thrown dL_law_885 ⟨wd_641, wd_642, wd_643, wd_3⟩ rfl hR3.1 rfl (Nat.le_of_ble_eq_true rfl) (Nat.le_of_ble_eq_true rfl) (c_R_thrown hR3) (C2 := CC) (S2 := SS) (by omega) (by omega) (fun v885 h885 _ q885 => ?_) (fun x hx => absurd hx List.not_mem_nil) (fun v885 h885 _ q885 => ?_)
  rotate_left
  · cases q885.2
  obtain ⟨h885e, q885⟩ := q885
  have h885f := h885e.symm
  subst h885f
  cases q885
  refine se_iload (pc := 888) rfl dL_law_888 ?_
  refine se_icmp_eq (pc := 890) (tgt := 895) dL_law_890 (by decide) (fun q1 => ?_) (fun q1 => absurd q1 (fun z => z rfl))
  refine se_iload (pc := 895) rfl dL_law_895 ?_
  refine se_if_ne (pc := 897) (tgt := 912) dL_law_897 (by decide) (fun q2 => ?_) (fun q2 => ?_)
  · refine se_goto (pc := 912) (tgt := 1690) dL_law_912 (by decide) ?_
    exact hk _ _ _ _ _ ⟨β2, g2, nI (sp_damage S (xs (i + 1)) (xs (i + 2))).1, hC3, hb2, hR3, ho3, by rw [hf3.1]; exact Nat.le_trans h68 hl2, K_damage hV⟩
  · have hz8 : (sp_damage S (xs (i + 1)) (xs (i + 2))).1 = 0 := nI_z0 cb_damage (by assumption)
    have ev9 := vI_eq (hv2 hz8) (hx3 hz8)
    refine se_aload_n (pc := 900) rfl dL_law_900 ?_
    refine se_iconst (pc := 901) 0 (by decide) dL_law_901 ?_
    refine se_laldN (pc := 902) (j := 0) 2 dL_law_902 rfl ho3 (by decide) (by decide) ?_
    refine se_iload (pc := 903) rfl dL_law_903 ?_
    refine se_i2l (pc := 905) dL_law_905 ?_
    refine se_lcmp (pc := 906) dL_law_906 ?_
    refine se_if_eq (pc := 907) (tgt := 912) dL_law_907 (by decide) (fun q3 => ?_) (fun q3 => absurd q3 (fun z => z (by rw [ev9]; exact lg_self _)))
    refine se_goto (pc := 912) (tgt := 1690) dL_law_912 (by decide) ?_
    exact hk _ _ _ _ _ ⟨β2, g2, nI (sp_damage S (xs (i + 1)) (xs (i + 2))).1, hC3, hb2, hR3, ho3, by rw [hf3.1]; exact Nat.le_trans h68 hl2, K_damage hV⟩
set_option maxHeartbeats 1000000 in
set_option maxRecDepth 100000 in
theorem b_proof (hd : 10 ≤ d) (hN : N < 2 ^ 31) (hb : (bb, N0, xs) ∈ (vG sc).2.2.2.2.2) (h35 : N0 ≤ 3584) (hin : i + 7 ≤ N0) (hl : lI N S h) (hk : ∀ (S' : st_S) (h' : se_H) (z5 z6 z7 : Option Value), lI (N + 1) S' h' → se_W (vG sc) l (d + 1) mL_law 1690 [some (.retAddr bb), some (.ref 0), some (.ref 41), some (.ref 67), some (.int (nI i)), z5, z6, z7] [] h' CC SS lZ) : se_W (vG sc) l (d + 1) mL_law 915 [some (.retAddr bb), some (.ref 0), some (.ref 41), some (.ref 67), some (.int (nI i)), z5, z6, z7] [] h (CC + 8) (SS + 78) lZ := by
  obtain ⟨β, g9, t, hC, hβ, hR, ho, h68, hV⟩ := hl
  refine se_aload_n (pc := 915) rfl dL_law_915 ?_
  refine se_aload_nR (pc := 916) rfl dL_law_916 ?_
  refine se_iload (pc := 917) rfl dL_law_917 ?_
  refine se_iconst (pc := 919) 1 (by decide) dL_law_919 ?_
  refine se_iadd (pc := 920) dL_law_920 ?_
  rw [nI_p1]
  refine se_sldN (pc := 921) dL_law_921 hb (by omega) (by omega) ?_
  refine se_aload_nR (pc := 922) rfl dL_law_922 ?_
  refine se_iload (pc := 923) rfl dL_law_923 ?_
  refine se_iconst (pc := 925) 2 (by decide) dL_law_925 ?_
  refine se_iadd (pc := 926) dL_law_926 ?_
  rw [nI_p2]
  refine se_sldN (pc := 927) dL_law_927 hb (by omega) (by omega) ?_
  refine se_invSH (pc := 928) (as := [.ref 0, .int (xs (i + 1)), .int (xs (i + 2))]) (st := []) (vok sc) kL_proof dL_law_928 ⟨wd_424, wd_425, wd_0⟩ rfl (Nat.le_of_ble_eq_true rfl) (Nat.le_of_ble_eq_true rfl) (w_proof (by omega) hC hβ hV ho) (C2 := CC) (S2 := SS) (by omega) (by omega) (fun v928 h928 _ q928 => ?_) (fun x hx => absurd hx List.not_mem_nil) (fun v928 h928 _ q928 => ?_)
  rotate_left
  · cases q928.1
  obtain ⟨q928, ⟨β2, hC2, hb2⟩, hl2, hf2, g2, ho2, hv2⟩ := q928
  cases q928
  have hR2 := is_R_mv hR hf2
  refine se_istore (pc := 931) dL_law_931 (by decide) [some (.retAddr bb), some (.ref 0), some (.ref 41), some (.ref 67), some (.int (nI i)), some (.int (nI (sp_proof S (xs (i + 1)) (xs (i + 2))).1)), z6, z7] rfl ?_
  refine se_aload_n (pc := 933) rfl dL_law_933 ?_
  refine se_aload_nR (pc := 934) rfl dL_law_934 ?_
  refine se_iload (pc := 935) rfl dL_law_935 ?_
  refine se_iconst (pc := 937) 1 (by decide) dL_law_937 ?_
  refine se_iadd (pc := 938) dL_law_938 ?_
  rw [nI_p1]
  refine se_sldN (pc := 939) dL_law_939 hb (by omega) (by omega) ?_
  refine se_aload_nR (pc := 940) rfl dL_law_940 ?_
  refine se_iload (pc := 941) rfl dL_law_941 ?_
  refine se_iconst (pc := 943) 2 (by decide) dL_law_943 ?_
  refine se_iadd (pc := 944) dL_law_944 ?_
  rw [nI_p2]
  refine se_sldN (pc := 945) dL_law_945 hb (by omega) (by omega) ?_
  refine se_invV (pc := 946) (as := [.int (xs (i + 1)), .int (xs (i + 2))]) (st := []) (vok sc) kR_proof dL_law_946 ⟨wd_732, wd_733, wd_734, wd_3⟩ rfl hR2.1 rfl (Nat.le_of_ble_eq_true rfl) (Nat.le_of_ble_eq_true rfl) (r_proof (by omega) hR2 hV.1 hV.2.2 hN) (C2 := CC) (S2 := SS) (by omega) (by omega) (fun v946 h946 _ q946 => ?_) (fun x hx => absurd hx List.not_mem_nil) (fun v946 h946 _ q946 => ?_)
  rotate_left
  · cases q946.1
  obtain ⟨q946, hR3, hf3⟩ := q946
  cases q946
  have hC3 := is_C_mv hC2 hb2 (fun a ha => hf3.2 a (by omega))
  have ho3 : is_O g2 _ := (hf3.2 67 (by decide)).trans ho2
  refine se_aload_n (pc := 949) rfl dL_law_949 ?_
  refine se_invV (pc := 950) (as := []) (st := []) (vok sc) kR_thrown dL_law_950 ⟨wd_641, wd_642, wd_643, wd_3⟩ rfl hR3.1 rfl (Nat.le_of_ble_eq_true rfl) (Nat.le_of_ble_eq_true rfl) (c_R_thrown hR3) (C2 := CC) (S2 := SS) (by omega) (by omega) (fun v950 h950 _ q950 => ?_) (fun x hx => absurd hx List.not_mem_nil) (fun v950 h950 _ q950 => ?_)
  rotate_left
  · cases q950.2
  obtain ⟨h950e, q950⟩ := q950
  have h950f := h950e.symm
  subst h950f
  cases q950
  refine se_iload (pc := 953) rfl dL_law_953 ?_
  refine se_icmp_eq (pc := 955) (tgt := 960) dL_law_955 (by decide) (fun q1 => ?_) (fun q1 => absurd q1 (fun z => z rfl))
  refine se_goto (pc := 960) (tgt := 1690) dL_law_960 (by decide) ?_
  exact hk _ _ _ _ _ ⟨β2, g2, nI (sp_proof S (xs (i + 1)) (xs (i + 2))).1, hC3, hb2, hR3, ho3, by rw [hf3.1]; exact Nat.le_trans h68 hl2, K_proof hV⟩
set_option maxHeartbeats 1000000 in
set_option maxRecDepth 100000 in
theorem b_need (hd : 10 ≤ d) (hN : N < 2 ^ 31) (hb : (bb, N0, xs) ∈ (vG sc).2.2.2.2.2) (h35 : N0 ≤ 3584) (hin : i + 7 ≤ N0) (hl : lI N S h) (hk : ∀ (S' : st_S) (h' : se_H) (z5 z6 z7 : Option Value), lI (N + 1) S' h' → se_W (vG sc) l (d + 1) mL_law 1690 [some (.retAddr bb), some (.ref 0), some (.ref 41), some (.ref 67), some (.int (nI i)), z5, z6, z7] [] h' CC SS lZ) : se_W (vG sc) l (d + 1) mL_law 963 [some (.retAddr bb), some (.ref 0), some (.ref 41), some (.ref 67), some (.int (nI i)), z5, z6, z7] [] h (CC + 8) (SS + 78) lZ := by
  obtain ⟨β, g9, t, hC, hβ, hR, ho, h68, hV⟩ := hl
  refine se_aload_n (pc := 963) rfl dL_law_963 ?_
  refine se_aload_nR (pc := 964) rfl dL_law_964 ?_
  refine se_iload (pc := 965) rfl dL_law_965 ?_
  refine se_iconst (pc := 967) 1 (by decide) dL_law_967 ?_
  refine se_iadd (pc := 968) dL_law_968 ?_
  rw [nI_p1]
  refine se_sldN (pc := 969) dL_law_969 hb (by omega) (by omega) ?_
  refine se_aload_nR (pc := 970) rfl dL_law_970 ?_
  refine se_iload (pc := 971) rfl dL_law_971 ?_
  refine se_iconst (pc := 973) 2 (by decide) dL_law_973 ?_
  refine se_iadd (pc := 974) dL_law_974 ?_
  rw [nI_p2]
  refine se_sldN (pc := 975) dL_law_975 hb (by omega) (by omega) ?_
  refine se_aload_nR (pc := 976) rfl dL_law_976 ?_
  refine se_iload (pc := 977) rfl dL_law_977 ?_
  refine se_iconst (pc := 979) 3 (by decide) dL_law_979 ?_
  refine se_iadd (pc := 980) dL_law_980 ?_
  rw [nI_p3]
  refine se_sldN (pc := 981) dL_law_981 hb (by omega) (by omega) ?_
  refine se_invSH (pc := 982) (as := [.ref 0, .int (xs (i + 1)), .int (xs (i + 2)), .int (xs (i + 3))]) (st := []) (vok sc) kL_need dL_law_982 ⟨wd_433, wd_434, wd_0⟩ rfl (Nat.le_of_ble_eq_true rfl) (Nat.le_of_ble_eq_true rfl) (w_need (by omega) hC hβ hV ho) (C2 := CC) (S2 := SS) (by omega) (by omega) (fun v982 h982 _ q982 => ?_) (fun x hx => absurd hx List.not_mem_nil) (fun v982 h982 _ q982 => ?_)
  rotate_left
  · cases q982.1
  obtain ⟨q982, ⟨β2, hC2, hb2⟩, hl2, hf2, g2, ho2, hv2⟩ := q982
  cases q982
  have hR2 := is_R_mv hR hf2
  refine se_istore (pc := 985) dL_law_985 (by decide) [some (.retAddr bb), some (.ref 0), some (.ref 41), some (.ref 67), some (.int (nI i)), some (.int (nI (sp_need S (xs (i + 1)) (xs (i + 2)) (xs (i + 3))).1)), z6, z7] rfl ?_
  refine se_aload_n (pc := 987) rfl dL_law_987 ?_
  refine se_aload_nR (pc := 988) rfl dL_law_988 ?_
  refine se_iload (pc := 989) rfl dL_law_989 ?_
  refine se_iconst (pc := 991) 1 (by decide) dL_law_991 ?_
  refine se_iadd (pc := 992) dL_law_992 ?_
  rw [nI_p1]
  refine se_sldN (pc := 993) dL_law_993 hb (by omega) (by omega) ?_
  refine se_aload_nR (pc := 994) rfl dL_law_994 ?_
  refine se_iload (pc := 995) rfl dL_law_995 ?_
  refine se_iconst (pc := 997) 2 (by decide) dL_law_997 ?_
  refine se_iadd (pc := 998) dL_law_998 ?_
  rw [nI_p2]
  refine se_sldN (pc := 999) dL_law_999 hb (by omega) (by omega) ?_
  refine se_aload_nR (pc := 1000) rfl dL_law_1000 ?_
  refine se_iload (pc := 1001) rfl dL_law_1001 ?_
  refine se_iconst (pc := 1003) 3 (by decide) dL_law_1003 ?_
  refine se_iadd (pc := 1004) dL_law_1004 ?_
  rw [nI_p3]
  refine se_sldN (pc := 1005) dL_law_1005 hb (by omega) (by omega) ?_
  refine se_invV (pc := 1006) (as := [.int (xs (i + 1)), .int (xs (i + 2)), .int (xs (i + 3))]) (st := []) (vok sc) kR_need dL_law_1006 ⟨wd_736, wd_737, wd_738, wd_3⟩ rfl hR2.1 rfl (Nat.le_of_ble_eq_true rfl) (Nat.le_of_ble_eq_true rfl) (r_need (by omega) hR2 hV.1 hV.2.2 hN) (C2 := CC) (S2 := SS) (by omega) (by omega) (fun v1006 h1006 _ q1006 => ?_) (fun x hx => absurd hx List.not_mem_nil) (fun v1006 h1006 _ q1006 => ?_)
  rotate_left
  · cases q1006.1
  obtain ⟨q1006, hR3, hf3⟩ := q1006
  cases q1006
  have hC3 := is_C_mv hC2 hb2 (fun a ha => hf3.2 a (by omega))
  have ho3 : is_O g2 _ := (hf3.2 67 (by decide)).trans ho2
  refine se_aload_n (pc := 1009) rfl dL_law_1009 ?_
  refine se_invV (pc := 1010) (as := []) (st := []) (vok sc) kR_thrown dL_law_1010 ⟨wd_641, wd_642, wd_643, wd_3⟩ rfl hR3.1 rfl (Nat.le_of_ble_eq_true rfl) (Nat.le_of_ble_eq_true rfl) (c_R_thrown hR3) (C2 := CC) (S2 := SS) (by omega) (by omega) (fun v1010 h1010 _ q1010 => ?_) (fun x hx => absurd hx List.not_mem_nil) (fun v1010 h1010 _ q1010 => ?_)
  rotate_left
  · cases q1010.2
  obtain ⟨h1010e, q1010⟩ := q1010
  have h1010f := h1010e.symm
  subst h1010f
  cases q1010
  refine se_iload (pc := 1013) rfl dL_law_1013 ?_
  refine se_icmp_eq (pc := 1015) (tgt := 1020) dL_law_1015 (by decide) (fun q1 => ?_) (fun q1 => absurd q1 (fun z => z rfl))
  refine se_goto (pc := 1020) (tgt := 1690) dL_law_1020 (by decide) ?_
  exact hk _ _ _ _ _ ⟨β2, g2, nI (sp_need S (xs (i + 1)) (xs (i + 2)) (xs (i + 3))).1, hC3, hb2, hR3, ho3, by rw [hf3.1]; exact Nat.le_trans h68 hl2, K_need hV⟩
set_option maxHeartbeats 1000000 in
set_option maxRecDepth 100000 in
theorem b_put (hd : 10 ≤ d) (hN : N < 2 ^ 31) (hb : (bb, N0, xs) ∈ (vG sc).2.2.2.2.2) (h35 : N0 ≤ 3584) (hin : i + 7 ≤ N0) (hl : lI N S h) (hk : ∀ (S' : st_S) (h' : se_H) (z5 z6 z7 : Option Value), lI (N + 1) S' h' → se_W (vG sc) l (d + 1) mL_law 1690 [some (.retAddr bb), some (.ref 0), some (.ref 41), some (.ref 67), some (.int (nI i)), z5, z6, z7] [] h' CC SS lZ) : se_W (vG sc) l (d + 1) mL_law 1023 [some (.retAddr bb), some (.ref 0), some (.ref 41), some (.ref 67), some (.int (nI i)), z5, z6, z7] [] h (CC + 8) (SS + 78) lZ := by
  obtain ⟨β, g9, t, hC, hβ, hR, ho, h68, hV⟩ := hl
  refine se_aload_n (pc := 1023) rfl dL_law_1023 ?_
  refine se_aload_nR (pc := 1024) rfl dL_law_1024 ?_
  refine se_iload (pc := 1025) rfl dL_law_1025 ?_
  refine se_iconst (pc := 1027) 1 (by decide) dL_law_1027 ?_
  refine se_iadd (pc := 1028) dL_law_1028 ?_
  rw [nI_p1]
  refine se_sldN (pc := 1029) dL_law_1029 hb (by omega) (by omega) ?_
  refine se_aload_nR (pc := 1030) rfl dL_law_1030 ?_
  refine se_iload (pc := 1031) rfl dL_law_1031 ?_
  refine se_iconst (pc := 1033) 2 (by decide) dL_law_1033 ?_
  refine se_iadd (pc := 1034) dL_law_1034 ?_
  rw [nI_p2]
  refine se_sldN (pc := 1035) dL_law_1035 hb (by omega) (by omega) ?_
  refine se_aload_nR (pc := 1036) rfl dL_law_1036 ?_
  refine se_iload (pc := 1037) rfl dL_law_1037 ?_
  refine se_iconst (pc := 1039) 3 (by decide) dL_law_1039 ?_
  refine se_iadd (pc := 1040) dL_law_1040 ?_
  rw [nI_p3]
  refine se_sldN (pc := 1041) dL_law_1041 hb (by omega) (by omega) ?_
  refine se_aload_n (pc := 1042) rfl dL_law_1042 ?_
  refine se_invSH (pc := 1043) (as := [.ref 0, .int (xs (i + 1)), .int (xs (i + 2)), .int (xs (i + 3)), .ref 67]) (st := []) (vok sc) kL_put dL_law_1043 ⟨wd_444, wd_445, wd_0⟩ rfl (Nat.le_of_ble_eq_true rfl) (Nat.le_of_ble_eq_true rfl) (w_put (by omega) hC hβ hV ho) (C2 := CC) (S2 := SS) (by omega) (by omega) (fun v1043 h1043 _ q1043 => ?_) (fun x hx => absurd hx List.not_mem_nil) (fun v1043 h1043 _ q1043 => ?_)
  rotate_left
  · cases q1043.1
  obtain ⟨q1043, ⟨β2, hC2, hb2⟩, hl2, hf2, g2, ho2, hv2⟩ := q1043
  cases q1043
  have hR2 := is_R_mv hR hf2
  refine se_istore (pc := 1046) dL_law_1046 (by decide) [some (.retAddr bb), some (.ref 0), some (.ref 41), some (.ref 67), some (.int (nI i)), some (.int (nI (sp_put S (xs (i + 1)) (xs (i + 2)) (xs (i + 3))).1)), z6, z7] rfl ?_
  refine se_aload_n (pc := 1048) rfl dL_law_1048 ?_
  refine se_aload_nR (pc := 1049) rfl dL_law_1049 ?_
  refine se_iload (pc := 1050) rfl dL_law_1050 ?_
  refine se_iconst (pc := 1052) 1 (by decide) dL_law_1052 ?_
  refine se_iadd (pc := 1053) dL_law_1053 ?_
  rw [nI_p1]
  refine se_sldN (pc := 1054) dL_law_1054 hb (by omega) (by omega) ?_
  refine se_aload_nR (pc := 1055) rfl dL_law_1055 ?_
  refine se_iload (pc := 1056) rfl dL_law_1056 ?_
  refine se_iconst (pc := 1058) 2 (by decide) dL_law_1058 ?_
  refine se_iadd (pc := 1059) dL_law_1059 ?_
  rw [nI_p2]
  refine se_sldN (pc := 1060) dL_law_1060 hb (by omega) (by omega) ?_
  refine se_aload_nR (pc := 1061) rfl dL_law_1061 ?_
  refine se_iload (pc := 1062) rfl dL_law_1062 ?_
  refine se_iconst (pc := 1064) 3 (by decide) dL_law_1064 ?_
  refine se_iadd (pc := 1065) dL_law_1065 ?_
  rw [nI_p3]
  refine se_sldN (pc := 1066) dL_law_1066 hb (by omega) (by omega) ?_
  refine se_invV (pc := 1067) (as := [.int (xs (i + 1)), .int (xs (i + 2)), .int (xs (i + 3))]) (st := []) (vok sc) kR_put dL_law_1067 ⟨wd_743, wd_744, wd_745, wd_3⟩ rfl hR2.1 rfl (Nat.le_of_ble_eq_true rfl) (Nat.le_of_ble_eq_true rfl) (r_put (by omega) hR2 hV.1 hV.2.2 hN) (C2 := CC) (S2 := SS) (by omega) (by omega) (fun v1067 h1067 _ q1067 => ?_) (fun x hx => absurd hx List.not_mem_nil) (fun v1067 h1067 _ q1067 => ?_)
  rotate_left
  · obtain ⟨⟨_, e, _⟩, _⟩ := q1067; cases e
  obtain ⟨⟨x3, q1067, hx3⟩, hR3, hf3⟩ := q1067
  cases q1067
  have hC3 := is_C_mv hC2 hb2 (fun a ha => hf3.2 a (by omega))
  have ho3 : is_O g2 _ := (hf3.2 67 (by decide)).trans ho2
  refine se_istore (pc := 1070) dL_law_1070 (by decide) [some (.retAddr bb), some (.ref 0), some (.ref 41), some (.ref 67), some (.int (nI i)), some (.int (nI (sp_put S (xs (i + 1)) (xs (i + 2)) (xs (i + 3))).1)), some (.int x3), z7] rfl ?_
  refine se_aload_n (pc := 1072) rfl dL_law_1072 ?_
  refine se_invV (pc := 1073) (as := []) (st := []) (vok sc) kR_thrown dL_law_1073 ⟨wd_641, wd_642, wd_643, wd_3⟩ rfl hR3.1 rfl (Nat.le_of_ble_eq_true rfl) (Nat.le_of_ble_eq_true rfl) (c_R_thrown hR3) (C2 := CC) (S2 := SS) (by omega) (by omega) (fun v1073 h1073 _ q1073 => ?_) (fun x hx => absurd hx List.not_mem_nil) (fun v1073 h1073 _ q1073 => ?_)
  rotate_left
  · cases q1073.2
  obtain ⟨h1073e, q1073⟩ := q1073
  have h1073f := h1073e.symm
  subst h1073f
  cases q1073
  refine se_iload (pc := 1076) rfl dL_law_1076 ?_
  refine se_icmp_eq (pc := 1078) (tgt := 1083) dL_law_1078 (by decide) (fun q1 => ?_) (fun q1 => absurd q1 (fun z => z rfl))
  refine se_iload (pc := 1083) rfl dL_law_1083 ?_
  refine se_if_ne (pc := 1085) (tgt := 1100) dL_law_1085 (by decide) (fun q2 => ?_) (fun q2 => ?_)
  · refine se_goto (pc := 1100) (tgt := 1690) dL_law_1100 (by decide) ?_
    exact hk _ _ _ _ _ ⟨β2, g2, nI (sp_put S (xs (i + 1)) (xs (i + 2)) (xs (i + 3))).1, hC3, hb2, hR3, ho3, by rw [hf3.1]; exact Nat.le_trans h68 hl2, K_put hV⟩
  · have hz8 : (sp_put S (xs (i + 1)) (xs (i + 2)) (xs (i + 3))).1 = 0 := nI_z0 cb_put (by assumption)
    have ev9 := vI_eq (hv2 hz8) (hx3 hz8)
    refine se_aload_n (pc := 1088) rfl dL_law_1088 ?_
    refine se_iconst (pc := 1089) 0 (by decide) dL_law_1089 ?_
    refine se_laldN (pc := 1090) (j := 0) 2 dL_law_1090 rfl ho3 (by decide) (by decide) ?_
    refine se_iload (pc := 1091) rfl dL_law_1091 ?_
    refine se_i2l (pc := 1093) dL_law_1093 ?_
    refine se_lcmp (pc := 1094) dL_law_1094 ?_
    refine se_if_eq (pc := 1095) (tgt := 1100) dL_law_1095 (by decide) (fun q3 => ?_) (fun q3 => absurd q3 (fun z => z (by rw [ev9]; exact lg_self _)))
    refine se_goto (pc := 1100) (tgt := 1690) dL_law_1100 (by decide) ?_
    exact hk _ _ _ _ _ ⟨β2, g2, nI (sp_put S (xs (i + 1)) (xs (i + 2)) (xs (i + 3))).1, hC3, hb2, hR3, ho3, by rw [hf3.1]; exact Nat.le_trans h68 hl2, K_put hV⟩
set_option maxHeartbeats 1000000 in
set_option maxRecDepth 100000 in
theorem b_swap (hd : 10 ≤ d) (hN : N < 2 ^ 31) (hb : (bb, N0, xs) ∈ (vG sc).2.2.2.2.2) (h35 : N0 ≤ 3584) (hin : i + 7 ≤ N0) (hl : lI N S h) (hk : ∀ (S' : st_S) (h' : se_H) (z5 z6 z7 : Option Value), lI (N + 1) S' h' → se_W (vG sc) l (d + 1) mL_law 1690 [some (.retAddr bb), some (.ref 0), some (.ref 41), some (.ref 67), some (.int (nI i)), z5, z6, z7] [] h' CC SS lZ) : se_W (vG sc) l (d + 1) mL_law 1103 [some (.retAddr bb), some (.ref 0), some (.ref 41), some (.ref 67), some (.int (nI i)), z5, z6, z7] [] h (CC + 8) (SS + 78) lZ := by
  obtain ⟨β, g9, t, hC, hβ, hR, ho, h68, hV⟩ := hl
  refine se_aload_n (pc := 1103) rfl dL_law_1103 ?_
  refine se_aload_nR (pc := 1104) rfl dL_law_1104 ?_
  refine se_iload (pc := 1105) rfl dL_law_1105 ?_
  refine se_iconst (pc := 1107) 1 (by decide) dL_law_1107 ?_
  refine se_iadd (pc := 1108) dL_law_1108 ?_
  rw [nI_p1]
  refine se_sldN (pc := 1109) dL_law_1109 hb (by omega) (by omega) ?_
  refine se_aload_nR (pc := 1110) rfl dL_law_1110 ?_
  refine se_iload (pc := 1111) rfl dL_law_1111 ?_
  refine se_iconst (pc := 1113) 2 (by decide) dL_law_1113 ?_
  refine se_iadd (pc := 1114) dL_law_1114 ?_
  rw [nI_p2]
  refine se_sldN (pc := 1115) dL_law_1115 hb (by omega) (by omega) ?_
  refine se_aload_nR (pc := 1116) rfl dL_law_1116 ?_
  refine se_iload (pc := 1117) rfl dL_law_1117 ?_
  refine se_iconst (pc := 1119) 3 (by decide) dL_law_1119 ?_
  refine se_iadd (pc := 1120) dL_law_1120 ?_
  rw [nI_p3]
  refine se_sldN (pc := 1121) dL_law_1121 hb (by omega) (by omega) ?_
  refine se_aload_n (pc := 1122) rfl dL_law_1122 ?_
  refine se_invSH (pc := 1123) (as := [.ref 0, .int (xs (i + 1)), .int (xs (i + 2)), .int (xs (i + 3)), .ref 67]) (st := []) (vok sc) kL_swap dL_law_1123 ⟨wd_455, wd_456, wd_0⟩ rfl (Nat.le_of_ble_eq_true rfl) (Nat.le_of_ble_eq_true rfl) (w_swap (by omega) hC hβ hV ho) (C2 := CC) (S2 := SS) (by omega) (by omega) (fun v1123 h1123 _ q1123 => ?_) (fun x hx => absurd hx List.not_mem_nil) (fun v1123 h1123 _ q1123 => ?_)
  rotate_left
  · cases q1123.1
  obtain ⟨q1123, ⟨β2, hC2, hb2⟩, hl2, hf2, g2, ho2, hv2⟩ := q1123
  cases q1123
  have hR2 := is_R_mv hR hf2
  refine se_istore (pc := 1126) dL_law_1126 (by decide) [some (.retAddr bb), some (.ref 0), some (.ref 41), some (.ref 67), some (.int (nI i)), some (.int (nI (sp_swap S (xs (i + 1)) (xs (i + 2)) (xs (i + 3))).1)), z6, z7] rfl ?_
  refine se_aload_n (pc := 1128) rfl dL_law_1128 ?_
  refine se_aload_nR (pc := 1129) rfl dL_law_1129 ?_
  refine se_iload (pc := 1130) rfl dL_law_1130 ?_
  refine se_iconst (pc := 1132) 1 (by decide) dL_law_1132 ?_
  refine se_iadd (pc := 1133) dL_law_1133 ?_
  rw [nI_p1]
  refine se_sldN (pc := 1134) dL_law_1134 hb (by omega) (by omega) ?_
  refine se_aload_nR (pc := 1135) rfl dL_law_1135 ?_
  refine se_iload (pc := 1136) rfl dL_law_1136 ?_
  refine se_iconst (pc := 1138) 2 (by decide) dL_law_1138 ?_
  refine se_iadd (pc := 1139) dL_law_1139 ?_
  rw [nI_p2]
  refine se_sldN (pc := 1140) dL_law_1140 hb (by omega) (by omega) ?_
  refine se_aload_nR (pc := 1141) rfl dL_law_1141 ?_
  refine se_iload (pc := 1142) rfl dL_law_1142 ?_
  refine se_iconst (pc := 1144) 3 (by decide) dL_law_1144 ?_
  refine se_iadd (pc := 1145) dL_law_1145 ?_
  rw [nI_p3]
  refine se_sldN (pc := 1146) dL_law_1146 hb (by omega) (by omega) ?_
  refine se_invV (pc := 1147) (as := [.int (xs (i + 1)), .int (xs (i + 2)), .int (xs (i + 3))]) (st := []) (vok sc) kR_swap dL_law_1147 ⟨wd_747, wd_748, wd_749, wd_3⟩ rfl hR2.1 rfl (Nat.le_of_ble_eq_true rfl) (Nat.le_of_ble_eq_true rfl) (r_swap (by omega) hR2 hV.1 hV.2.2 hN) (C2 := CC) (S2 := SS) (by omega) (by omega) (fun v1147 h1147 _ q1147 => ?_) (fun x hx => absurd hx List.not_mem_nil) (fun v1147 h1147 _ q1147 => ?_)
  rotate_left
  · obtain ⟨⟨_, e, _⟩, _⟩ := q1147; cases e
  obtain ⟨⟨x3, q1147, hx3⟩, hR3, hf3⟩ := q1147
  cases q1147
  have hC3 := is_C_mv hC2 hb2 (fun a ha => hf3.2 a (by omega))
  have ho3 : is_O g2 _ := (hf3.2 67 (by decide)).trans ho2
  refine se_istore (pc := 1150) dL_law_1150 (by decide) [some (.retAddr bb), some (.ref 0), some (.ref 41), some (.ref 67), some (.int (nI i)), some (.int (nI (sp_swap S (xs (i + 1)) (xs (i + 2)) (xs (i + 3))).1)), some (.int x3), z7] rfl ?_
  refine se_aload_n (pc := 1152) rfl dL_law_1152 ?_
  refine se_invV (pc := 1153) (as := []) (st := []) (vok sc) kR_thrown dL_law_1153 ⟨wd_641, wd_642, wd_643, wd_3⟩ rfl hR3.1 rfl (Nat.le_of_ble_eq_true rfl) (Nat.le_of_ble_eq_true rfl) (c_R_thrown hR3) (C2 := CC) (S2 := SS) (by omega) (by omega) (fun v1153 h1153 _ q1153 => ?_) (fun x hx => absurd hx List.not_mem_nil) (fun v1153 h1153 _ q1153 => ?_)
  rotate_left
  · cases q1153.2
  obtain ⟨h1153e, q1153⟩ := q1153
  have h1153f := h1153e.symm
  subst h1153f
  cases q1153
  refine se_iload (pc := 1156) rfl dL_law_1156 ?_
  refine se_icmp_eq (pc := 1158) (tgt := 1163) dL_law_1158 (by decide) (fun q1 => ?_) (fun q1 => absurd q1 (fun z => z rfl))
  refine se_iload (pc := 1163) rfl dL_law_1163 ?_
  refine se_if_ne (pc := 1165) (tgt := 1180) dL_law_1165 (by decide) (fun q2 => ?_) (fun q2 => ?_)
  · refine se_goto (pc := 1180) (tgt := 1690) dL_law_1180 (by decide) ?_
    exact hk _ _ _ _ _ ⟨β2, g2, nI (sp_swap S (xs (i + 1)) (xs (i + 2)) (xs (i + 3))).1, hC3, hb2, hR3, ho3, by rw [hf3.1]; exact Nat.le_trans h68 hl2, K_swap hV⟩
  · have hz8 : (sp_swap S (xs (i + 1)) (xs (i + 2)) (xs (i + 3))).1 = 0 := nI_z0 cb_swap (by assumption)
    have ev9 := vI_eq (hv2 hz8) (hx3 hz8)
    refine se_aload_n (pc := 1168) rfl dL_law_1168 ?_
    refine se_iconst (pc := 1169) 0 (by decide) dL_law_1169 ?_
    refine se_laldN (pc := 1170) (j := 0) 2 dL_law_1170 rfl ho3 (by decide) (by decide) ?_
    refine se_iload (pc := 1171) rfl dL_law_1171 ?_
    refine se_i2l (pc := 1173) dL_law_1173 ?_
    refine se_lcmp (pc := 1174) dL_law_1174 ?_
    refine se_if_eq (pc := 1175) (tgt := 1180) dL_law_1175 (by decide) (fun q3 => ?_) (fun q3 => absurd q3 (fun z => z (by rw [ev9]; exact lg_self _)))
    refine se_goto (pc := 1180) (tgt := 1690) dL_law_1180 (by decide) ?_
    exact hk _ _ _ _ _ ⟨β2, g2, nI (sp_swap S (xs (i + 1)) (xs (i + 2)) (xs (i + 3))).1, hC3, hb2, hR3, ho3, by rw [hf3.1]; exact Nat.le_trans h68 hl2, K_swap hV⟩
set_option maxHeartbeats 1000000 in
set_option maxRecDepth 100000 in
theorem b_spare (hd : 10 ≤ d) (hN : N < 2 ^ 31) (hb : (bb, N0, xs) ∈ (vG sc).2.2.2.2.2) (h35 : N0 ≤ 3584) (hin : i + 7 ≤ N0) (hl : lI N S h) (hk : ∀ (S' : st_S) (h' : se_H) (z5 z6 z7 : Option Value), lI (N + 1) S' h' → se_W (vG sc) l (d + 1) mL_law 1690 [some (.retAddr bb), some (.ref 0), some (.ref 41), some (.ref 67), some (.int (nI i)), z5, z6, z7] [] h' CC SS lZ) : se_W (vG sc) l (d + 1) mL_law 1183 [some (.retAddr bb), some (.ref 0), some (.ref 41), some (.ref 67), some (.int (nI i)), z5, z6, z7] [] h (CC + 8) (SS + 78) lZ := by
  obtain ⟨β, g9, t, hC, hβ, hR, ho, h68, hV⟩ := hl
  refine se_aload_n (pc := 1183) rfl dL_law_1183 ?_
  refine se_aload_nR (pc := 1184) rfl dL_law_1184 ?_
  refine se_iload (pc := 1185) rfl dL_law_1185 ?_
  refine se_iconst (pc := 1187) 1 (by decide) dL_law_1187 ?_
  refine se_iadd (pc := 1188) dL_law_1188 ?_
  rw [nI_p1]
  refine se_sldN (pc := 1189) dL_law_1189 hb (by omega) (by omega) ?_
  refine se_aload_n (pc := 1190) rfl dL_law_1190 ?_
  refine se_invSH (pc := 1191) (as := [.ref 0, .int (xs (i + 1)), .ref 67]) (st := []) (vok sc) kL_spare dL_law_1191 ⟨wd_464, wd_465, wd_0⟩ rfl (Nat.le_of_ble_eq_true rfl) (Nat.le_of_ble_eq_true rfl) (w_spare (by omega) hC hβ hV ho) (C2 := CC) (S2 := SS) (by omega) (by omega) (fun v1191 h1191 _ q1191 => ?_) (fun x hx => absurd hx List.not_mem_nil) (fun v1191 h1191 _ q1191 => ?_)
  rotate_left
  · cases q1191.1
  obtain ⟨q1191, ⟨β2, hC2, hb2⟩, hl2, hf2, g2, ho2, hv2⟩ := q1191
  cases q1191
  have hR2 := is_R_mv hR hf2
  refine se_istore (pc := 1194) dL_law_1194 (by decide) [some (.retAddr bb), some (.ref 0), some (.ref 41), some (.ref 67), some (.int (nI i)), some (.int (nI (sp_spare S (xs (i + 1))).1)), z6, z7] rfl ?_
  refine se_aload_n (pc := 1196) rfl dL_law_1196 ?_
  refine se_aload_nR (pc := 1197) rfl dL_law_1197 ?_
  refine se_iload (pc := 1198) rfl dL_law_1198 ?_
  refine se_iconst (pc := 1200) 1 (by decide) dL_law_1200 ?_
  refine se_iadd (pc := 1201) dL_law_1201 ?_
  rw [nI_p1]
  refine se_sldN (pc := 1202) dL_law_1202 hb (by omega) (by omega) ?_
  refine se_invV (pc := 1203) (as := [.int (xs (i + 1))]) (st := []) (vok sc) kR_spare dL_law_1203 ⟨wd_751, wd_752, wd_753, wd_3⟩ rfl hR2.1 rfl (Nat.le_of_ble_eq_true rfl) (Nat.le_of_ble_eq_true rfl) (r_spare (by omega) hR2 hV.1 hV.2.2 hN) (C2 := CC) (S2 := SS) (by omega) (by omega) (fun v1203 h1203 _ q1203 => ?_) (fun x hx => absurd hx List.not_mem_nil) (fun v1203 h1203 _ q1203 => ?_)
  rotate_left
  · obtain ⟨⟨_, e, _⟩, _⟩ := q1203; cases e
  obtain ⟨⟨x3, q1203, hx3⟩, hR3, hf3⟩ := q1203
  cases q1203
  have hC3 := is_C_mv hC2 hb2 (fun a ha => hf3.2 a (by omega))
  have ho3 : is_O g2 _ := (hf3.2 67 (by decide)).trans ho2
  refine se_istore (pc := 1206) dL_law_1206 (by decide) [some (.retAddr bb), some (.ref 0), some (.ref 41), some (.ref 67), some (.int (nI i)), some (.int (nI (sp_spare S (xs (i + 1))).1)), some (.int x3), z7] rfl ?_
  refine se_aload_n (pc := 1208) rfl dL_law_1208 ?_
  refine se_invV (pc := 1209) (as := []) (st := []) (vok sc) kR_thrown dL_law_1209 ⟨wd_641, wd_642, wd_643, wd_3⟩ rfl hR3.1 rfl (Nat.le_of_ble_eq_true rfl) (Nat.le_of_ble_eq_true rfl) (c_R_thrown hR3) (C2 := CC) (S2 := SS) (by omega) (by omega) (fun v1209 h1209 _ q1209 => ?_) (fun x hx => absurd hx List.not_mem_nil) (fun v1209 h1209 _ q1209 => ?_)
  rotate_left
  · cases q1209.2
  obtain ⟨h1209e, q1209⟩ := q1209
  have h1209f := h1209e.symm
  subst h1209f
  cases q1209
  refine se_iload (pc := 1212) rfl dL_law_1212 ?_
  refine se_icmp_eq (pc := 1214) (tgt := 1219) dL_law_1214 (by decide) (fun q1 => ?_) (fun q1 => absurd q1 (fun z => z rfl))
  refine se_iload (pc := 1219) rfl dL_law_1219 ?_
  refine se_if_ne (pc := 1221) (tgt := 1236) dL_law_1221 (by decide) (fun q2 => ?_) (fun q2 => ?_)
  · refine se_goto (pc := 1236) (tgt := 1690) dL_law_1236 (by decide) ?_
    exact hk _ _ _ _ _ ⟨β2, g2, nI (sp_spare S (xs (i + 1))).1, hC3, hb2, hR3, ho3, by rw [hf3.1]; exact Nat.le_trans h68 hl2, K_spare hV⟩
  · have hz8 : (sp_spare S (xs (i + 1))).1 = 0 := nI_z0 cb_spare (by assumption)
    have ev9 := vI_eq (hv2 hz8) (hx3 hz8)
    refine se_aload_n (pc := 1224) rfl dL_law_1224 ?_
    refine se_iconst (pc := 1225) 0 (by decide) dL_law_1225 ?_
    refine se_laldN (pc := 1226) (j := 0) 2 dL_law_1226 rfl ho3 (by decide) (by decide) ?_
    refine se_iload (pc := 1227) rfl dL_law_1227 ?_
    refine se_i2l (pc := 1229) dL_law_1229 ?_
    refine se_lcmp (pc := 1230) dL_law_1230 ?_
    refine se_if_eq (pc := 1231) (tgt := 1236) dL_law_1231 (by decide) (fun q3 => ?_) (fun q3 => absurd q3 (fun z => z (by rw [ev9]; exact lg_self _)))
    refine se_goto (pc := 1236) (tgt := 1690) dL_law_1236 (by decide) ?_
    exact hk _ _ _ _ _ ⟨β2, g2, nI (sp_spare S (xs (i + 1))).1, hC3, hb2, hR3, ho3, by rw [hf3.1]; exact Nat.le_trans h68 hl2, K_spare hV⟩
set_option maxHeartbeats 1000000 in
set_option maxRecDepth 100000 in
theorem b_fuel (hd : 10 ≤ d) (hN : N < 2 ^ 31) (hb : (bb, N0, xs) ∈ (vG sc).2.2.2.2.2) (h35 : N0 ≤ 3584) (hin : i + 7 ≤ N0) (hl : lI N S h) (hk : ∀ (S' : st_S) (h' : se_H) (z5 z6 z7 : Option Value), lI (N + 1) S' h' → se_W (vG sc) l (d + 1) mL_law 1690 [some (.retAddr bb), some (.ref 0), some (.ref 41), some (.ref 67), some (.int (nI i)), z5, z6, z7] [] h' CC SS lZ) : se_W (vG sc) l (d + 1) mL_law 1239 [some (.retAddr bb), some (.ref 0), some (.ref 41), some (.ref 67), some (.int (nI i)), z5, z6, z7] [] h (CC + 8) (SS + 78) lZ := by
  obtain ⟨β, g9, t, hC, hβ, hR, ho, h68, hV⟩ := hl
  refine se_aload_n (pc := 1239) rfl dL_law_1239 ?_
  refine se_aload_nR (pc := 1240) rfl dL_law_1240 ?_
  refine se_iload (pc := 1241) rfl dL_law_1241 ?_
  refine se_iconst (pc := 1243) 1 (by decide) dL_law_1243 ?_
  refine se_iadd (pc := 1244) dL_law_1244 ?_
  rw [nI_p1]
  refine se_sldN (pc := 1245) dL_law_1245 hb (by omega) (by omega) ?_
  refine se_aload_nR (pc := 1246) rfl dL_law_1246 ?_
  refine se_iload (pc := 1247) rfl dL_law_1247 ?_
  refine se_iconst (pc := 1249) 2 (by decide) dL_law_1249 ?_
  refine se_iadd (pc := 1250) dL_law_1250 ?_
  rw [nI_p2]
  refine se_sldN (pc := 1251) dL_law_1251 hb (by omega) (by omega) ?_
  refine se_aload_n (pc := 1252) rfl dL_law_1252 ?_
  refine se_invSH (pc := 1253) (as := [.ref 0, .int (xs (i + 1)), .int (xs (i + 2)), .ref 67]) (st := []) (vok sc) kL_fuel dL_law_1253 ⟨wd_483, wd_484, wd_0⟩ rfl (Nat.le_of_ble_eq_true rfl) (Nat.le_of_ble_eq_true rfl) (w_fuel (by omega) hC hβ hV ho) (C2 := CC) (S2 := SS) (by omega) (by omega) (fun v1253 h1253 _ q1253 => ?_) (fun x hx => absurd hx List.not_mem_nil) (fun v1253 h1253 _ q1253 => ?_)
  rotate_left
  · cases q1253.1
  obtain ⟨q1253, ⟨β2, hC2, hb2⟩, hl2, hf2, g2, ho2, hv2⟩ := q1253
  cases q1253
  have hR2 := is_R_mv hR hf2
  refine se_istore (pc := 1256) dL_law_1256 (by decide) [some (.retAddr bb), some (.ref 0), some (.ref 41), some (.ref 67), some (.int (nI i)), some (.int (nI (sp_fuel S (xs (i + 1)) (xs (i + 2))).1)), z6, z7] rfl ?_
  refine se_aload_n (pc := 1258) rfl dL_law_1258 ?_
  refine se_aload_nR (pc := 1259) rfl dL_law_1259 ?_
  refine se_iload (pc := 1260) rfl dL_law_1260 ?_
  refine se_iconst (pc := 1262) 1 (by decide) dL_law_1262 ?_
  refine se_iadd (pc := 1263) dL_law_1263 ?_
  rw [nI_p1]
  refine se_sldN (pc := 1264) dL_law_1264 hb (by omega) (by omega) ?_
  refine se_aload_nR (pc := 1265) rfl dL_law_1265 ?_
  refine se_iload (pc := 1266) rfl dL_law_1266 ?_
  refine se_iconst (pc := 1268) 2 (by decide) dL_law_1268 ?_
  refine se_iadd (pc := 1269) dL_law_1269 ?_
  rw [nI_p2]
  refine se_sldN (pc := 1270) dL_law_1270 hb (by omega) (by omega) ?_
  refine se_invV (pc := 1271) (as := [.int (xs (i + 1)), .int (xs (i + 2))]) (st := []) (vok sc) kR_fuel dL_law_1271 ⟨wd_755, wd_756, wd_757, wd_3⟩ rfl hR2.1 rfl (Nat.le_of_ble_eq_true rfl) (Nat.le_of_ble_eq_true rfl) (r_fuel (by omega) hR2 hV.1 hV.2.2 hN) (C2 := CC) (S2 := SS) (by omega) (by omega) (fun v1271 h1271 _ q1271 => ?_) (fun x hx => absurd hx List.not_mem_nil) (fun v1271 h1271 _ q1271 => ?_)
  rotate_left
  · obtain ⟨⟨_, e, _⟩, _⟩ := q1271; cases e
  obtain ⟨⟨x3, q1271, hx3⟩, hR3, hf3⟩ := q1271
  cases q1271
  have hC3 := is_C_mv hC2 hb2 (fun a ha => hf3.2 a (by omega))
  have ho3 : is_O g2 _ := (hf3.2 67 (by decide)).trans ho2
  refine se_istore (pc := 1274) dL_law_1274 (by decide) [some (.retAddr bb), some (.ref 0), some (.ref 41), some (.ref 67), some (.int (nI i)), some (.int (nI (sp_fuel S (xs (i + 1)) (xs (i + 2))).1)), some (.int x3), z7] rfl ?_
  refine se_aload_n (pc := 1276) rfl dL_law_1276 ?_
  refine se_invV (pc := 1277) (as := []) (st := []) (vok sc) kR_thrown dL_law_1277 ⟨wd_641, wd_642, wd_643, wd_3⟩ rfl hR3.1 rfl (Nat.le_of_ble_eq_true rfl) (Nat.le_of_ble_eq_true rfl) (c_R_thrown hR3) (C2 := CC) (S2 := SS) (by omega) (by omega) (fun v1277 h1277 _ q1277 => ?_) (fun x hx => absurd hx List.not_mem_nil) (fun v1277 h1277 _ q1277 => ?_)
  rotate_left
  · cases q1277.2
  obtain ⟨h1277e, q1277⟩ := q1277
  have h1277f := h1277e.symm
  subst h1277f
  cases q1277
  refine se_iload (pc := 1280) rfl dL_law_1280 ?_
  refine se_icmp_eq (pc := 1282) (tgt := 1287) dL_law_1282 (by decide) (fun q1 => ?_) (fun q1 => absurd q1 (fun z => z rfl))
  refine se_iload (pc := 1287) rfl dL_law_1287 ?_
  refine se_if_ne (pc := 1289) (tgt := 1304) dL_law_1289 (by decide) (fun q2 => ?_) (fun q2 => ?_)
  · refine se_goto (pc := 1304) (tgt := 1690) dL_law_1304 (by decide) ?_
    exact hk _ _ _ _ _ ⟨β2, g2, nI (sp_fuel S (xs (i + 1)) (xs (i + 2))).1, hC3, hb2, hR3, ho3, by rw [hf3.1]; exact Nat.le_trans h68 hl2, K_fuel hV⟩
  · have hz8 : (sp_fuel S (xs (i + 1)) (xs (i + 2))).1 = 0 := nI_z0 cb_fuel (by assumption)
    have ev9 := vI_eq (hv2 hz8) (hx3 hz8)
    refine se_aload_n (pc := 1292) rfl dL_law_1292 ?_
    refine se_iconst (pc := 1293) 0 (by decide) dL_law_1293 ?_
    refine se_laldN (pc := 1294) (j := 0) 2 dL_law_1294 rfl ho3 (by decide) (by decide) ?_
    refine se_iload (pc := 1295) rfl dL_law_1295 ?_
    refine se_i2l (pc := 1297) dL_law_1297 ?_
    refine se_lcmp (pc := 1298) dL_law_1298 ?_
    refine se_if_eq (pc := 1299) (tgt := 1304) dL_law_1299 (by decide) (fun q3 => ?_) (fun q3 => absurd q3 (fun z => z (by rw [ev9]; exact lg_self _)))
    refine se_goto (pc := 1304) (tgt := 1690) dL_law_1304 (by decide) ?_
    exact hk _ _ _ _ _ ⟨β2, g2, nI (sp_fuel S (xs (i + 1)) (xs (i + 2))).1, hC3, hb2, hR3, ho3, by rw [hf3.1]; exact Nat.le_trans h68 hl2, K_fuel hV⟩
set_option maxHeartbeats 1000000 in
set_option maxRecDepth 100000 in
theorem b_using (hd : 10 ≤ d) (hN : N < 2 ^ 31) (hb : (bb, N0, xs) ∈ (vG sc).2.2.2.2.2) (h35 : N0 ≤ 3584) (hin : i + 7 ≤ N0) (hl : lI N S h) (hk : ∀ (S' : st_S) (h' : se_H) (z5 z6 z7 : Option Value), lI (N + 1) S' h' → se_W (vG sc) l (d + 1) mL_law 1690 [some (.retAddr bb), some (.ref 0), some (.ref 41), some (.ref 67), some (.int (nI i)), z5, z6, z7] [] h' CC SS lZ) : se_W (vG sc) l (d + 1) mL_law 1307 [some (.retAddr bb), some (.ref 0), some (.ref 41), some (.ref 67), some (.int (nI i)), z5, z6, z7] [] h (CC + 8) (SS + 78) lZ := by
  obtain ⟨β, g9, t, hC, hβ, hR, ho, h68, hV⟩ := hl
  refine se_aload_n (pc := 1307) rfl dL_law_1307 ?_
  refine se_aload_nR (pc := 1308) rfl dL_law_1308 ?_
  refine se_iload (pc := 1309) rfl dL_law_1309 ?_
  refine se_iconst (pc := 1311) 1 (by decide) dL_law_1311 ?_
  refine se_iadd (pc := 1312) dL_law_1312 ?_
  rw [nI_p1]
  refine se_sldN (pc := 1313) dL_law_1313 hb (by omega) (by omega) ?_
  refine se_aload_nR (pc := 1314) rfl dL_law_1314 ?_
  refine se_iload (pc := 1315) rfl dL_law_1315 ?_
  refine se_iconst (pc := 1317) 2 (by decide) dL_law_1317 ?_
  refine se_iadd (pc := 1318) dL_law_1318 ?_
  rw [nI_p2]
  refine se_sldN (pc := 1319) dL_law_1319 hb (by omega) (by omega) ?_
  refine se_aload_n (pc := 1320) rfl dL_law_1320 ?_
  refine se_invSH (pc := 1321) (as := [.ref 0, .int (xs (i + 1)), .int (xs (i + 2)), .ref 67]) (st := []) (vok sc) kL_using dL_law_1321 ⟨wd_491, wd_492, wd_0⟩ rfl (Nat.le_of_ble_eq_true rfl) (Nat.le_of_ble_eq_true rfl) (w_using (by omega) hC hβ hV ho) (C2 := CC) (S2 := SS) (by omega) (by omega) (fun v1321 h1321 _ q1321 => ?_) (fun x hx => absurd hx List.not_mem_nil) (fun v1321 h1321 _ q1321 => ?_)
  rotate_left
  · cases q1321.1
  obtain ⟨q1321, ⟨β2, hC2, hb2⟩, hl2, hf2, g2, ho2, hv2⟩ := q1321
  cases q1321
  have hR2 := is_R_mv hR hf2
  refine se_istore (pc := 1324) dL_law_1324 (by decide) [some (.retAddr bb), some (.ref 0), some (.ref 41), some (.ref 67), some (.int (nI i)), some (.int (nI (sp_using S (xs (i + 1)) (xs (i + 2))).1)), z6, z7] rfl ?_
  refine se_aload_n (pc := 1326) rfl dL_law_1326 ?_
  refine se_aload_nR (pc := 1327) rfl dL_law_1327 ?_
  refine se_iload (pc := 1328) rfl dL_law_1328 ?_
  refine se_iconst (pc := 1330) 1 (by decide) dL_law_1330 ?_
  refine se_iadd (pc := 1331) dL_law_1331 ?_
  rw [nI_p1]
  refine se_sldN (pc := 1332) dL_law_1332 hb (by omega) (by omega) ?_
  refine se_aload_nR (pc := 1333) rfl dL_law_1333 ?_
  refine se_iload (pc := 1334) rfl dL_law_1334 ?_
  refine se_iconst (pc := 1336) 2 (by decide) dL_law_1336 ?_
  refine se_iadd (pc := 1337) dL_law_1337 ?_
  rw [nI_p2]
  refine se_sldN (pc := 1338) dL_law_1338 hb (by omega) (by omega) ?_
  refine se_invV (pc := 1339) (as := [.int (xs (i + 1)), .int (xs (i + 2))]) (st := []) (vok sc) kR_using dL_law_1339 ⟨wd_760, wd_761, wd_762, wd_3⟩ rfl hR2.1 rfl (Nat.le_of_ble_eq_true rfl) (Nat.le_of_ble_eq_true rfl) (r_using (by omega) hR2 hV.1 hV.2.2 hN) (C2 := CC) (S2 := SS) (by omega) (by omega) (fun v1339 h1339 _ q1339 => ?_) (fun x hx => absurd hx List.not_mem_nil) (fun v1339 h1339 _ q1339 => ?_)
  rotate_left
  · obtain ⟨⟨_, e, _⟩, _⟩ := q1339; cases e
  obtain ⟨⟨x3, q1339, hx3⟩, hR3, hf3⟩ := q1339
  cases q1339
  have hC3 := is_C_mv hC2 hb2 (fun a ha => hf3.2 a (by omega))
  have ho3 : is_O g2 _ := (hf3.2 67 (by decide)).trans ho2
  refine se_lstore (pc := 1342) dL_law_1342 (by decide) [some (.retAddr bb), some (.ref 0), some (.ref 41), some (.ref 67), some (.int (nI i)), some (.int (nI (sp_using S (xs (i + 1)) (xs (i + 2))).1)), some (.long x3), none] rfl ?_
  refine se_aload_n (pc := 1344) rfl dL_law_1344 ?_
  refine se_invV (pc := 1345) (as := []) (st := []) (vok sc) kR_thrown dL_law_1345 ⟨wd_641, wd_642, wd_643, wd_3⟩ rfl hR3.1 rfl (Nat.le_of_ble_eq_true rfl) (Nat.le_of_ble_eq_true rfl) (c_R_thrown hR3) (C2 := CC) (S2 := SS) (by omega) (by omega) (fun v1345 h1345 _ q1345 => ?_) (fun x hx => absurd hx List.not_mem_nil) (fun v1345 h1345 _ q1345 => ?_)
  rotate_left
  · cases q1345.2
  obtain ⟨h1345e, q1345⟩ := q1345
  have h1345f := h1345e.symm
  subst h1345f
  cases q1345
  refine se_iload (pc := 1348) rfl dL_law_1348 ?_
  refine se_icmp_eq (pc := 1350) (tgt := 1355) dL_law_1350 (by decide) (fun q1 => ?_) (fun q1 => absurd q1 (fun z => z rfl))
  refine se_iload (pc := 1355) rfl dL_law_1355 ?_
  refine se_if_ne (pc := 1357) (tgt := 1371) dL_law_1357 (by decide) (fun q2 => ?_) (fun q2 => ?_)
  · refine se_goto (pc := 1371) (tgt := 1690) dL_law_1371 (by decide) ?_
    exact hk _ _ _ _ _ ⟨β2, g2, nI (sp_using S (xs (i + 1)) (xs (i + 2))).1, hC3, hb2, hR3, ho3, by rw [hf3.1]; exact Nat.le_trans h68 hl2, K_using hV⟩
  · have hz8 : (sp_using S (xs (i + 1)) (xs (i + 2))).1 = 0 := nI_z0 cb_using (by assumption)
    have ev9 := vJ_eq (hv2 hz8) (hx3 hz8)
    refine se_aload_n (pc := 1360) rfl dL_law_1360 ?_
    refine se_iconst (pc := 1361) 0 (by decide) dL_law_1361 ?_
    refine se_laldN (pc := 1362) (j := 0) 2 dL_law_1362 rfl ho3 (by decide) (by decide) ?_
    refine se_lload (pc := 1363) rfl dL_law_1363 ?_
    refine se_lcmp (pc := 1365) dL_law_1365 ?_
    refine se_if_eq (pc := 1366) (tgt := 1371) dL_law_1366 (by decide) (fun q3 => ?_) (fun q3 => absurd q3 (fun z => z (by rw [ev9]; exact lg_self _)))
    refine se_goto (pc := 1371) (tgt := 1690) dL_law_1371 (by decide) ?_
    exact hk _ _ _ _ _ ⟨β2, g2, nI (sp_using S (xs (i + 1)) (xs (i + 2))).1, hC3, hb2, hR3, ho3, by rw [hf3.1]; exact Nat.le_trans h68 hl2, K_using hV⟩
set_option maxHeartbeats 1000000 in
set_option maxRecDepth 100000 in
theorem b_key (hd : 10 ≤ d) (hN : N < 2 ^ 31) (hb : (bb, N0, xs) ∈ (vG sc).2.2.2.2.2) (h35 : N0 ≤ 3584) (hin : i + 7 ≤ N0) (hl : lI N S h) (hk : ∀ (S' : st_S) (h' : se_H) (z5 z6 z7 : Option Value), lI (N + 1) S' h' → se_W (vG sc) l (d + 1) mL_law 1690 [some (.retAddr bb), some (.ref 0), some (.ref 41), some (.ref 67), some (.int (nI i)), z5, z6, z7] [] h' CC SS lZ) : se_W (vG sc) l (d + 1) mL_law 1374 [some (.retAddr bb), some (.ref 0), some (.ref 41), some (.ref 67), some (.int (nI i)), z5, z6, z7] [] h (CC + 8) (SS + 78) lZ := by
  obtain ⟨β, g9, t, hC, hβ, hR, ho, h68, hV⟩ := hl
  refine se_aload_n (pc := 1374) rfl dL_law_1374 ?_
  refine se_aload_nR (pc := 1375) rfl dL_law_1375 ?_
  refine se_iload (pc := 1376) rfl dL_law_1376 ?_
  refine se_iconst (pc := 1378) 1 (by decide) dL_law_1378 ?_
  refine se_iadd (pc := 1379) dL_law_1379 ?_
  rw [nI_p1]
  refine se_sldN (pc := 1380) dL_law_1380 hb (by omega) (by omega) ?_
  refine se_aload_nR (pc := 1381) rfl dL_law_1381 ?_
  refine se_iload (pc := 1382) rfl dL_law_1382 ?_
  refine se_iconst (pc := 1384) 2 (by decide) dL_law_1384 ?_
  refine se_iadd (pc := 1385) dL_law_1385 ?_
  rw [nI_p2]
  refine se_sldN (pc := 1386) dL_law_1386 hb (by omega) (by omega) ?_
  refine se_aload_n (pc := 1387) rfl dL_law_1387 ?_
  refine se_invSH (pc := 1388) (as := [.ref 0, .int (xs (i + 1)), .int (xs (i + 2)), .ref 67]) (st := []) (vok sc) kL_key dL_law_1388 ⟨wd_506, wd_507, wd_0⟩ rfl (Nat.le_of_ble_eq_true rfl) (Nat.le_of_ble_eq_true rfl) (w_key (by omega) hC hβ hV ho) (C2 := CC) (S2 := SS) (by omega) (by omega) (fun v1388 h1388 _ q1388 => ?_) (fun x hx => absurd hx List.not_mem_nil) (fun v1388 h1388 _ q1388 => ?_)
  rotate_left
  · cases q1388.1
  obtain ⟨q1388, ⟨β2, hC2, hb2⟩, hl2, hf2, g2, ho2, hv2⟩ := q1388
  cases q1388
  have hR2 := is_R_mv hR hf2
  refine se_istore (pc := 1391) dL_law_1391 (by decide) [some (.retAddr bb), some (.ref 0), some (.ref 41), some (.ref 67), some (.int (nI i)), some (.int (nI (sp_key S (xs (i + 1)) (xs (i + 2))).1)), z6, z7] rfl ?_
  refine se_aload_n (pc := 1393) rfl dL_law_1393 ?_
  refine se_aload_nR (pc := 1394) rfl dL_law_1394 ?_
  refine se_iload (pc := 1395) rfl dL_law_1395 ?_
  refine se_iconst (pc := 1397) 1 (by decide) dL_law_1397 ?_
  refine se_iadd (pc := 1398) dL_law_1398 ?_
  rw [nI_p1]
  refine se_sldN (pc := 1399) dL_law_1399 hb (by omega) (by omega) ?_
  refine se_aload_nR (pc := 1400) rfl dL_law_1400 ?_
  refine se_iload (pc := 1401) rfl dL_law_1401 ?_
  refine se_iconst (pc := 1403) 2 (by decide) dL_law_1403 ?_
  refine se_iadd (pc := 1404) dL_law_1404 ?_
  rw [nI_p2]
  refine se_sldN (pc := 1405) dL_law_1405 hb (by omega) (by omega) ?_
  refine se_invV (pc := 1406) (as := [.int (xs (i + 1)), .int (xs (i + 2))]) (st := []) (vok sc) kR_key dL_law_1406 ⟨wd_765, wd_766, wd_767, wd_3⟩ rfl hR2.1 rfl (Nat.le_of_ble_eq_true rfl) (Nat.le_of_ble_eq_true rfl) (r_key (by omega) hR2 hV.1 hV.2.2 hN) (C2 := CC) (S2 := SS) (by omega) (by omega) (fun v1406 h1406 _ q1406 => ?_) (fun x hx => absurd hx List.not_mem_nil) (fun v1406 h1406 _ q1406 => ?_)
  rotate_left
  · obtain ⟨⟨_, e, _⟩, _⟩ := q1406; cases e
  obtain ⟨⟨x3, q1406, hx3⟩, hR3, hf3⟩ := q1406
  cases q1406
  have hC3 := is_C_mv hC2 hb2 (fun a ha => hf3.2 a (by omega))
  have ho3 : is_O g2 _ := (hf3.2 67 (by decide)).trans ho2
  refine se_istore (pc := 1409) dL_law_1409 (by decide) [some (.retAddr bb), some (.ref 0), some (.ref 41), some (.ref 67), some (.int (nI i)), some (.int (nI (sp_key S (xs (i + 1)) (xs (i + 2))).1)), some (.int x3), z7] rfl ?_
  refine se_aload_n (pc := 1411) rfl dL_law_1411 ?_
  refine se_invV (pc := 1412) (as := []) (st := []) (vok sc) kR_thrown dL_law_1412 ⟨wd_641, wd_642, wd_643, wd_3⟩ rfl hR3.1 rfl (Nat.le_of_ble_eq_true rfl) (Nat.le_of_ble_eq_true rfl) (c_R_thrown hR3) (C2 := CC) (S2 := SS) (by omega) (by omega) (fun v1412 h1412 _ q1412 => ?_) (fun x hx => absurd hx List.not_mem_nil) (fun v1412 h1412 _ q1412 => ?_)
  rotate_left
  · cases q1412.2
  obtain ⟨h1412e, q1412⟩ := q1412
  have h1412f := h1412e.symm
  subst h1412f
  cases q1412
  refine se_iload (pc := 1415) rfl dL_law_1415 ?_
  refine se_icmp_eq (pc := 1417) (tgt := 1422) dL_law_1417 (by decide) (fun q1 => ?_) (fun q1 => absurd q1 (fun z => z rfl))
  refine se_iload (pc := 1422) rfl dL_law_1422 ?_
  refine se_if_ne (pc := 1424) (tgt := 1439) dL_law_1424 (by decide) (fun q2 => ?_) (fun q2 => ?_)
  · refine se_goto (pc := 1439) (tgt := 1690) dL_law_1439 (by decide) ?_
    exact hk _ _ _ _ _ ⟨β2, g2, nI (sp_key S (xs (i + 1)) (xs (i + 2))).1, hC3, hb2, hR3, ho3, by rw [hf3.1]; exact Nat.le_trans h68 hl2, K_key hV⟩
  · have hz8 : (sp_key S (xs (i + 1)) (xs (i + 2))).1 = 0 := nI_z0 cb_key (by assumption)
    have ev9 := vI_eq (hv2 hz8) (hx3 hz8)
    refine se_aload_n (pc := 1427) rfl dL_law_1427 ?_
    refine se_iconst (pc := 1428) 0 (by decide) dL_law_1428 ?_
    refine se_laldN (pc := 1429) (j := 0) 2 dL_law_1429 rfl ho3 (by decide) (by decide) ?_
    refine se_iload (pc := 1430) rfl dL_law_1430 ?_
    refine se_i2l (pc := 1432) dL_law_1432 ?_
    refine se_lcmp (pc := 1433) dL_law_1433 ?_
    refine se_if_eq (pc := 1434) (tgt := 1439) dL_law_1434 (by decide) (fun q3 => ?_) (fun q3 => absurd q3 (fun z => z (by rw [ev9]; exact lg_self _)))
    refine se_goto (pc := 1439) (tgt := 1690) dL_law_1439 (by decide) ?_
    exact hk _ _ _ _ _ ⟨β2, g2, nI (sp_key S (xs (i + 1)) (xs (i + 2))).1, hC3, hb2, hR3, ho3, by rw [hf3.1]; exact Nat.le_trans h68 hl2, K_key hV⟩
set_option maxHeartbeats 1000000 in
set_option maxRecDepth 100000 in
theorem b_cost (hd : 10 ≤ d) (hN : N < 2 ^ 31) (hb : (bb, N0, xs) ∈ (vG sc).2.2.2.2.2) (h35 : N0 ≤ 3584) (hin : i + 7 ≤ N0) (hl : lI N S h) (hk : ∀ (S' : st_S) (h' : se_H) (z5 z6 z7 : Option Value), lI (N + 1) S' h' → se_W (vG sc) l (d + 1) mL_law 1690 [some (.retAddr bb), some (.ref 0), some (.ref 41), some (.ref 67), some (.int (nI i)), z5, z6, z7] [] h' CC SS lZ) : se_W (vG sc) l (d + 1) mL_law 1442 [some (.retAddr bb), some (.ref 0), some (.ref 41), some (.ref 67), some (.int (nI i)), z5, z6, z7] [] h (CC + 8) (SS + 78) lZ := by
  obtain ⟨β, g9, t, hC, hβ, hR, ho, h68, hV⟩ := hl
  refine se_aload_n (pc := 1442) rfl dL_law_1442 ?_
  refine se_aload_nR (pc := 1443) rfl dL_law_1443 ?_
  refine se_iload (pc := 1444) rfl dL_law_1444 ?_
  refine se_iconst (pc := 1446) 1 (by decide) dL_law_1446 ?_
  refine se_iadd (pc := 1447) dL_law_1447 ?_
  rw [nI_p1]
  refine se_sldN (pc := 1448) dL_law_1448 hb (by omega) (by omega) ?_
  refine se_aload_nR (pc := 1449) rfl dL_law_1449 ?_
  refine se_iload (pc := 1450) rfl dL_law_1450 ?_
  refine se_iconst (pc := 1452) 2 (by decide) dL_law_1452 ?_
  refine se_iadd (pc := 1453) dL_law_1453 ?_
  rw [nI_p2]
  refine se_sldN (pc := 1454) dL_law_1454 hb (by omega) (by omega) ?_
  refine se_aload_n (pc := 1455) rfl dL_law_1455 ?_
  refine se_invSH (pc := 1456) (as := [.ref 0, .int (xs (i + 1)), .int (xs (i + 2)), .ref 67]) (st := []) (vok sc) kL_cost dL_law_1456 ⟨wd_514, wd_515, wd_0⟩ rfl (Nat.le_of_ble_eq_true rfl) (Nat.le_of_ble_eq_true rfl) (w_cost (by omega) hC hβ hV ho) (C2 := CC) (S2 := SS) (by omega) (by omega) (fun v1456 h1456 _ q1456 => ?_) (fun x hx => absurd hx List.not_mem_nil) (fun v1456 h1456 _ q1456 => ?_)
  rotate_left
  · cases q1456.1
  obtain ⟨q1456, ⟨β2, hC2, hb2⟩, hl2, hf2, g2, ho2, hv2⟩ := q1456
  cases q1456
  have hR2 := is_R_mv hR hf2
  refine se_istore (pc := 1459) dL_law_1459 (by decide) [some (.retAddr bb), some (.ref 0), some (.ref 41), some (.ref 67), some (.int (nI i)), some (.int (nI (sp_cost S (xs (i + 1)) (xs (i + 2))).1)), z6, z7] rfl ?_
  refine se_aload_n (pc := 1461) rfl dL_law_1461 ?_
  refine se_aload_nR (pc := 1462) rfl dL_law_1462 ?_
  refine se_iload (pc := 1463) rfl dL_law_1463 ?_
  refine se_iconst (pc := 1465) 1 (by decide) dL_law_1465 ?_
  refine se_iadd (pc := 1466) dL_law_1466 ?_
  rw [nI_p1]
  refine se_sldN (pc := 1467) dL_law_1467 hb (by omega) (by omega) ?_
  refine se_aload_nR (pc := 1468) rfl dL_law_1468 ?_
  refine se_iload (pc := 1469) rfl dL_law_1469 ?_
  refine se_iconst (pc := 1471) 2 (by decide) dL_law_1471 ?_
  refine se_iadd (pc := 1472) dL_law_1472 ?_
  rw [nI_p2]
  refine se_sldN (pc := 1473) dL_law_1473 hb (by omega) (by omega) ?_
  refine se_invV (pc := 1474) (as := [.int (xs (i + 1)), .int (xs (i + 2))]) (st := []) (vok sc) kR_cost dL_law_1474 ⟨wd_769, wd_770, wd_771, wd_3⟩ rfl hR2.1 rfl (Nat.le_of_ble_eq_true rfl) (Nat.le_of_ble_eq_true rfl) (r_cost (by omega) hR2 hV.1 hV.2.2 hN) (C2 := CC) (S2 := SS) (by omega) (by omega) (fun v1474 h1474 _ q1474 => ?_) (fun x hx => absurd hx List.not_mem_nil) (fun v1474 h1474 _ q1474 => ?_)
  rotate_left
  · obtain ⟨⟨_, e, _⟩, _⟩ := q1474; cases e
  obtain ⟨⟨x3, q1474, hx3⟩, hR3, hf3⟩ := q1474
  cases q1474
  have hC3 := is_C_mv hC2 hb2 (fun a ha => hf3.2 a (by omega))
  have ho3 : is_O g2 _ := (hf3.2 67 (by decide)).trans ho2
  refine se_istore (pc := 1477) dL_law_1477 (by decide) [some (.retAddr bb), some (.ref 0), some (.ref 41), some (.ref 67), some (.int (nI i)), some (.int (nI (sp_cost S (xs (i + 1)) (xs (i + 2))).1)), some (.int x3), z7] rfl ?_
  refine se_aload_n (pc := 1479) rfl dL_law_1479 ?_
  refine se_invV (pc := 1480) (as := []) (st := []) (vok sc) kR_thrown dL_law_1480 ⟨wd_641, wd_642, wd_643, wd_3⟩ rfl hR3.1 rfl (Nat.le_of_ble_eq_true rfl) (Nat.le_of_ble_eq_true rfl) (c_R_thrown hR3) (C2 := CC) (S2 := SS) (by omega) (by omega) (fun v1480 h1480 _ q1480 => ?_) (fun x hx => absurd hx List.not_mem_nil) (fun v1480 h1480 _ q1480 => ?_)
  rotate_left
  · cases q1480.2
  obtain ⟨h1480e, q1480⟩ := q1480
  have h1480f := h1480e.symm
  subst h1480f
  cases q1480
  refine se_iload (pc := 1483) rfl dL_law_1483 ?_
  refine se_icmp_eq (pc := 1485) (tgt := 1490) dL_law_1485 (by decide) (fun q1 => ?_) (fun q1 => absurd q1 (fun z => z rfl))
  refine se_iload (pc := 1490) rfl dL_law_1490 ?_
  refine se_if_ne (pc := 1492) (tgt := 1507) dL_law_1492 (by decide) (fun q2 => ?_) (fun q2 => ?_)
  · refine se_goto (pc := 1507) (tgt := 1690) dL_law_1507 (by decide) ?_
    exact hk _ _ _ _ _ ⟨β2, g2, nI (sp_cost S (xs (i + 1)) (xs (i + 2))).1, hC3, hb2, hR3, ho3, by rw [hf3.1]; exact Nat.le_trans h68 hl2, K_cost hV⟩
  · have hz8 : (sp_cost S (xs (i + 1)) (xs (i + 2))).1 = 0 := nI_z0 cb_cost (by assumption)
    have ev9 := vI_eq (hv2 hz8) (hx3 hz8)
    refine se_aload_n (pc := 1495) rfl dL_law_1495 ?_
    refine se_iconst (pc := 1496) 0 (by decide) dL_law_1496 ?_
    refine se_laldN (pc := 1497) (j := 0) 2 dL_law_1497 rfl ho3 (by decide) (by decide) ?_
    refine se_iload (pc := 1498) rfl dL_law_1498 ?_
    refine se_i2l (pc := 1500) dL_law_1500 ?_
    refine se_lcmp (pc := 1501) dL_law_1501 ?_
    refine se_if_eq (pc := 1502) (tgt := 1507) dL_law_1502 (by decide) (fun q3 => ?_) (fun q3 => absurd q3 (fun z => z (by rw [ev9]; exact lg_self _)))
    refine se_goto (pc := 1507) (tgt := 1690) dL_law_1507 (by decide) ?_
    exact hk _ _ _ _ _ ⟨β2, g2, nI (sp_cost S (xs (i + 1)) (xs (i + 2))).1, hC3, hb2, hR3, ho3, by rw [hf3.1]; exact Nat.le_trans h68 hl2, K_cost hV⟩
set_option maxHeartbeats 1000000 in
set_option maxRecDepth 100000 in
theorem b_skipped (hd : 10 ≤ d) (hN : N < 2 ^ 31) (hb : (bb, N0, xs) ∈ (vG sc).2.2.2.2.2) (h35 : N0 ≤ 3584) (hin : i + 7 ≤ N0) (hl : lI N S h) (hk : ∀ (S' : st_S) (h' : se_H) (z5 z6 z7 : Option Value), lI (N + 1) S' h' → se_W (vG sc) l (d + 1) mL_law 1690 [some (.retAddr bb), some (.ref 0), some (.ref 41), some (.ref 67), some (.int (nI i)), z5, z6, z7] [] h' CC SS lZ) : se_W (vG sc) l (d + 1) mL_law 1510 [some (.retAddr bb), some (.ref 0), some (.ref 41), some (.ref 67), some (.int (nI i)), z5, z6, z7] [] h (CC + 8) (SS + 78) lZ := by
  obtain ⟨β, g9, t, hC, hβ, hR, ho, h68, hV⟩ := hl
  refine se_aload_n (pc := 1510) rfl dL_law_1510 ?_
  refine se_aload_nR (pc := 1511) rfl dL_law_1511 ?_
  refine se_iload (pc := 1512) rfl dL_law_1512 ?_
  refine se_iconst (pc := 1514) 1 (by decide) dL_law_1514 ?_
  refine se_iadd (pc := 1515) dL_law_1515 ?_
  rw [nI_p1]
  refine se_sldN (pc := 1516) dL_law_1516 hb (by omega) (by omega) ?_
  refine se_aload_n (pc := 1517) rfl dL_law_1517 ?_
  refine se_invSH (pc := 1518) (as := [.ref 0, .int (xs (i + 1)), .ref 67]) (st := []) (vok sc) kL_skipped dL_law_1518 ⟨wd_522, wd_523, wd_0⟩ rfl (Nat.le_of_ble_eq_true rfl) (Nat.le_of_ble_eq_true rfl) (w_skipped (by omega) hC hβ hV ho) (C2 := CC) (S2 := SS) (by omega) (by omega) (fun v1518 h1518 _ q1518 => ?_) (fun x hx => absurd hx List.not_mem_nil) (fun v1518 h1518 _ q1518 => ?_)
  rotate_left
  · cases q1518.1
  obtain ⟨q1518, ⟨β2, hC2, hb2⟩, hl2, hf2, g2, ho2, hv2⟩ := q1518
  cases q1518
  have hR2 := is_R_mv hR hf2
  refine se_istore (pc := 1521) dL_law_1521 (by decide) [some (.retAddr bb), some (.ref 0), some (.ref 41), some (.ref 67), some (.int (nI i)), some (.int (nI (sp_skipped S (xs (i + 1))).1)), z6, z7] rfl ?_
  refine se_aload_n (pc := 1523) rfl dL_law_1523 ?_
  refine se_aload_nR (pc := 1524) rfl dL_law_1524 ?_
  refine se_iload (pc := 1525) rfl dL_law_1525 ?_
  refine se_iconst (pc := 1527) 1 (by decide) dL_law_1527 ?_
  refine se_iadd (pc := 1528) dL_law_1528 ?_
  rw [nI_p1]
  refine se_sldN (pc := 1529) dL_law_1529 hb (by omega) (by omega) ?_
  refine se_invV (pc := 1530) (as := [.int (xs (i + 1))]) (st := []) (vok sc) kR_skipped dL_law_1530 ⟨wd_774, wd_775, wd_776, wd_3⟩ rfl hR2.1 rfl (Nat.le_of_ble_eq_true rfl) (Nat.le_of_ble_eq_true rfl) (r_skipped (by omega) hR2 hV.1 hV.2.2 hN) (C2 := CC) (S2 := SS) (by omega) (by omega) (fun v1530 h1530 _ q1530 => ?_) (fun x hx => absurd hx List.not_mem_nil) (fun v1530 h1530 _ q1530 => ?_)
  rotate_left
  · obtain ⟨⟨_, e, _⟩, _⟩ := q1530; cases e
  obtain ⟨⟨x3, q1530, hx3⟩, hR3, hf3⟩ := q1530
  cases q1530
  have hC3 := is_C_mv hC2 hb2 (fun a ha => hf3.2 a (by omega))
  have ho3 : is_O g2 _ := (hf3.2 67 (by decide)).trans ho2
  refine se_istore (pc := 1533) dL_law_1533 (by decide) [some (.retAddr bb), some (.ref 0), some (.ref 41), some (.ref 67), some (.int (nI i)), some (.int (nI (sp_skipped S (xs (i + 1))).1)), some (.int x3), z7] rfl ?_
  refine se_aload_n (pc := 1535) rfl dL_law_1535 ?_
  refine se_invV (pc := 1536) (as := []) (st := []) (vok sc) kR_thrown dL_law_1536 ⟨wd_641, wd_642, wd_643, wd_3⟩ rfl hR3.1 rfl (Nat.le_of_ble_eq_true rfl) (Nat.le_of_ble_eq_true rfl) (c_R_thrown hR3) (C2 := CC) (S2 := SS) (by omega) (by omega) (fun v1536 h1536 _ q1536 => ?_) (fun x hx => absurd hx List.not_mem_nil) (fun v1536 h1536 _ q1536 => ?_)
  rotate_left
  · cases q1536.2
  obtain ⟨h1536e, q1536⟩ := q1536
  have h1536f := h1536e.symm
  subst h1536f
  cases q1536
  refine se_iload (pc := 1539) rfl dL_law_1539 ?_
  refine se_icmp_eq (pc := 1541) (tgt := 1546) dL_law_1541 (by decide) (fun q1 => ?_) (fun q1 => absurd q1 (fun z => z rfl))
  refine se_iload (pc := 1546) rfl dL_law_1546 ?_
  refine se_if_ne (pc := 1548) (tgt := 1563) dL_law_1548 (by decide) (fun q2 => ?_) (fun q2 => ?_)
  · refine se_goto (pc := 1563) (tgt := 1690) dL_law_1563 (by decide) ?_
    exact hk _ _ _ _ _ ⟨β2, g2, nI (sp_skipped S (xs (i + 1))).1, hC3, hb2, hR3, ho3, by rw [hf3.1]; exact Nat.le_trans h68 hl2, K_skipped hV⟩
  · have hz8 : (sp_skipped S (xs (i + 1))).1 = 0 := nI_z0 cb_skipped (by assumption)
    have ev9 := vI_eq (hv2 hz8) (hx3 hz8)
    refine se_aload_n (pc := 1551) rfl dL_law_1551 ?_
    refine se_iconst (pc := 1552) 0 (by decide) dL_law_1552 ?_
    refine se_laldN (pc := 1553) (j := 0) 2 dL_law_1553 rfl ho3 (by decide) (by decide) ?_
    refine se_iload (pc := 1554) rfl dL_law_1554 ?_
    refine se_i2l (pc := 1556) dL_law_1556 ?_
    refine se_lcmp (pc := 1557) dL_law_1557 ?_
    refine se_if_eq (pc := 1558) (tgt := 1563) dL_law_1558 (by decide) (fun q3 => ?_) (fun q3 => absurd q3 (fun z => z (by rw [ev9]; exact lg_self _)))
    refine se_goto (pc := 1563) (tgt := 1690) dL_law_1563 (by decide) ?_
    exact hk _ _ _ _ _ ⟨β2, g2, nI (sp_skipped S (xs (i + 1))).1, hC3, hb2, hR3, ho3, by rw [hf3.1]; exact Nat.le_trans h68 hl2, K_skipped hV⟩
set_option maxHeartbeats 1000000 in
set_option maxRecDepth 100000 in
theorem b_tick (hd : 10 ≤ d) (hN : N < 2 ^ 31) (hb : (bb, N0, xs) ∈ (vG sc).2.2.2.2.2) (h35 : N0 ≤ 3584) (hin : i + 7 ≤ N0) (hl : lI N S h) (hk : ∀ (S' : st_S) (h' : se_H) (z5 z6 z7 : Option Value), lI (N + 1) S' h' → se_W (vG sc) l (d + 1) mL_law 1690 [some (.retAddr bb), some (.ref 0), some (.ref 41), some (.ref 67), some (.int (nI i)), z5, z6, z7] [] h' CC SS lZ) : se_W (vG sc) l (d + 1) mL_law 1566 [some (.retAddr bb), some (.ref 0), some (.ref 41), some (.ref 67), some (.int (nI i)), z5, z6, z7] [] h (CC + 8) (SS + 78) lZ := by
  obtain ⟨β, g9, t, hC, hβ, hR, ho, h68, hV⟩ := hl
  refine se_aload_n (pc := 1566) rfl dL_law_1566 ?_
  refine se_aload_nR (pc := 1567) rfl dL_law_1567 ?_
  refine se_iload (pc := 1568) rfl dL_law_1568 ?_
  refine se_iconst (pc := 1570) 1 (by decide) dL_law_1570 ?_
  refine se_iadd (pc := 1571) dL_law_1571 ?_
  rw [nI_p1]
  refine se_sldN (pc := 1572) dL_law_1572 hb (by omega) (by omega) ?_
  refine se_aload_n (pc := 1573) rfl dL_law_1573 ?_
  refine se_invSH (pc := 1574) (as := [.ref 0, .int (xs (i + 1)), .ref 67]) (st := []) (vok sc) kL_tick dL_law_1574 ⟨wd_529, wd_530, wd_0⟩ rfl (Nat.le_of_ble_eq_true rfl) (Nat.le_of_ble_eq_true rfl) (w_tick (by omega) hC hβ hV ho) (C2 := CC) (S2 := SS) (by omega) (by omega) (fun v1574 h1574 _ q1574 => ?_) (fun x hx => absurd hx List.not_mem_nil) (fun v1574 h1574 _ q1574 => ?_)
  rotate_left
  · cases q1574.1
  obtain ⟨q1574, ⟨β2, hC2, hb2⟩, hl2, hf2, g2, ho2, hv2⟩ := q1574
  cases q1574
  have hR2 := is_R_mv hR hf2
  refine se_istore (pc := 1577) dL_law_1577 (by decide) [some (.retAddr bb), some (.ref 0), some (.ref 41), some (.ref 67), some (.int (nI i)), some (.int (nI (sp_tick S (xs (i + 1))).1)), z6, z7] rfl ?_
  refine se_aload_n (pc := 1579) rfl dL_law_1579 ?_
  refine se_aload_nR (pc := 1580) rfl dL_law_1580 ?_
  refine se_iload (pc := 1581) rfl dL_law_1581 ?_
  refine se_iconst (pc := 1583) 1 (by decide) dL_law_1583 ?_
  refine se_iadd (pc := 1584) dL_law_1584 ?_
  rw [nI_p1]
  refine se_sldN (pc := 1585) dL_law_1585 hb (by omega) (by omega) ?_
  refine se_invV (pc := 1586) (as := [.int (xs (i + 1))]) (st := []) (vok sc) kR_tick dL_law_1586 ⟨wd_778, wd_779, wd_780, wd_3⟩ rfl hR2.1 rfl (Nat.le_of_ble_eq_true rfl) (Nat.le_of_ble_eq_true rfl) (r_tick (by omega) hR2 hV.1 hV.2.2 hN) (C2 := CC) (S2 := SS) (by omega) (by omega) (fun v1586 h1586 _ q1586 => ?_) (fun x hx => absurd hx List.not_mem_nil) (fun v1586 h1586 _ q1586 => ?_)
  rotate_left
  · obtain ⟨⟨_, e, _⟩, _⟩ := q1586; cases e
  obtain ⟨⟨x3, q1586, hx3⟩, hR3, hf3⟩ := q1586
  cases q1586
  have hC3 := is_C_mv hC2 hb2 (fun a ha => hf3.2 a (by omega))
  have ho3 : is_O g2 _ := (hf3.2 67 (by decide)).trans ho2
  refine se_istore (pc := 1589) dL_law_1589 (by decide) [some (.retAddr bb), some (.ref 0), some (.ref 41), some (.ref 67), some (.int (nI i)), some (.int (nI (sp_tick S (xs (i + 1))).1)), some (.int x3), z7] rfl ?_
  refine se_aload_n (pc := 1591) rfl dL_law_1591 ?_
  refine se_invV (pc := 1592) (as := []) (st := []) (vok sc) kR_thrown dL_law_1592 ⟨wd_641, wd_642, wd_643, wd_3⟩ rfl hR3.1 rfl (Nat.le_of_ble_eq_true rfl) (Nat.le_of_ble_eq_true rfl) (c_R_thrown hR3) (C2 := CC) (S2 := SS) (by omega) (by omega) (fun v1592 h1592 _ q1592 => ?_) (fun x hx => absurd hx List.not_mem_nil) (fun v1592 h1592 _ q1592 => ?_)
  rotate_left
  · cases q1592.2
  obtain ⟨h1592e, q1592⟩ := q1592
  have h1592f := h1592e.symm
  subst h1592f
  cases q1592
  refine se_iload (pc := 1595) rfl dL_law_1595 ?_
  refine se_icmp_eq (pc := 1597) (tgt := 1602) dL_law_1597 (by decide) (fun q1 => ?_) (fun q1 => absurd q1 (fun z => z rfl))
  refine se_iload (pc := 1602) rfl dL_law_1602 ?_
  refine se_if_ne (pc := 1604) (tgt := 1619) dL_law_1604 (by decide) (fun q2 => ?_) (fun q2 => ?_)
  · refine se_goto (pc := 1619) (tgt := 1690) dL_law_1619 (by decide) ?_
    exact hk _ _ _ _ _ ⟨β2, g2, nI (sp_tick S (xs (i + 1))).1, hC3, hb2, hR3, ho3, by rw [hf3.1]; exact Nat.le_trans h68 hl2, K_tick hV⟩
  · have hz8 : (sp_tick S (xs (i + 1))).1 = 0 := nI_z0 cb_tick (by assumption)
    have ev9 := vI_eq (hv2 hz8) (hx3 hz8)
    refine se_aload_n (pc := 1607) rfl dL_law_1607 ?_
    refine se_iconst (pc := 1608) 0 (by decide) dL_law_1608 ?_
    refine se_laldN (pc := 1609) (j := 0) 2 dL_law_1609 rfl ho3 (by decide) (by decide) ?_
    refine se_iload (pc := 1610) rfl dL_law_1610 ?_
    refine se_i2l (pc := 1612) dL_law_1612 ?_
    refine se_lcmp (pc := 1613) dL_law_1613 ?_
    refine se_if_eq (pc := 1614) (tgt := 1619) dL_law_1614 (by decide) (fun q3 => ?_) (fun q3 => absurd q3 (fun z => z (by rw [ev9]; exact lg_self _)))
    refine se_goto (pc := 1619) (tgt := 1690) dL_law_1619 (by decide) ?_
    exact hk _ _ _ _ _ ⟨β2, g2, nI (sp_tick S (xs (i + 1))).1, hC3, hb2, hR3, ho3, by rw [hf3.1]; exact Nat.le_trans h68 hl2, K_tick hV⟩
set_option maxHeartbeats 1000000 in
set_option maxRecDepth 100000 in
theorem b_vehicleAt (hd : 10 ≤ d) (hN : N < 2 ^ 31) (hb : (bb, N0, xs) ∈ (vG sc).2.2.2.2.2) (h35 : N0 ≤ 3584) (hin : i + 7 ≤ N0) (hl : lI N S h) (hk : ∀ (S' : st_S) (h' : se_H) (z5 z6 z7 : Option Value), lI (N + 1) S' h' → se_W (vG sc) l (d + 1) mL_law 1690 [some (.retAddr bb), some (.ref 0), some (.ref 41), some (.ref 67), some (.int (nI i)), z5, z6, z7] [] h' CC SS lZ) : se_W (vG sc) l (d + 1) mL_law 1622 [some (.retAddr bb), some (.ref 0), some (.ref 41), some (.ref 67), some (.int (nI i)), z5, z6, z7] [] h (CC + 8) (SS + 78) lZ := by
  obtain ⟨β, g9, t, hC, hβ, hR, ho, h68, hV⟩ := hl
  refine se_aload_n (pc := 1622) rfl dL_law_1622 ?_
  refine se_aload_nR (pc := 1623) rfl dL_law_1623 ?_
  refine se_iload (pc := 1624) rfl dL_law_1624 ?_
  refine se_iconst (pc := 1626) 1 (by decide) dL_law_1626 ?_
  refine se_iadd (pc := 1627) dL_law_1627 ?_
  rw [nI_p1]
  refine se_sldN (pc := 1628) dL_law_1628 hb (by omega) (by omega) ?_
  refine se_aload_nR (pc := 1629) rfl dL_law_1629 ?_
  refine se_iload (pc := 1630) rfl dL_law_1630 ?_
  refine se_iconst (pc := 1632) 2 (by decide) dL_law_1632 ?_
  refine se_iadd (pc := 1633) dL_law_1633 ?_
  rw [nI_p2]
  refine se_sldN (pc := 1634) dL_law_1634 hb (by omega) (by omega) ?_
  refine se_aload_n (pc := 1635) rfl dL_law_1635 ?_
  refine se_invSH (pc := 1636) (as := [.ref 0, .int (xs (i + 1)), .int (xs (i + 2)), .ref 67]) (st := []) (vok sc) kL_vehicleAt dL_law_1636 ⟨wd_536, wd_537, wd_0⟩ rfl (Nat.le_of_ble_eq_true rfl) (Nat.le_of_ble_eq_true rfl) (w_vehicleAt (by omega) hC hβ hV ho) (C2 := CC) (S2 := SS) (by omega) (by omega) (fun v1636 h1636 _ q1636 => ?_) (fun x hx => absurd hx List.not_mem_nil) (fun v1636 h1636 _ q1636 => ?_)
  rotate_left
  · cases q1636.1
  obtain ⟨q1636, ⟨β2, hC2, hb2⟩, hl2, hf2, g2, ho2, hv2⟩ := q1636
  cases q1636
  have hR2 := is_R_mv hR hf2
  refine se_istore (pc := 1639) dL_law_1639 (by decide) [some (.retAddr bb), some (.ref 0), some (.ref 41), some (.ref 67), some (.int (nI i)), some (.int (nI (sp_vehicleAt S (xs (i + 1)) (xs (i + 2))).1)), z6, z7] rfl ?_
  refine se_aload_n (pc := 1641) rfl dL_law_1641 ?_
  refine se_aload_nR (pc := 1642) rfl dL_law_1642 ?_
  refine se_iload (pc := 1643) rfl dL_law_1643 ?_
  refine se_iconst (pc := 1645) 1 (by decide) dL_law_1645 ?_
  refine se_iadd (pc := 1646) dL_law_1646 ?_
  rw [nI_p1]
  refine se_sldN (pc := 1647) dL_law_1647 hb (by omega) (by omega) ?_
  refine se_aload_nR (pc := 1648) rfl dL_law_1648 ?_
  refine se_iload (pc := 1649) rfl dL_law_1649 ?_
  refine se_iconst (pc := 1651) 2 (by decide) dL_law_1651 ?_
  refine se_iadd (pc := 1652) dL_law_1652 ?_
  rw [nI_p2]
  refine se_sldN (pc := 1653) dL_law_1653 hb (by omega) (by omega) ?_
  refine se_invV (pc := 1654) (as := [.int (xs (i + 1)), .int (xs (i + 2))]) (st := []) (vok sc) kR_vehicleAt dL_law_1654 ⟨wd_782, wd_783, wd_784, wd_3⟩ rfl hR2.1 rfl (Nat.le_of_ble_eq_true rfl) (Nat.le_of_ble_eq_true rfl) (r_vehicleAt (by omega) hR2 hV.1 hV.2.2 hN) (C2 := CC) (S2 := SS) (by omega) (by omega) (fun v1654 h1654 _ q1654 => ?_) (fun x hx => absurd hx List.not_mem_nil) (fun v1654 h1654 _ q1654 => ?_)
  rotate_left
  · obtain ⟨⟨_, e, _⟩, _⟩ := q1654; cases e
  obtain ⟨⟨x3, q1654, hx3⟩, hR3, hf3⟩ := q1654
  cases q1654
  have hC3 := is_C_mv hC2 hb2 (fun a ha => hf3.2 a (by omega))
  have ho3 : is_O g2 _ := (hf3.2 67 (by decide)).trans ho2
  refine se_istore (pc := 1657) dL_law_1657 (by decide) [some (.retAddr bb), some (.ref 0), some (.ref 41), some (.ref 67), some (.int (nI i)), some (.int (nI (sp_vehicleAt S (xs (i + 1)) (xs (i + 2))).1)), some (.int x3), z7] rfl ?_
  refine se_aload_n (pc := 1659) rfl dL_law_1659 ?_
  refine se_invV (pc := 1660) (as := []) (st := []) (vok sc) kR_thrown dL_law_1660 ⟨wd_641, wd_642, wd_643, wd_3⟩ rfl hR3.1 rfl (Nat.le_of_ble_eq_true rfl) (Nat.le_of_ble_eq_true rfl) (c_R_thrown hR3) (C2 := CC) (S2 := SS) (by omega) (by omega) (fun v1660 h1660 _ q1660 => ?_) (fun x hx => absurd hx List.not_mem_nil) (fun v1660 h1660 _ q1660 => ?_)
  rotate_left
  · cases q1660.2
  obtain ⟨h1660e, q1660⟩ := q1660
  have h1660f := h1660e.symm
  subst h1660f
  cases q1660
  refine se_iload (pc := 1663) rfl dL_law_1663 ?_
  refine se_icmp_eq (pc := 1665) (tgt := 1670) dL_law_1665 (by decide) (fun q1 => ?_) (fun q1 => absurd q1 (fun z => z rfl))
  refine se_iload (pc := 1670) rfl dL_law_1670 ?_
  refine se_if_ne (pc := 1672) (tgt := 1687) dL_law_1672 (by decide) (fun q2 => ?_) (fun q2 => ?_)
  · refine se_goto (pc := 1687) (tgt := 1690) dL_law_1687 (by decide) ?_
    exact hk _ _ _ _ _ ⟨β2, g2, nI (sp_vehicleAt S (xs (i + 1)) (xs (i + 2))).1, hC3, hb2, hR3, ho3, by rw [hf3.1]; exact Nat.le_trans h68 hl2, K_vehicleAt hV⟩
  · have hz8 : (sp_vehicleAt S (xs (i + 1)) (xs (i + 2))).1 = 0 := nI_z0 cb_vehicleAt (by assumption)
    have ev9 := vI_eq (hv2 hz8) (hx3 hz8)
    refine se_aload_n (pc := 1675) rfl dL_law_1675 ?_
    refine se_iconst (pc := 1676) 0 (by decide) dL_law_1676 ?_
    refine se_laldN (pc := 1677) (j := 0) 2 dL_law_1677 rfl ho3 (by decide) (by decide) ?_
    refine se_iload (pc := 1678) rfl dL_law_1678 ?_
    refine se_i2l (pc := 1680) dL_law_1680 ?_
    refine se_lcmp (pc := 1681) dL_law_1681 ?_
    refine se_if_eq (pc := 1682) (tgt := 1687) dL_law_1682 (by decide) (fun q3 => ?_) (fun q3 => absurd q3 (fun z => z (by rw [ev9]; exact lg_self _)))
    refine se_goto (pc := 1687) (tgt := 1690) dL_law_1687 (by decide) ?_
    exact hk _ _ _ _ _ ⟨β2, g2, nI (sp_vehicleAt S (xs (i + 1)) (xs (i + 2))).1, hC3, hb2, hR3, ho3, by rw [hf3.1]; exact Nat.le_trans h68 hl2, K_vehicleAt hV⟩
end LAW
