/-! making: the state at first; a kind, a vehicle -/
def st_0 : st_S := fun t _ b => match t with
  | 8 => if b < 10 then -1 else 0
  | 9 => if b < 10 then -1 else 0
  | 20 => -1
  | _ => 0
def st_m1 (i : Nat) : Nat → Int32 := fun j => if j < i then -1 else 0
theorem st_m10 : st_m1 0 = fun _ => 0 := by funext j; simp [st_m1]
theorem st_m1s (i : Nat) : upd (st_m1 i) i (-1) = st_m1 (i + 1) := by
  funext j
  simp only [upd, st_m1]
  by_cases h : j = i
  · subst h; simp
  · by_cases h2 : j < i
    · simp [h, h2, show j < i + 1 by omega]
    · simp [h, h2, show ¬ j < i + 1 by omega]
def is_N (h0 : se_H) (a kb : Nat) (num sp hr : Int32) (i : Nat) (H : se_H) : Prop := H.length = a + 6 ∧ H[a]? = some (.inr (1, [.int num, .ref kb, .int sp, .int hr, .ref (a + 1), .ref (a + 2), .ref (a + 3), .ref (a + 4), .ref (a + 5), .int 0, .int 0, .int 0, .int 0, .int 0, .int 0, .int (-1)])) ∧ H[a + 1]? = some (.inl (.int, (10, .inl (fun _ => 0)))) ∧ H[a + 2]? = some (.inl (.int, (10, .inl (fun _ => 0)))) ∧ H[a + 3]? = some (.inl (.int, (10, .inl (st_m1 i)))) ∧ H[a + 4]? = some (.inl (.int, (10, .inl (st_m1 i)))) ∧ H[a + 5]? = some (.inl (.int, (10, .inl (fun _ => 0)))) ∧ ∀ b, b < a + 1 → b ≠ a → H[b]? = h0[b]?
section PUB
variable {sc : List (Nat × Nat × (Nat → Int32))} {l : Launch} {d : Nat} {h : se_H} {β : Nat → Nat} {S : st_S}
set_option maxHeartbeats 4000000 in
set_option maxRecDepth 100000 in
theorem c_K_init {a k : Nat} (hd : 1 ≤ d) (ha : h[a]? = some (.inr (0, [.null, .null, .null, .null, .null, .null]))) (hl : h.length = a + 1) : se_W (vG sc) l d mK_init 0 (se_ent 1 [.ref a]) [] h 6 60 (fun u h' => u = .inl none ∧ h'.length = a + 7 ∧ is_K h' a st_0 k ∧ ∀ b, b < a + 1 → b ≠ a → h'[b]? = h[b]?) := by
  show se_W (vG sc) l d mK_init 0 [some (.ref a)] [] h 6 60 _
  refine se_aload_n (pc := 0) rfl dK_init_0 ?_
  refine se_objInit (pc := 1) (by omega) dK_init_1 ⟨wd_27, wd_19, wd_20⟩ (Nat.le_of_ble_eq_true rfl) ?_
  refine se_aload_n (pc := 4) rfl dK_init_4 ?_
  refine se_bipush (pc := 5) 10 (by decide) dK_init_5 ?_
  refine se_newaN (pc := 7) (atype := .boolean) (C' := 5) (S' := 50) 1 hl dK_init_7 rfl (by decide) rfl wd_54 (by decide) (N := 10) rfl (by decide) (by omega) (by omega) ?_
  refine se_putF (pc := 9) clK 0 dK_init_9 wd_28 rfl (by decide) rfl rfl rfl (fun _ => ⟨rfl, rfl⟩) (st_ap ha) (Nat.le_of_ble_eq_true rfl) ?_
  refine se_aload_n (pc := 12) rfl dK_init_12 ?_
  refine se_bipush (pc := 13) 10 (by decide) dK_init_13 ?_
  refine se_newaN (pc := 15) (atype := .int) (C' := 4) (S' := 40) 0 (st_lt9 (st_la hl)) dK_init_15 rfl (by decide) rfl wd_55 (by decide) (N := 10) rfl (by decide) (by omega) (by omega) ?_
  refine se_putF (pc := 17) clK 1 dK_init_17 wd_31 rfl (by decide) rfl rfl rfl (fun _ => ⟨rfl, rfl⟩) (st_ap (st_eq (st_ap ha))) (Nat.le_of_ble_eq_true rfl) ?_
  refine se_aload_n (pc := 20) rfl dK_init_20 ?_
  refine se_bipush (pc := 21) 10 (by decide) dK_init_21 ?_
  refine se_newaN (pc := 23) (atype := .int) (C' := 3) (S' := 30) 0 (st_lt9 (st_la (st_lt9 (st_la hl)))) dK_init_23 rfl (by decide) rfl wd_55 (by decide) (N := 10) rfl (by decide) (by omega) (by omega) ?_
  refine se_putF (pc := 25) clK 2 dK_init_25 wd_32 rfl (by decide) rfl rfl rfl (fun _ => ⟨rfl, rfl⟩) (st_ap (st_eq (st_ap (st_eq (st_ap ha))))) (Nat.le_of_ble_eq_true rfl) ?_
  refine se_aload_n (pc := 28) rfl dK_init_28 ?_
  refine se_bipush (pc := 29) 10 (by decide) dK_init_29 ?_
  refine se_newaN (pc := 31) (atype := .int) (C' := 2) (S' := 20) 0 (st_lt9 (st_la (st_lt9 (st_la (st_lt9 (st_la hl)))))) dK_init_31 rfl (by decide) rfl wd_55 (by decide) (N := 10) rfl (by decide) (by omega) (by omega) ?_
  refine se_putF (pc := 33) clK 3 dK_init_33 wd_33 rfl (by decide) rfl rfl rfl (fun _ => ⟨rfl, rfl⟩) (st_ap (st_eq (st_ap (st_eq (st_ap (st_eq (st_ap ha))))))) (Nat.le_of_ble_eq_true rfl) ?_
  refine se_aload_n (pc := 36) rfl dK_init_36 ?_
  refine se_bipush (pc := 37) 10 (by decide) dK_init_37 ?_
  refine se_newaN (pc := 39) (atype := .int) (C' := 1) (S' := 10) 0 (st_lt9 (st_la (st_lt9 (st_la (st_lt9 (st_la (st_lt9 (st_la hl)))))))) dK_init_39 rfl (by decide) rfl wd_55 (by decide) (N := 10) rfl (by decide) (by omega) (by omega) ?_
  refine se_putF (pc := 41) clK 4 dK_init_41 wd_36 rfl (by decide) rfl rfl rfl (fun _ => ⟨rfl, rfl⟩) (st_ap (st_eq (st_ap (st_eq (st_ap (st_eq (st_ap (st_eq (st_ap ha))))))))) (Nat.le_of_ble_eq_true rfl) ?_
  refine se_aload_n (pc := 44) rfl dK_init_44 ?_
  refine se_bipush (pc := 45) 10 (by decide) dK_init_45 ?_
  refine se_newaN (pc := 47) (atype := .int) (C' := 0) (S' := 0) 0 (st_lt9 (st_la (st_lt9 (st_la (st_lt9 (st_la (st_lt9 (st_la (st_lt9 (st_la hl)))))))))) dK_init_47 rfl (by decide) rfl wd_55 (by decide) (N := 10) rfl (by decide) (by omega) (by omega) ?_
  refine se_putF (pc := 49) clK 5 dK_init_49 wd_38 rfl (by decide) rfl rfl rfl (fun _ => ⟨rfl, rfl⟩) (st_ap (st_eq (st_ap (st_eq (st_ap (st_eq (st_ap (st_eq (st_ap (st_eq (st_ap ha))))))))))) (Nat.le_of_ble_eq_true rfl) ?_
  exact se_vret (pc := 52) dK_init_52 rfl ⟨rfl, (st_lt9 (st_la (st_lt9 (st_la (st_lt9 (st_la (st_lt9 (st_la (st_lt9 (st_la (st_lt9 (st_la hl)))))))))))), ⟨(st_eq (st_ap (st_eq (st_ap (st_eq (st_ap (st_eq (st_ap (st_eq (st_ap (st_eq (st_ap ha)))))))))))), (st_ne (st_ap (st_ne (st_ap (st_ne (st_ap (st_ne (st_ap (st_ne (st_ap (st_ne (st_al hl) (by omega))) (by omega))) (by omega))) (by omega))) (by omega))) (by omega)), (st_ne (st_ap (st_ne (st_ap (st_ne (st_ap (st_ne (st_ap (st_ne (st_al (st_lt9 (st_la hl))) (by omega))) (by omega))) (by omega))) (by omega))) (by omega)), (st_ne (st_ap (st_ne (st_ap (st_ne (st_ap (st_ne (st_al (st_lt9 (st_la (st_lt9 (st_la hl))))) (by omega))) (by omega))) (by omega))) (by omega)), (st_ne (st_ap (st_ne (st_ap (st_ne (st_al (st_lt9 (st_la (st_lt9 (st_la (st_lt9 (st_la hl))))))) (by omega))) (by omega))) (by omega)), (st_ne (st_ap (st_ne (st_al (st_lt9 (st_la (st_lt9 (st_la (st_lt9 (st_la (st_lt9 (st_la hl))))))))) (by omega))) (by omega)), (st_ne (st_al (st_lt9 (st_la (st_lt9 (st_la (st_lt9 (st_la (st_lt9 (st_la (st_lt9 (st_la hl))))))))))) (by omega))⟩, (st_frs (st_fra (st_frs (st_fra (st_frs (st_fra (st_frs (st_fra (st_frs (st_fra (st_frs (st_fra (fun (b : Nat) (_ : b < a + 1) (_ : b ≠ a) => (rfl : h[b]? = h[b]?)) (fun k => Nat.le_add_right _ k) hl) (by omega)) (fun k => Nat.le_add_right _ k) (st_lt9 (st_la hl))) (by omega)) (fun k => Nat.le_add_right _ k) (st_lt9 (st_la (st_lt9 (st_la hl))))) (by omega)) (fun k => Nat.le_add_right _ k) (st_lt9 (st_la (st_lt9 (st_la (st_lt9 (st_la hl))))))) (by omega)) (fun k => Nat.le_add_right _ k) (st_lt9 (st_la (st_lt9 (st_la (st_lt9 (st_la (st_lt9 (st_la hl))))))))) (by omega)) (fun k => Nat.le_add_right _ k) (st_lt9 (st_la (st_lt9 (st_la (st_lt9 (st_la (st_lt9 (st_la (st_lt9 (st_la hl))))))))))) (by omega))⟩
set_option maxHeartbeats 4000000 in
set_option maxRecDepth 100000 in
theorem lp_V_init {a kb : Nat} {num sp hr : Int32} {h0 : se_H} : ∀ (n i : Nat) (H : se_H), i + n = 10 → is_N h0 a kb num sp hr i H → se_W (vG sc) l d mV_init 73 [some (.ref a), some (.int num), some (.ref kb), some (.int sp), some (.int hr), some (.int (nI i))] [] H 0 0 (fun u h' => u = .inl none ∧ is_N h0 a kb num sp hr 10 h') := by
  intro n
  induction n with
  | zero =>
    intro i H hi hN
    obtain rfl : i = 10 := by omega
    refine se_iload (pc := 73) rfl dV_init_73 ?_
    refine se_bipush (pc := 75) 10 (by decide) dV_init_75 ?_
    refine se_icmp_ge (pc := 77) (tgt := 102) dV_init_77 (by decide) (fun q1 => ?_) (fun q1 => absurd q1 (fun z => z (Int32.le_refl _)))
    exact se_vret (pc := 102) dV_init_102 rfl ⟨rfl, hN⟩
  | succ n ih =>
    intro i H hi hN
    have hj : i < 10 := by omega
    refine se_iload (pc := 73) rfl dV_init_73 ?_
    refine se_bipush (pc := 75) 10 (by decide) dV_init_75 ?_
    refine se_icmp_ge (pc := 77) (tgt := 102) dV_init_77 (by decide) (fun q1 => absurd q1 (nI_ge (b := 10) hj (by decide))) (fun q1 => ?_)
    refine se_aload_n (pc := 80) rfl dV_init_80 ?_
    refine se_getf (pc := 81) clV 6 dV_init_81 wd_197 rfl (by decide) hN.2.1 rfl ?_
    refine se_iload (pc := 84) rfl dV_init_84 ?_
    refine se_iconst (pc := 86) (-1) (by decide) dV_init_86 ?_
    refine se_iastN (pc := 87) 0 dV_init_87 rfl hN.2.2.2.2.1 hj (by decide) ?_
    refine se_aload_n (pc := 88) rfl dV_init_88 ?_
    refine se_getf (pc := 89) clV 7 dV_init_89 wd_199 rfl (by decide) (st_ne hN.2.1 (by omega)) rfl ?_
    refine se_iload (pc := 92) rfl dV_init_92 ?_
    refine se_iconst (pc := 94) (-1) (by decide) dV_init_94 ?_
    refine se_iastN (pc := 95) 0 dV_init_95 rfl (st_ne hN.2.2.2.2.2.1 (by omega)) hj (by decide) ?_
    refine se_iinc (pc := 96) 1 (by decide) rfl dV_init_96 [some (.ref a), some (.int num), some (.ref kb), some (.int sp), some (.int hr), some (.int (nI (i + 1)))] (by rw [nI_1]; rfl) ?_
    refine se_goto (pc := 99) (tgt := 73) dV_init_99 (by decide) ?_
    refine ih (i + 1) _ (by omega) ⟨(st_lt9 (st_lt9 hN.1)), (st_ne (st_ne hN.2.1 (by omega)) (by omega)), (st_ne (st_ne hN.2.2.1 (by omega)) (by omega)), (st_ne (st_ne hN.2.2.2.1 (by omega)) (by omega)), ?_, ?_, (st_ne (st_ne hN.2.2.2.2.2.2.1 (by omega)) (by omega)), (st_frs (st_frs hN.2.2.2.2.2.2.2 (by omega)) (by omega))⟩
    · rw [← st_m1s]; exact (st_ne (st_eq hN.2.2.2.2.1) (by omega))
    · rw [← st_m1s]; exact (st_eq (st_ne hN.2.2.2.2.2.1 (by omega)))
set_option maxHeartbeats 4000000 in
set_option maxRecDepth 100000 in
theorem c_V_init {a kb : Nat} {num sp hr : Int32} (hd : 1 ≤ d) (hsp : sp = 0 ∨ sp = 1) (ha : h[a]? = some (.inr (1, [.int 0, .null, .int 0, .int 0, .null, .null, .null, .null, .null, .int 0, .int 0, .int 0, .int 0, .int 0, .int 0, .int 0]))) (hl : h.length = a + 1) : se_W (vG sc) l d mV_init 0 (se_ent 6 [.ref a, .int num, .ref kb, .int sp, .int hr]) [] h 5 50 (fun u h' => u = .inl none ∧ is_N h a kb num sp hr 10 h') := by
  show se_W (vG sc) l d mV_init 0 [some (.ref a), some (.int num), some (.ref kb), some (.int sp), some (.int hr), none] [] h 5 50 _
  refine se_aload_n (pc := 0) rfl dV_init_0 ?_
  refine se_objInit (pc := 1) (by omega) dV_init_1 ⟨wd_185, wd_19, wd_20⟩ (Nat.le_of_ble_eq_true rfl) ?_
  refine se_aload_n (pc := 4) rfl dV_init_4 ?_
  refine se_bipush (pc := 5) 10 (by decide) dV_init_5 ?_
  refine se_newaN (pc := 7) (atype := .int) (C' := 4) (S' := 40) 0 hl dV_init_7 rfl (by decide) rfl wd_55 (by decide) (N := 10) rfl (by decide) (by omega) (by omega) ?_
  refine se_putF (pc := 9) clV 4 dV_init_9 wd_193 rfl (by decide) rfl rfl rfl (fun _ => ⟨rfl, rfl⟩) (st_ap ha) (Nat.le_of_ble_eq_true rfl) ?_
  refine se_aload_n (pc := 12) rfl dV_init_12 ?_
  refine se_bipush (pc := 13) 10 (by decide) dV_init_13 ?_
  refine se_newaN (pc := 15) (atype := .int) (C' := 3) (S' := 30) 0 (st_lt9 (st_la hl)) dV_init_15 rfl (by decide) rfl wd_55 (by decide) (N := 10) rfl (by decide) (by omega) (by omega) ?_
  refine se_putF (pc := 17) clV 5 dV_init_17 wd_195 rfl (by decide) rfl rfl rfl (fun _ => ⟨rfl, rfl⟩) (st_ap (st_eq (st_ap ha))) (Nat.le_of_ble_eq_true rfl) ?_
  refine se_aload_n (pc := 20) rfl dV_init_20 ?_
  refine se_bipush (pc := 21) 10 (by decide) dV_init_21 ?_
  refine se_newaN (pc := 23) (atype := .int) (C' := 2) (S' := 20) 0 (st_lt9 (st_la (st_lt9 (st_la hl)))) dV_init_23 rfl (by decide) rfl wd_55 (by decide) (N := 10) rfl (by decide) (by omega) (by omega) ?_
  refine se_putF (pc := 25) clV 6 dV_init_25 wd_197 rfl (by decide) rfl rfl rfl (fun _ => ⟨rfl, rfl⟩) (st_ap (st_eq (st_ap (st_eq (st_ap ha))))) (Nat.le_of_ble_eq_true rfl) ?_
  refine se_aload_n (pc := 28) rfl dV_init_28 ?_
  refine se_bipush (pc := 29) 10 (by decide) dV_init_29 ?_
  refine se_newaN (pc := 31) (atype := .int) (C' := 1) (S' := 10) 0 (st_lt9 (st_la (st_lt9 (st_la (st_lt9 (st_la hl)))))) dV_init_31 rfl (by decide) rfl wd_55 (by decide) (N := 10) rfl (by decide) (by omega) (by omega) ?_
  refine se_putF (pc := 33) clV 7 dV_init_33 wd_199 rfl (by decide) rfl rfl rfl (fun _ => ⟨rfl, rfl⟩) (st_ap (st_eq (st_ap (st_eq (st_ap (st_eq (st_ap ha))))))) (Nat.le_of_ble_eq_true rfl) ?_
  refine se_aload_n (pc := 36) rfl dV_init_36 ?_
  refine se_bipush (pc := 37) 10 (by decide) dV_init_37 ?_
  refine se_newaN (pc := 39) (atype := .int) (C' := 0) (S' := 0) 0 (st_lt9 (st_la (st_lt9 (st_la (st_lt9 (st_la (st_lt9 (st_la hl)))))))) dV_init_39 rfl (by decide) rfl wd_55 (by decide) (N := 10) rfl (by decide) (by omega) (by omega) ?_
  refine se_putF (pc := 41) clV 8 dV_init_41 wd_201 rfl (by decide) rfl rfl rfl (fun _ => ⟨rfl, rfl⟩) (st_ap (st_eq (st_ap (st_eq (st_ap (st_eq (st_ap (st_eq (st_ap ha))))))))) (Nat.le_of_ble_eq_true rfl) ?_
  refine se_aload_n (pc := 44) rfl dV_init_44 ?_
  refine se_iload_n (pc := 45) rfl dV_init_45 ?_
  refine se_putF (pc := 46) clV 0 dV_init_46 wd_186 rfl (by decide) rfl rfl rfl (fun _ => ⟨rfl, rfl⟩) (st_eq (st_ap (st_eq (st_ap (st_eq (st_ap (st_eq (st_ap (st_eq (st_ap ha)))))))))) (Nat.le_of_ble_eq_true rfl) ?_
  refine se_aload_n (pc := 49) rfl dV_init_49 ?_
  refine se_aload_n (pc := 50) rfl dV_init_50 ?_
  refine se_putF (pc := 51) clV 1 dV_init_51 wd_188 rfl (by decide) rfl rfl rfl (fun _ => ⟨rfl, rfl⟩) (st_eq (st_eq (st_ap (st_eq (st_ap (st_eq (st_ap (st_eq (st_ap (st_eq (st_ap ha))))))))))) (Nat.le_of_ble_eq_true rfl) ?_
  refine se_aload_n (pc := 54) rfl dV_init_54 ?_
  refine se_iload_n (pc := 55) rfl dV_init_55 ?_
  refine se_putF (pc := 56) clV 2 dV_init_56 wd_190 rfl (by decide) rfl rfl rfl (st_nz hsp) (st_eq (st_eq (st_eq (st_ap (st_eq (st_ap (st_eq (st_ap (st_eq (st_ap (st_eq (st_ap ha)))))))))))) (Nat.le_of_ble_eq_true rfl) ?_
  refine se_aload_n (pc := 59) rfl dV_init_59 ?_
  refine se_iload (pc := 60) rfl dV_init_60 ?_
  refine se_putF (pc := 62) clV 3 dV_init_62 wd_192 rfl (by decide) rfl rfl rfl (fun _ => ⟨rfl, rfl⟩) (st_eq (st_eq (st_eq (st_eq (st_ap (st_eq (st_ap (st_eq (st_ap (st_eq (st_ap (st_eq (st_ap ha))))))))))))) (Nat.le_of_ble_eq_true rfl) ?_
  refine se_aload_n (pc := 65) rfl dV_init_65 ?_
  refine se_iconst (pc := 66) (-1) (by decide) dV_init_66 ?_
  refine se_putf (pc := 67) clV 15 dV_init_67 wd_211 rfl (by decide) rfl (fun _ => ⟨rfl, rfl⟩) (st_eq (st_eq (st_eq (st_eq (st_eq (st_ap (st_eq (st_ap (st_eq (st_ap (st_eq (st_ap (st_eq (st_ap ha)))))))))))))) (Nat.le_of_ble_eq_true rfl) ?_
  refine se_iconst (pc := 70) 0 (by decide) dV_init_70 ?_
  refine se_istore (pc := 71) dV_init_71 (by decide) [some (.ref a), some (.int num), some (.ref kb), some (.int sp), some (.int hr), some (.int 0)] rfl ?_
  refine lp_V_init 10 0 _ rfl ⟨(st_lt9 (st_lt9 (st_lt9 (st_lt9 (st_lt9 (st_lt9 (st_la (st_lt9 (st_la (st_lt9 (st_la (st_lt9 (st_la (st_lt9 (st_la hl))))))))))))))), (st_eq (st_eq (st_eq (st_eq (st_eq (st_eq (st_ap (st_eq (st_ap (st_eq (st_ap (st_eq (st_ap (st_eq (st_ap ha))))))))))))))), (st_ne (st_ne (st_ne (st_ne (st_ne (st_ne (st_ap (st_ne (st_ap (st_ne (st_ap (st_ne (st_ap (st_ne (st_al hl) (by omega))) (by omega))) (by omega))) (by omega))) (by omega)) (by omega)) (by omega)) (by omega)) (by omega)) (by omega)), (st_ne (st_ne (st_ne (st_ne (st_ne (st_ne (st_ap (st_ne (st_ap (st_ne (st_ap (st_ne (st_al (st_lt9 (st_la hl))) (by omega))) (by omega))) (by omega))) (by omega)) (by omega)) (by omega)) (by omega)) (by omega)) (by omega)), ?_, ?_, (st_ne (st_ne (st_ne (st_ne (st_ne (st_ne (st_al (st_lt9 (st_la (st_lt9 (st_la (st_lt9 (st_la (st_lt9 (st_la hl))))))))) (by omega)) (by omega)) (by omega)) (by omega)) (by omega)) (by omega)), (st_frs (st_frs (st_frs (st_frs (st_frs (st_frs (st_fra (st_frs (st_fra (st_frs (st_fra (st_frs (st_fra (st_frs (st_fra (fun (b : Nat) (_ : b < a + 1) (_ : b ≠ a) => (rfl : h[b]? = h[b]?)) (fun k => Nat.le_add_right _ k) hl) (by omega)) (fun k => Nat.le_add_right _ k) (st_lt9 (st_la hl))) (by omega)) (fun k => Nat.le_add_right _ k) (st_lt9 (st_la (st_lt9 (st_la hl))))) (by omega)) (fun k => Nat.le_add_right _ k) (st_lt9 (st_la (st_lt9 (st_la (st_lt9 (st_la hl))))))) (by omega)) (fun k => Nat.le_add_right _ k) (st_lt9 (st_la (st_lt9 (st_la (st_lt9 (st_la (st_lt9 (st_la hl))))))))) (by omega)) (by omega)) (by omega)) (by omega)) (by omega)) (by omega))⟩
  · rw [st_m10]; exact (st_ne (st_ne (st_ne (st_ne (st_ne (st_ne (st_ap (st_ne (st_ap (st_ne (st_al (st_lt9 (st_la (st_lt9 (st_la hl))))) (by omega))) (by omega))) (by omega)) (by omega)) (by omega)) (by omega)) (by omega)) (by omega))
  · rw [st_m10]; exact (st_ne (st_ne (st_ne (st_ne (st_ne (st_ne (st_ap (st_ne (st_al (st_lt9 (st_la (st_lt9 (st_la (st_lt9 (st_la hl))))))) (by omega))) (by omega)) (by omega)) (by omega)) (by omega)) (by omega)) (by omega))
end PUB
