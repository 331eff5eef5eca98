def sp_using (S : st_S) (v w : Int32) : Nat × Option Value × st_S := match st_x (st_nv S) v with
  | some v' => if w = 0 then (if S 15 v' 0 = 0 then (2, none, S) else (0, some (.long (lN (100 * (S 18 v' 0).toNatClampNeg / Nat.gcd (100 * (S 18 v' 0).toNatClampNeg) (S 15 v' 0).toNatClampNeg))), S)) else if w = 1 then (if S 15 v' 0 = 0 then (2, none, S) else (0, some (.long (lN ((S 15 v' 0).toNatClampNeg / Nat.gcd (100 * (S 18 v' 0).toNatClampNeg) (S 15 v' 0).toNatClampNeg))), S)) else (1, none, S)
  | none => (1, none, S)
def st_R (S : st_S) : Prop := ∀ v, v < st_nv S → ∃ F K, F ≤ 1000000000 ∧ K ≤ 1000000 ∧ S 18 v 0 = nI F ∧ S 15 v 0 = nI K
theorem st_g1 {F K : Nat} (hF : F ≤ 1000000000) (hK : K ≤ 1000000) (h0 : K ≠ 0) : (if lN (st_gc 200 (100 * F) K) < 1 then 1 else lN (st_gc 200 (100 * F) K)) = lN (Nat.gcd (100 * F) K) := by
  rw [st_gcd 30 200 (100 * F) K (by omega) (by decide)]
  have hg : 0 < Nat.gcd (100 * F) K := Nat.gcd_pos_of_pos_right _ (by omega)
  have hle : Nat.gcd (100 * F) K ≤ K := Nat.gcd_le_right _ (by omega)
  rw [if_neg]
  intro h
  have := (pk_lLT (a := Nat.gcd (100 * F) K) (b := 1) (by omega) (by decide)).mp h
  omega
section PUB
variable {sc : List (Nat × Nat × (Nat → Int32))} {l : Launch} {d : Nat} {h : se_H} {β : Nat → Nat} {S : st_S}
set_option maxHeartbeats 4000000 in
set_option maxRecDepth 100000 in
theorem p_using {v w : Int32} (hd : 7 ≤ d) (hC : is_C 0 β S h) (hI : st_I S) (hR : st_R S) : se_W (vG sc) l d mC_using 0 (se_ent 10 [.ref 0, .int v, .int w]) [] h 2 12 (cP β h ["java/lang/IllegalArgumentException", "java/lang/IllegalStateException"] (sp_using S v w)) := by
  obtain ⟨d, rfl⟩ : ∃ e, d = e + 1 := ⟨d - 1, by omega⟩
  show se_W (vG sc) l (d + 1) mC_using 0 [some (.ref 0), some (.int v), some (.int w), none, none, none, none, none, none, none] [] h 2 12 _
  refine se_aload_n (pc := 0) rfl dC_using_0 ?_
  refine se_iload_n (pc := 1) rfl dC_using_1 ?_
  refine se_invV (pc := 2) (as := [.int v]) (st := []) (vok sc) kC_knownVehicle dC_using_2 ⟨wd_315, wd_317, sl_2, wd_1⟩ rfl hC.1 rfl (Nat.le_of_ble_eq_true rfl) (Nat.le_of_ble_eq_true rfl) (x_knownVehicle (by omega) hC hI) (C2 := 1) (S2 := 6) (by omega) (by omega) (fun v2 h2 _ q2 => ?_) (fun x hx => absurd hx List.not_mem_nil) (fun v2 h2 _ q2 => ?_)
  rotate_left
  · obtain ⟨rfl, ⟨jv, xjv, hjv, rfl, q2⟩ | ⟨xN, q2⟩⟩ := q2 <;> cases q2; exact cP_thr (S := S) 0 (by simp_all [sp_using, pk_us]) rfl
  obtain ⟨rfl, ⟨jv, xjv, hjv, rfl, q2⟩ | ⟨xN, q2⟩⟩ := q2 <;> cases q2
  have hVjv := st_cV hC hjv
  have hKjv := st_cK hC (hI.2.2.2.2 jv hjv)
  obtain ⟨F, K, hF1, hK1, hF, hK⟩ := hR jv hjv
  have cF : (nI F).toNatClampNeg = F := nI_clamp (by omega)
  have cK : (nI K).toNatClampNeg = K := nI_clamp (by omega)
  have hVu := hVjv.1
  rw [hF, hK] at hVu
  refine se_astore_n (pc := 5) dC_using_5 (by decide) [some (.ref 0), some (.int (nI jv)), some (.int w), some (.ref (β jv)), none, none, none, none, none, none] rfl ?_
  refine se_iload_n (pc := 6) rfl dC_using_6 ?_
  refine se_if_eq (pc := 7) (tgt := 25) dC_using_7 (by decide) (fun q1 => ?_) (fun q1 => ?_)
  · refine se_aload_n (pc := 25) rfl dC_using_25 ?_
    refine se_getf (pc := 26) clV 10 dC_using_26 wd_204 rfl (by decide) hVu rfl ?_
    refine se_if_ne (pc := 29) (tgt := 42) dC_using_29 (by decide) (fun q2 => ?_) (fun q2 => ?_)
    · have hK0 : K ≠ 0 := fun z => absurd (by rw [z]; rfl) ‹¬ nI K = 0›
      have hg0 : 0 < Nat.gcd (100 * F) K := Nat.gcd_pos_of_pos_right _ (by omega)
      have hgK : Nat.gcd (100 * F) K ≤ K := Nat.gcd_le_right _ (by omega)
      refine se_ldc2 (pc := 42) 100 dC_using_42 wd_499 ?_
      refine se_aload_n (pc := 45) rfl dC_using_45 ?_
      refine se_getf (pc := 46) clV 13 dC_using_46 wd_209 rfl (by decide) hVu rfl ?_
      refine se_i2l (pc := 49) dC_using_49 ?_
      rw [nI_l (by omega)]
      refine se_lmul (pc := 50) dC_using_50 ?_
      rw [show (100 : Int64) = lN 100 from rfl, lN_mul]
      refine se_lstore (pc := 51) dC_using_51 (by decide) [some (.ref 0), some (.int (nI jv)), some (.int w), some (.ref (β jv)), some (.long (lN (100 * F))), none, none, none, none, none] rfl ?_
      refine se_aload_n (pc := 53) rfl dC_using_53 ?_
      refine se_getf (pc := 54) clV 10 dC_using_54 wd_204 rfl (by decide) hVu rfl ?_
      refine se_i2l (pc := 57) dC_using_57 ?_
      rw [nI_l (by omega)]
      refine se_lstore (pc := 58) dC_using_58 (by decide) [some (.ref 0), some (.int (nI jv)), some (.int w), some (.ref (β jv)), some (.long (lN (100 * F))), none, some (.long (lN K)), none, none, none] rfl ?_
      refine se_lload (pc := 60) rfl dC_using_60 ?_
      refine se_lload (pc := 62) rfl dC_using_62 ?_
      refine se_invS (pc := 64) (as := [.long (lN (100 * F)), .long (lN K)]) (st := []) (vok sc) kC_commonDivisor dC_using_64 ⟨wd_500, wd_501, wd_1⟩ rfl (Nat.le_of_ble_eq_true rfl) (Nat.le_of_ble_eq_true rfl) (c_C_commonDivisor (x := 100 * F) (y := K) (by omega) (by omega) (by omega)) (C2 := 1) (S2 := 6) (by omega) (by omega) (fun v64 h64 _ q64 => ?_) (fun x hx => absurd hx List.not_mem_nil) (fun v64 h64 _ q64 => ?_)
      rotate_left
      · cases q64.2
      obtain ⟨rfl, q64⟩ := q64
      rw [st_g1 hF1 hK1 hK0] at q64
      cases q64
      refine se_lstore (pc := 67) dC_using_67 (by decide) [some (.ref 0), some (.int (nI jv)), some (.int w), some (.ref (β jv)), some (.long (lN (100 * F))), none, some (.long (lN K)), none, some (.long (lN (Nat.gcd (100 * F) K))), none] rfl ?_
      refine se_iload_n (pc := 69) rfl dC_using_69 ?_
      refine se_if_ne (pc := 70) (tgt := 78) dC_using_70 (by decide) (fun q3 => ?_) (fun q3 => ?_)
      · refine se_lload (pc := 78) rfl dC_using_78 ?_
        refine se_lload (pc := 80) rfl dC_using_80 ?_
        refine se_ldiv (pc := 82) (fun z => absurd ((pk_lEQ (b := 0) (by omega) (by decide)).mp z) (by omega)) dC_using_82 ?_
        rw [pk_lDiv (by omega) hg0 (by omega)]
        exact se_lret (pc := 83) dC_using_83 rfl (cP_ret (by simp_all [sp_using]) hC (fr_rf _))
      · refine se_lload (pc := 73) rfl dC_using_73 ?_
        refine se_goto (pc := 75) (tgt := 80) dC_using_75 (by decide) ?_
        refine se_lload (pc := 80) rfl dC_using_80 ?_
        refine se_ldiv (pc := 82) (fun z => absurd ((pk_lEQ (b := 0) (by omega) (by decide)).mp z) (by omega)) dC_using_82 ?_
        rw [pk_lDiv (by omega) hg0 (by omega)]
        exact se_lret (pc := 83) dC_using_83 rfl (cP_ret (by simp_all [sp_using]) hC (fr_rf _))
    · exact vth (pc := 32) (text := "the vehicle has no kilometres") exIllegalStateException rfl rfl (by decide +kernel) dC_using_32 dC_using_35 dC_using_36 dC_using_38 dC_using_41 (Nat.le_of_ble_eq_true rfl) (by omega) (by omega) (by omega) (cP_thr (S := S) 1 (by simp_all [sp_using]) rfl)
  · refine se_iload_n (pc := 10) rfl dC_using_10 ?_
    refine se_iconst (pc := 11) 1 (by decide) dC_using_11 ?_
    refine se_icmp_eq (pc := 12) (tgt := 25) dC_using_12 (by decide) (fun q4 => ?_) (fun q4 => ?_)
    · refine se_aload_n (pc := 25) rfl dC_using_25 ?_
      refine se_getf (pc := 26) clV 10 dC_using_26 wd_204 rfl (by decide) hVu rfl ?_
      refine se_if_ne (pc := 29) (tgt := 42) dC_using_29 (by decide) (fun q5 => ?_) (fun q5 => ?_)
      · have hK0 : K ≠ 0 := fun z => absurd (by rw [z]; rfl) ‹¬ nI K = 0›
        have hg0 : 0 < Nat.gcd (100 * F) K := Nat.gcd_pos_of_pos_right _ (by omega)
        have hgK : Nat.gcd (100 * F) K ≤ K := Nat.gcd_le_right _ (by omega)
        refine se_ldc2 (pc := 42) 100 dC_using_42 wd_499 ?_
        refine se_aload_n (pc := 45) rfl dC_using_45 ?_
        refine se_getf (pc := 46) clV 13 dC_using_46 wd_209 rfl (by decide) hVu rfl ?_
        refine se_i2l (pc := 49) dC_using_49 ?_
        rw [nI_l (by omega)]
        refine se_lmul (pc := 50) dC_using_50 ?_
        rw [show (100 : Int64) = lN 100 from rfl, lN_mul]
        refine se_lstore (pc := 51) dC_using_51 (by decide) [some (.ref 0), some (.int (nI jv)), some (.int w), some (.ref (β jv)), some (.long (lN (100 * F))), none, none, none, none, none] rfl ?_
        refine se_aload_n (pc := 53) rfl dC_using_53 ?_
        refine se_getf (pc := 54) clV 10 dC_using_54 wd_204 rfl (by decide) hVu rfl ?_
        refine se_i2l (pc := 57) dC_using_57 ?_
        rw [nI_l (by omega)]
        refine se_lstore (pc := 58) dC_using_58 (by decide) [some (.ref 0), some (.int (nI jv)), some (.int w), some (.ref (β jv)), some (.long (lN (100 * F))), none, some (.long (lN K)), none, none, none] rfl ?_
        refine se_lload (pc := 60) rfl dC_using_60 ?_
        refine se_lload (pc := 62) rfl dC_using_62 ?_
        refine se_invS (pc := 64) (as := [.long (lN (100 * F)), .long (lN K)]) (st := []) (vok sc) kC_commonDivisor dC_using_64 ⟨wd_500, wd_501, wd_1⟩ rfl (Nat.le_of_ble_eq_true rfl) (Nat.le_of_ble_eq_true rfl) (c_C_commonDivisor (x := 100 * F) (y := K) (by omega) (by omega) (by omega)) (C2 := 1) (S2 := 6) (by omega) (by omega) (fun v64 h64 _ q64 => ?_) (fun x hx => absurd hx List.not_mem_nil) (fun v64 h64 _ q64 => ?_)
        rotate_left
        · cases q64.2
        obtain ⟨rfl, q64⟩ := q64
        rw [st_g1 hF1 hK1 hK0] at q64
        cases q64
        refine se_lstore (pc := 67) dC_using_67 (by decide) [some (.ref 0), some (.int (nI jv)), some (.int w), some (.ref (β jv)), some (.long (lN (100 * F))), none, some (.long (lN K)), none, some (.long (lN (Nat.gcd (100 * F) K))), none] rfl ?_
        refine se_iload_n (pc := 69) rfl dC_using_69 ?_
        refine se_if_ne (pc := 70) (tgt := 78) dC_using_70 (by decide) (fun q6 => ?_) (fun q6 => ?_)
        · refine se_lload (pc := 78) rfl dC_using_78 ?_
          refine se_lload (pc := 80) rfl dC_using_80 ?_
          refine se_ldiv (pc := 82) (fun z => absurd ((pk_lEQ (b := 0) (by omega) (by decide)).mp z) (by omega)) dC_using_82 ?_
          rw [pk_lDiv (by omega) hg0 (by omega)]
          exact se_lret (pc := 83) dC_using_83 rfl (cP_ret (by simp_all [sp_using]) hC (fr_rf _))
        · refine se_lload (pc := 73) rfl dC_using_73 ?_
          refine se_goto (pc := 75) (tgt := 80) dC_using_75 (by decide) ?_
          refine se_lload (pc := 80) rfl dC_using_80 ?_
          refine se_ldiv (pc := 82) (fun z => absurd ((pk_lEQ (b := 0) (by omega) (by decide)).mp z) (by omega)) dC_using_82 ?_
          rw [pk_lDiv (by omega) hg0 (by omega)]
          exact se_lret (pc := 83) dC_using_83 rfl (cP_ret (by simp_all [sp_using]) hC (fr_rf _))
      · exact vth (pc := 32) (text := "the vehicle has no kilometres") exIllegalStateException rfl rfl (by decide +kernel) dC_using_32 dC_using_35 dC_using_36 dC_using_38 dC_using_41 (Nat.le_of_ble_eq_true rfl) (by omega) (by omega) (by omega) (cP_thr (S := S) 1 (by simp_all [sp_using]) rfl)
    · exact vth (pc := 15) (text := "no such what") exIllegalArgumentException rfl rfl (by decide +kernel) dC_using_15 dC_using_18 dC_using_19 dC_using_21 dC_using_24 (Nat.le_of_ble_eq_true rfl) (by omega) (by omega) (by omega) (cP_thr (S := S) 0 (by simp_all [sp_using]) rfl)
end PUB
