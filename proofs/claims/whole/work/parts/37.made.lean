/-! the class's object is made; a vehicle comes -/
theorem is_K_mono {h h' : se_H} {a k : Nat} {S : st_S} (hK : is_K h a S k) (hf : ∀ b, a ≤ b → b ≤ a + 6 → h'[b]? = h[b]?) : is_K h' a S k :=
  ⟨(hf a (by omega) (by omega)).trans hK.1, (hf _ (by omega) (by omega)).trans hK.2.1, (hf _ (by omega) (by omega)).trans hK.2.2.1, (hf _ (by omega) (by omega)).trans hK.2.2.2.1, (hf _ (by omega) (by omega)).trans hK.2.2.2.2.1, (hf _ (by omega) (by omega)).trans hK.2.2.2.2.2.1, (hf _ (by omega) (by omega)).trans hK.2.2.2.2.2.2⟩
theorem is_V_mono {h h' : se_H} {a b v : Nat} {S : st_S} (hV : is_V h a b S v) (hf : ∀ c, a ≤ c → c ≤ a + 5 → h'[c]? = h[c]?) : is_V h' a b S v :=
  ⟨(hf a (by omega) (by omega)).trans hV.1, (hf _ (by omega) (by omega)).trans hV.2.1, (hf _ (by omega) (by omega)).trans hV.2.2.1, (hf _ (by omega) (by omega)).trans hV.2.2.2.1, (hf _ (by omega) (by omega)).trans hV.2.2.2.2.1, (hf _ (by omega) (by omega)).trans hV.2.2.2.2.2⟩
def is_M (k : Nat) (H : se_H) : Prop := H.length = st_K 0 k ∧ H[0]? = some (.inr (2, [.ref 1, .null, .null, .null, .null, .int 0, .int 0, .int 0])) ∧ H[1]? = some (.inl (.object "VehicleChecks$Kind", (5, .inr (.inr (.inr (.inr (fun j => if j < k then some (st_K 0 j) else none))))))) ∧ ∀ j, j < k → is_K H (st_K 0 j) st_0 j
theorem st_vk {k : Nat} {f : Nat → Nat} : va_up (fun j => if j < k then some (f j) else none) k (some (f k)) = fun j => if j < k + 1 then some (f j) else none := by
  funext j
  simp only [va_up]
  by_cases h : j = k
  · subst h; simp
  · by_cases h2 : j < k
    · simp [h, h2, show j < k + 1 by omega]
    · simp [h, h2, show ¬ j < k + 1 by omega]
theorem is_M_s {k : Nat} {H h1 : se_H} {x : se_E} (hM : is_M k H) (hl : h1.length = st_K 0 k + 7) (hK : is_K h1 (st_K 0 k) st_0 k) (hf : ∀ b, b < st_K 0 k + 1 → b ≠ st_K 0 k → h1[b]? = (H ++ [x])[b]?) : is_M (k + 1) (h1.set 1 (.inl (.object "VehicleChecks$Kind", (5, .inr (.inr (.inr (.inr (va_up (fun j => if j < k then some (st_K 0 j) else none) k (some (st_K 0 k)))))))))) := by
  have e1 : st_K 0 (k + 1) = st_K 0 k + 7 := by simp only [st_K]; omega
  have e2 : 2 ≤ st_K 0 k := by simp only [st_K]; omega
  obtain ⟨m1, m2, m3, m4⟩ := hM
  refine ⟨(st_lt9 hl).trans e1.symm, st_ne ((hf 0 (by omega) (by omega)).trans (st_ap m2)) (by decide), ?_, fun j hj => ?_⟩
  · rw [← st_vk]; exact st_eq ((hf 1 (by omega) (by omega)).trans (st_ap m3))
  · by_cases hjk : j = k
    · subst hjk
      exact is_K_mono hK (fun b h1 h2 => by rw [List.getElem?_set, if_neg (by omega)])
    · have e3 : st_K 0 j + 7 ≤ st_K 0 k := by simp only [st_K]; omega
      have e4 : 2 ≤ st_K 0 j := by simp only [st_K]; omega
      refine is_K_mono (m4 j (by omega)) (fun b h1 h2 => ?_)
      rw [List.getElem?_set, if_neg (by omega), hf b (by omega) (by omega), List.getElem?_append_left (by omega)]
theorem is_M_C {β : Nat → Nat} {H : se_H} (hM : is_M 5 H) {H' : se_H} (h0 : H'[0]? = some (.inr (2, [.ref 1, .ref 37, .ref 38, .ref 39, .ref 40, .int 0, .int 0, .int 0]))) (h37 : H'[37]? = some (.inl (.object "VehicleChecks$Vehicle", (20, .inr (.inr (.inr (.inr (fun _ => none)))))))) (h38 : H'[38]? = some (.inl (.int, (100, .inl (fun _ => 0))))) (h39 : H'[39]? = some (.inl (.int, (100, .inl (fun _ => 0))))) (h40 : H'[40]? = some (.inl (.int, (100, .inl (fun _ => 0))))) (hf : ∀ b, b < 37 → b ≠ 0 → H'[b]? = H[b]?) : is_C 0 β st_0 H' := by
  have e0 : st_nv st_0 = 0 := by decide
  obtain ⟨m1, m2, m3, m4⟩ := hM
  refine ⟨h0, ?_, ?_, h38, h39, h40, fun k hk => ?_, fun v hv => ?_, fun v hv => ?_, fun v w _ hw => ?_⟩
  · exact (hf 1 (by decide) (by decide)).trans m3
  · rw [e0]
    have e : (fun v => if v < 0 then some (β v) else none) = (fun _ => none : Nat → Option Nat) := by funext v; simp
    rw [e]; exact h37
  · refine is_K_mono (m4 k hk) (fun b h1 h2 => hf b ?_ ?_)
    · simp only [st_K] at h2; omega
    · simp only [st_K] at h1; omega
  · rw [e0] at hv; omega
  · rw [e0] at hv; omega
  · rw [e0] at hw; omega
/-- beyond the last vehicle everything is as at first -/
def st_F (S : st_S) : Prop := ∀ v, st_nv S ≤ v → ∀ t, 6 ≤ t → t ≤ 20 → S t v = st_0 t v
abbrev st_nV (S : st_S) (k s : Int32) : st_S := st_up (st_up (st_up (st_up S 11 (st_nv S) 0 k) 12 (st_nv S) 0 s) 13 (st_nv S) 0 (S 26 0 0)) 24 0 0 (nI (st_nv S) + 1)
theorem nV_nv {S : st_S} {k s : Int32} (hn : st_nv S ≤ 20) : st_nv (st_nV S k s) = st_nv S + 1 := by
  show (st_up _ 24 0 0 (nI (st_nv S) + 1) 24 0 0).toNatClampNeg = _
  rw [up_v, nI_1, nI_clamp (by omega)]
theorem nV_24 {S : st_S} {k s : Int32} : st_nV S k s 24 0 0 = nI (st_nv S) + 1 := by simp [st_nV, st_up]
theorem nV_11 {S : st_S} {k s : Int32} : st_nV S k s 11 (st_nv S) 0 = k := by simp [st_nV, st_up]
theorem nV_12 {S : st_S} {k s : Int32} : st_nV S k s 12 (st_nv S) 0 = s := by simp [st_nV, st_up]
theorem nV_13 {S : st_S} {k s : Int32} : st_nV S k s 13 (st_nv S) 0 = S 26 0 0 := by simp [st_nV, st_up]
theorem nV_t {S : st_S} {k s : Int32} {t : Nat} (h1 : t ≠ 11) (h2 : t ≠ 12) (h3 : t ≠ 13) (h4 : t ≠ 24) : st_nV S k s t = S t := by
  unfold st_nV
  rw [up_ne h4, up_ne h3, up_ne h2, up_ne h1]
theorem nV_v {S : st_S} {k s : Int32} {t v : Nat} (hv : v ≠ st_nv S) (h4 : t ≠ 24) : st_nV S k s t v = S t v := by
  unfold st_nV
  rw [up_ne h4]
  by_cases h3 : t = 13
  · subst h3; rw [up_ne2 hv, up_ne (by decide), up_ne (by decide)]
  · rw [up_ne h3]
    by_cases h2 : t = 12
    · subst h2; rw [up_ne2 hv, up_ne (by decide)]
    · rw [up_ne h2]
      by_cases h1 : t = 11
      · subst h1; rw [up_ne2 hv]
      · rw [up_ne h1]
theorem uVehicle {β : Nat → Nat} {S : st_S} {h H : se_H} {n k : Nat} {s : Int32} {x : se_E} (hC : is_C 0 β S h) (hF : st_F S) (hn20 : st_nv S < 20) (hn : h.length = n) (h68 : 41 ≤ n) (hk : k < 5) (hN : is_N (h ++ [x]) n (st_K 0 k) (nI (st_nv S)) s (S 26 0 0) 10 H) :
    is_C 0 (va_up β (st_nv S) n) (st_nV S (nI k) s) ((H.set (0 + 37) (.inl (.object "VehicleChecks$Vehicle", (20, .inr (.inr (.inr (.inr (va_up (fun v => if v < st_nv S then some (β v) else none) (st_nv S) (some n))))))))).set 0 (.inr (2, [.ref (0 + 1), .ref (0 + 37), .ref (0 + 38), .ref (0 + 39), .ref (0 + 40), .int (nI (st_nv S) + 1), .int (S 25 0 0), .int (S 26 0 0)]))) := by
  obtain ⟨c1, c2, c3, c4, c5, c6, c7, c8, c9, c10⟩ := hC
  obtain ⟨n1, n2, n3, n4, n5, n6, n7, n8⟩ := hN
  have hfr : ∀ b, b < n → H[b]? = h[b]? := fun b hb => by rw [n8 b (by omega) (by omega), List.getElem?_append_left (by omega)]
  have hfs : ∀ (b : Nat) (e : se_E), b < n → b ≠ 0 → b ≠ 37 → h[b]? = some e → ((H.set (0 + 37) (.inl (.object "VehicleChecks$Vehicle", (20, .inr (.inr (.inr (.inr (va_up (fun v => if v < st_nv S then some (β v) else none) (st_nv S) (some n))))))))).set 0 (.inr (2, [.ref (0 + 1), .ref (0 + 37), .ref (0 + 38), .ref (0 + 39), .ref (0 + 40), .int (nI (st_nv S) + 1), .int (S 25 0 0), .int (S 26 0 0)])))[b]? = some e := fun b e h1 h2 h3 h4 => st_ne (st_ne ((hfr b h1).trans h4) (by omega)) (by omega)
  have hbig : ∀ (b : Nat) (e : se_E), n ≤ b → H[b]? = some e → ((H.set (0 + 37) (.inl (.object "VehicleChecks$Vehicle", (20, .inr (.inr (.inr (.inr (va_up (fun v => if v < st_nv S then some (β v) else none) (st_nv S) (some n))))))))).set 0 (.inr (2, [.ref (0 + 1), .ref (0 + 37), .ref (0 + 38), .ref (0 + 39), .ref (0 + 40), .int (nI (st_nv S) + 1), .int (S 25 0 0), .int (S 26 0 0)])))[b]? = some e := fun b e h1 h4 => st_ne (st_ne h4 (by omega)) (by omega)
  have hlt : ∀ v, v < st_nv S → β v + 5 < n := fun v hv => by
    have := (List.getElem?_eq_some_iff.mp (c8 v hv).2.2.2.2.2).1
    omega
  have hnv := nV_nv (S := S) (k := nI k) (s := s) (by omega)
  refine ⟨?_, ?_, ?_, ?_, ?_, ?_, fun k' hk' => ?_, fun v hv => ?_, fun v hv => ?_, fun v w hvw hw => ?_⟩
  · rw [nV_t (t := 25) (by decide) (by decide) (by decide) (by decide), nV_t (t := 26) (by decide) (by decide) (by decide) (by decide), nV_24]
    exact st_eq (st_ne ((hfr 0 (by omega)).trans c1) (by decide))
  · exact hfs _ _ (by omega) (by decide) (by decide) c2
  · rw [hnv]
    have e : (fun v => if v < st_nv S + 1 then some (va_up β (st_nv S) n v) else none) = va_up (fun v => if v < st_nv S then some (β v) else none) (st_nv S) (some n) := by
      funext v
      simp only [va_up]
      by_cases hv : v = st_nv S
      · subst hv; simp
      · by_cases h2 : v < st_nv S
        · simp [hv, h2, show v < st_nv S + 1 by omega]
        · simp [hv, h2, show ¬ v < st_nv S + 1 by omega]
    rw [e]
    exact st_ne (st_eq ((hfr _ (by omega)).trans c3)) (by decide)
  · rw [nV_t (t := 21) (by decide) (by decide) (by decide) (by decide)]; exact hfs _ _ (by omega) (by decide) (by decide) c4
  · rw [nV_t (t := 22) (by decide) (by decide) (by decide) (by decide)]; exact hfs _ _ (by omega) (by decide) (by decide) c5
  · rw [nV_t (t := 23) (by decide) (by decide) (by decide) (by decide)]; exact hfs _ _ (by omega) (by decide) (by decide) c6
  · have hKk : st_K 0 k' + 6 < 37 ∧ 2 ≤ st_K 0 k' := by simp only [st_K]; omega
    obtain ⟨d0, d1, d2, d3, d4, d5, d6⟩ := c7 k' hk'
    refine ⟨hfs _ _ (by omega) (by omega) (by omega) d0, ?_, ?_, ?_, ?_, ?_, ?_⟩
    · rw [nV_t (t := 0) (by decide) (by decide) (by decide) (by decide)]; exact hfs _ _ (by omega) (by omega) (by omega) d1
    · rw [nV_t (t := 1) (by decide) (by decide) (by decide) (by decide)]; exact hfs _ _ (by omega) (by omega) (by omega) d2
    · rw [nV_t (t := 2) (by decide) (by decide) (by decide) (by decide)]; exact hfs _ _ (by omega) (by omega) (by omega) d3
    · rw [nV_t (t := 3) (by decide) (by decide) (by decide) (by decide)]; exact hfs _ _ (by omega) (by omega) (by omega) d4
    · rw [nV_t (t := 4) (by decide) (by decide) (by decide) (by decide)]; exact hfs _ _ (by omega) (by omega) (by omega) d5
    · rw [nV_t (t := 5) (by decide) (by decide) (by decide) (by decide)]; exact hfs _ _ (by omega) (by omega) (by omega) d6
  · by_cases hv2 : v = st_nv S
    · subst hv2
      have f := fun t h1 h2 => hF (st_nv S) (Nat.le_refl _) t h1 h2
      have ek : st_kd (st_nV S (nI k) s) (st_nv S) = k := by
        show (st_nV S (nI k) s 11 (st_nv S) 0).toNatClampNeg = k
        rw [nV_11, nI_clamp (by omega)]
      have eb : va_up β (st_nv S) n (st_nv S) = n := by simp [va_up]
      rw [ek, eb]
      have g : ∀ t, t ≠ 11 → t ≠ 12 → t ≠ 13 → t ≠ 24 → 6 ≤ t → t ≤ 20 → st_nV S (nI k) s t (st_nv S) = st_0 t (st_nv S) := fun t a1 a2 a3 a4 a5 a6 => by rw [nV_t a1 a2 a3 a4]; exact f t a5 a6
      refine ⟨?_, ?_, ?_, ?_, ?_, ?_⟩
      · rw [g 14 (by decide) (by decide) (by decide) (by decide) (by decide) (by decide), g 15 (by decide) (by decide) (by decide) (by decide) (by decide) (by decide), g 16 (by decide) (by decide) (by decide) (by decide) (by decide) (by decide), g 17 (by decide) (by decide) (by decide) (by decide) (by decide) (by decide), g 18 (by decide) (by decide) (by decide) (by decide) (by decide) (by decide), g 19 (by decide) (by decide) (by decide) (by decide) (by decide) (by decide), g 20 (by decide) (by decide) (by decide) (by decide) (by decide) (by decide)]
        rw [nV_12, nV_13]
        exact hbig _ _ (by omega) n2
      · rw [g 6 (by decide) (by decide) (by decide) (by decide) (by decide) (by decide)]; exact hbig _ _ (by omega) n3
      · rw [g 7 (by decide) (by decide) (by decide) (by decide) (by decide) (by decide)]; exact hbig _ _ (by omega) n4
      · rw [g 8 (by decide) (by decide) (by decide) (by decide) (by decide) (by decide)]; exact hbig _ _ (by omega) n5
      · rw [g 9 (by decide) (by decide) (by decide) (by decide) (by decide) (by decide)]; exact hbig _ _ (by omega) n6
      · rw [g 10 (by decide) (by decide) (by decide) (by decide) (by decide) (by decide)]; exact hbig _ _ (by omega) n7
    · have hv3 : v < st_nv S := by rw [hnv] at hv; omega
      have ek : st_kd (st_nV S (nI k) s) v = st_kd S v := by
        show (st_nV S (nI k) s 11 v 0).toNatClampNeg = _
        rw [nV_v hv2 (by decide)]; rfl
      have eb : va_up β (st_nv S) n v = β v := by simp [va_up, hv2]
      have hb := c9 v hv3
      have hl := hlt v hv3
      rw [ek, eb]
      obtain ⟨d0, d1, d2, d3, d4, d5⟩ := c8 v hv3
      refine ⟨?_, ?_, ?_, ?_, ?_, ?_⟩
      · rw [nV_v (t := 12) hv2 (by decide), nV_v (t := 13) hv2 (by decide), nV_v (t := 14) hv2 (by decide), nV_v (t := 15) hv2 (by decide), nV_v (t := 16) hv2 (by decide), nV_v (t := 17) hv2 (by decide), nV_v (t := 18) hv2 (by decide), nV_v (t := 19) hv2 (by decide), nV_v (t := 20) hv2 (by decide)]
        exact hfs _ _ (by omega) (by omega) (by omega) d0
      · rw [nV_v hv2 (by decide)]; exact hfs _ _ (by omega) (by omega) (by omega) d1
      · rw [nV_v hv2 (by decide)]; exact hfs _ _ (by omega) (by omega) (by omega) d2
      · rw [nV_v hv2 (by decide)]; exact hfs _ _ (by omega) (by omega) (by omega) d3
      · rw [nV_v hv2 (by decide)]; exact hfs _ _ (by omega) (by omega) (by omega) d4
      · rw [nV_v hv2 (by decide)]; exact hfs _ _ (by omega) (by omega) (by omega) d5
  · rw [hnv] at hv
    by_cases hv2 : v = st_nv S
    · subst hv2; simp [va_up]; omega
    · rw [show va_up β (st_nv S) n v = β v by simp [va_up, hv2]]; exact c9 v (by omega)
  · rw [hnv] at hw
    have hv2 : v ≠ st_nv S := by omega
    rw [show va_up β (st_nv S) n v = β v by simp [va_up, hv2]]
    by_cases hw2 : w = st_nv S
    · subst hw2
      rw [show va_up β (st_nv S) n (st_nv S) = n by simp [va_up]]
      have := hlt v hvw
      omega
    · rw [show va_up β (st_nv S) n w = β w by simp [va_up, hw2]]; exact c10 v w hvw (by omega)
