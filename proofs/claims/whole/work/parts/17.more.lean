/-! arrays at a place that is a natural number; small numbers -/
section MORE
variable {G : se_G} {l : Launch} {d : Nat} {M : se_M} {pc : Nat} {L : List (Option Value)} {st : List Value} {h : se_H} {C S : Nat} {Φ : se_O → se_H → Prop}
theorem se_ialdN (t0 : Nat) {a n j : Nat} {f : Nat → Int32} (hg : decode M.2.1 pc = .ok (.iaload, 1)) (ht : G.2.2.1[t0]? = some .int) (ha : h[a]? = some (.inl (.int, (n, .inl f)))) (hj : j < n) (hn : n < 2 ^ 31) (kk : se_W G l d M (pc + 1) L (.int (f j) :: st) h C S Φ) : se_W G l d M pc L (.int (nI j) :: .ref a :: st) h C S Φ := by
  refine se_iald t0 hg ht ha (vp_in_nI hj hn) ?_
  rw [nI_clamp (Nat.lt_trans hj hn)]
  exact kk
theorem se_zaldN (t0 : Nat) {a n j : Nat} {f : Nat → Int32} (hg : decode M.2.1 pc = .ok (.baload, 1)) (ht : G.2.2.1[t0]? = some .boolean) (ha : h[a]? = some (.inl (.boolean, (n, .inl f)))) (hj : j < n) (hn : n < 2 ^ 31) (kk : se_W G l d M (pc + 1) L (.int (f j) :: st) h C S Φ) : se_W G l d M pc L (.int (nI j) :: .ref a :: st) h C S Φ := by
  refine se_zald t0 hg ht ha (vp_in_nI hj hn) ?_
  rw [nI_clamp (Nat.lt_trans hj hn)]
  exact kk
theorem se_laldN (t0 : Nat) {a n j : Nat} {f : Nat → Int64} (hg : decode M.2.1 pc = .ok (.laload, 1)) (ht : G.2.2.1[t0]? = some .long) (ha : h[a]? = some (.inl (.long, (n, .inr (.inl f))))) (hj : j < n) (hn : n < 2 ^ 31) (kk : se_W G l d M (pc + 1) L (.long (f j) :: st) h C S Φ) : se_W G l d M pc L (.int (nI j) :: .ref a :: st) h C S Φ := by
  refine se_lald t0 hg ht ha (vp_in_nI hj hn) ?_
  rw [nI_clamp (Nat.lt_trans hj hn)]
  exact kk
theorem se_aaldN {C0 : String} (t0 : Nat) {a n j : Nat} {f : Nat → Option Nat} (hg : decode M.2.1 pc = .ok (.aaload, 1)) (ht : G.2.2.1[t0]? = some (.object C0)) (ha : h[a]? = some (.inl (.object C0, (n, .inr (.inr (.inr (.inr f))))))) (hj : j < n) (hn : n < 2 ^ 31) (r : Option Nat) (hr : f j = r) (kk : se_W G l d M (pc + 1) L (va_rf r :: st) h C S Φ) : se_W G l d M pc L (.int (nI j) :: .ref a :: st) h C S Φ := by
  refine se_aald t0 hg ht ha (vp_in_nI hj hn) ?_
  rw [nI_clamp (Nat.lt_trans hj hn), hr]
  exact kk
theorem se_iastN (t0 : Nat) {a n j : Nat} {f : Nat → Int32} {x : Int32} (hg : decode M.2.1 pc = .ok (.iastore, 1)) (ht : G.2.2.1[t0]? = some .int) (ha : h[a]? = some (.inl (.int, (n, .inl f)))) (hj : j < n) (hn : n < 2 ^ 31) (kk : se_W G l d M (pc + 1) L st (h.set a (.inl (.int, (n, .inl (upd f j x))))) C S Φ) : se_W G l d M pc L (.int x :: .int (nI j) :: .ref a :: st) h C S Φ := by
  refine se_iast t0 hg ht ha (vp_in_nI hj hn) ?_
  rw [nI_clamp (Nat.lt_trans hj hn)]
  exact kk
theorem vp_nar01 {x : Int32} (hx : x = 0 ∨ x = 1) : vp_nar .boolean x = x := by rcases hx with rfl | rfl <;> decide
theorem se_zastN (t0 : Nat) {a n j : Nat} {f : Nat → Int32} {x : Int32} (hg : decode M.2.1 pc = .ok (.bastore, 1)) (ht : G.2.2.1[t0]? = some .boolean) (ha : h[a]? = some (.inl (.boolean, (n, .inl f)))) (hj : j < n) (hn : n < 2 ^ 31) (hx : x = 0 ∨ x = 1) (kk : se_W G l d M (pc + 1) L st (h.set a (.inl (.boolean, (n, .inl (upd f j x))))) C S Φ) : se_W G l d M pc L (.int x :: .int (nI j) :: .ref a :: st) h C S Φ := by
  refine se_zast t0 hg ht ha (vp_in_nI hj hn) ?_
  rw [nI_clamp (Nat.lt_trans hj hn), vp_nar01 hx]
  exact kk
theorem se_lastN (t0 : Nat) {a n j : Nat} {f : Nat → Int64} {x : Int64} (hg : decode M.2.1 pc = .ok (.lastore, 1)) (ht : G.2.2.1[t0]? = some .long) (ha : h[a]? = some (.inl (.long, (n, .inr (.inl f))))) (hj : j < n) (hn : n < 2 ^ 31) (kk : se_W G l d M (pc + 1) L st (h.set a (.inl (.long, (n, .inr (.inl (vp_updL f j x)))))) C S Φ) : se_W G l d M pc L (.long x :: .int (nI j) :: .ref a :: st) h C S Φ := by
  refine se_last t0 hg ht ha (vp_in_nI hj hn) ?_
  rw [nI_clamp (Nat.lt_trans hj hn)]
  exact kk
theorem se_aastN {C0 : String} {T : u_T} {N ci : Nat} (t0 : Nat) {a n v j : Nat} {f : Nat → Option Nat} {vs : List Value} (hg : decode M.2.1 pc = .ok (.aastore, 1)) (ht : G.2.2.1[t0]? = some (.object C0)) (hc : G.1[ci]? = some (C0, T, N)) (ha : h[a]? = some (.inl (.object C0, (n, .inr (.inr (.inr (.inr f))))))) (hv : h[v]? = some (.inr (ci, vs))) (hj : j < n) (hn : n < 2 ^ 31) (kk : se_W G l d M (pc + 1) L st (h.set a (.inl (.object C0, (n, .inr (.inr (.inr (.inr (va_up f j (some v))))))))) C S Φ) : se_W G l d M pc L (.ref v :: .int (nI j) :: .ref a :: st) h C S Φ := by
  refine se_aast t0 hg ht hc ha hv (vp_in_nI hj hn) ?_
  rw [nI_clamp (Nat.lt_trans hj hn)]
  exact kk
end MORE
