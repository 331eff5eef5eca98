/-! ABSTRACT RUNS. A heap of abstract cells (a list: an abstract address is a place in it), the judgement se_W (from this frame, with this abstract heap, the method comes to an end that Φ describes), and a row for each instruction. Nothing here speaks of one program. -/
abbrev se_E : Type := (FieldType × vp_A) ⊕ (Nat × List Value)
abbrev se_H : Type := List se_E
abbrev se_O : Type := Option Value ⊕ String
/-- a method: name, bytes, locals, answer's type, handlers -/
abbrev se_M : Type := MethodName × ByteArray × Nat × Option FieldType × List (Nat × Nat × Nat × Nat)
/-- .ref: a place of the abstract heap; .retAddr: a cell outside of it (the script, a caught exception) -/
def se_v (θ : Nat → Nat) : Value → Value
  | .ref k => .ref (θ k)
  | .retAddr a => .ref a
  | v => v
def se_a (θ : Nat → Nat) : vp_A → vp_A
  | (n, .inr (.inr (.inr (.inr f)))) => (n, .inr (.inr (.inr (.inr (fun j => (f j).map θ)))))
  | a => a
def se_e (dA : FieldType → ClassId) (θ : Nat → Nat) : se_E → va_E
  | .inl q => .inl (dA q.1, se_a θ q.2)
  | .inr q => .inr (q.1, q.2.map (se_v θ))
def se_w (dA : FieldType → ClassId) (θ : Nat → Nat) (h : se_H) : va_W := h.mapIdx (fun k e => (θ k, se_e dA θ e))
/-- references point below n -/
def se_wv (n : Nat) (v : Value) : Prop := ∀ k, v = .ref k → k < n
def se_we (n : Nat) : se_E → Prop
  | .inl q => ∀ (m : Nat) (f : Nat → Option Nat), q.2 = (m, .inr (.inr (.inr (.inr f)))) → ∀ j k, f j = some k → k < n
  | .inr q => ∀ v ∈ q.2, se_wv n v
def se_wh (h : se_H) : Prop := ∀ (k : Nat) (e : se_E), h[k]? = some e → se_we h.length e
theorem se_wv_mono {n m : Nat} {v : Value} (h : se_wv n v) (hm : n ≤ m) : se_wv m v := fun k hk => Nat.lt_of_lt_of_le (h k hk) hm
theorem se_we_mono {n m : Nat} {e : se_E} (h : se_we n e) (hm : n ≤ m) : se_we m e := by
  cases e with
  | inl q => exact fun a f hq j k hk => Nat.lt_of_lt_of_le (h a f hq j k hk) hm
  | inr q => exact fun v hv => se_wv_mono (h v hv) hm
theorem se_v_congr {n : Nat} {θ θ' : Nat → Nat} {v : Value} (hv : se_wv n v) (hθ : ∀ k, k < n → θ' k = θ k) : se_v θ' v = se_v θ v := by
  cases v with
  | ref k => show Value.ref (θ' k) = Value.ref (θ k); rw [hθ k (hv k rfl)]
  | _ => rfl
theorem se_vs_congr {n : Nat} {θ θ' : Nat → Nat} {vs : List Value} (hv : ∀ v ∈ vs, se_wv n v) (hθ : ∀ k, k < n → θ' k = θ k) : vs.map (se_v θ') = vs.map (se_v θ) :=
  List.map_congr_left fun v h => se_v_congr (hv v h) hθ
theorem se_e_congr {n : Nat} {dA : FieldType → ClassId} {θ θ' : Nat → Nat} {e : se_E} (he : se_we n e) (hθ : ∀ k, k < n → θ' k = θ k) : se_e dA θ' e = se_e dA θ e := by
  cases e with
  | inl q =>
    obtain ⟨ty, a, x⟩ := q
    show Sum.inl (dA ty, se_a θ' (a, x)) = Sum.inl (dA ty, se_a θ (a, x))
    rcases x with f | f | f | f | f
    · rfl
    · rfl
    · rfl
    · rfl
    · have hf : (fun j => (f j).map θ') = (fun j => (f j).map θ) := by
        funext j
        cases hj : f j with
        | none => rfl
        | some k => exact congrArg some (hθ k (he a f rfl j k hj))
      show Sum.inl (dA ty, (a, Sum.inr (Sum.inr (Sum.inr (Sum.inr (fun j => (f j).map θ')))))) = _
      rw [hf]
      rfl
  | inr q =>
    show Sum.inr (q.1, q.2.map (se_v θ')) = Sum.inr (q.1, q.2.map (se_v θ))
    rw [se_vs_congr he hθ]
theorem se_w_at {dA : FieldType → ClassId} {θ : Nat → Nat} {h : se_H} {k : Nat} {e : se_E} (hk : h[k]? = some e) : (se_w dA θ h)[k]? = some (θ k, se_e dA θ e) := by
  simp [se_w, List.getElem?_mapIdx, hk]
theorem se_w_of {dA : FieldType → ClassId} {θ : Nat → Nat} {h : se_H} {k : Nat} {q : Nat × va_E} (hk : (se_w dA θ h)[k]? = some q) : ∃ e, h[k]? = some e ∧ q = (θ k, se_e dA θ e) := by
  simp only [se_w, List.getElem?_mapIdx] at hk
  cases hh : h[k]? with
  | none => rw [hh] at hk; cases hk
  | some e => rw [hh] at hk; exact ⟨e, rfl, (Option.some.inj hk).symm⟩
theorem se_w_set {dA : FieldType → ClassId} {θ : Nat → Nat} {h : se_H} (k : Nat) (e : se_E) : se_w dA θ (h.set k e) = (se_w dA θ h).set k (θ k, se_e dA θ e) := by
  apply List.ext_getElem?
  intro i
  simp only [se_w, List.getElem?_mapIdx, List.getElem?_set, List.length_mapIdx]
  by_cases hi : k = i
  · subst hi
    by_cases hl : k < h.length
    · simp [hl]
    · simp [hl]
  · simp [hi]
theorem se_w_push {dA : FieldType → ClassId} {θ θ' : Nat → Nat} {h : se_H} {e : se_E} {q : Nat} (hw : se_wh h) (hθ : ∀ k, k < h.length → θ' k = θ k) (hq : θ' h.length = q) : se_w dA θ' (h ++ [e]) = se_w dA θ h ++ [(q, se_e dA θ' e)] := by
  apply List.ext_getElem?
  intro i
  by_cases hi : i < h.length
  · obtain ⟨x, hx⟩ : ∃ x, h[i]? = some x := ⟨h[i], List.getElem?_eq_getElem hi⟩
    rw [List.getElem?_append_left (by simpa [se_w] using hi), se_w_at hx, se_w_at (by rw [List.getElem?_append_left hi]; exact hx), hθ i hi, se_e_congr (hw i x hx) hθ]
  · have hl : (se_w dA θ h).length = h.length := by simp [se_w]
    rw [List.getElem?_append_right (by omega), hl]
    by_cases h2 : i = h.length
    · subst h2
      rw [se_w_at (e := e) (by simp), hq]
      simp
    · have : ¬ i - h.length < 1 := by omega
      rw [List.getElem?_eq_none (by simp [se_w]; omega), List.getElem?_eq_none (by simp; omega)]
theorem se_wh_set {h : se_H} {k : Nat} {e : se_E} (hw : se_wh h) (he : se_we h.length e) : se_wh (h.set k e) := by
  intro i x hx
  rw [List.length_set]
  rw [List.getElem?_set] at hx
  split at hx
  · split at hx
    · cases hx; exact he
    · cases hx
  · exact hw i x hx
theorem se_wh_push {h : se_H} {e : se_E} (hw : se_wh h) (he : se_we (h.length + 1) e) : se_wh (h ++ [e]) := by
  intro i x hx
  rw [List.length_append]
  by_cases hi : i < h.length
  · rw [List.getElem?_append_left hi] at hx
    exact se_we_mono (hw i x hx) (by simp)
  · rw [List.getElem?_append_right (by omega)] at hx
    have h0 : i - h.length = 0 := by
      rcases Nat.eq_zero_or_pos (i - h.length) with q | q
      · exact q
      · rw [List.getElem?_eq_none (by simp; omega)] at hx; cases hx
    rw [h0] at hx
    cases hx
    exact he
/-! locals -/
def se_L (θ : Nat → Nat) (L : List (Option Value)) (ls : Array Slot) (nL : Nat) : Prop := ls.size = nL ∧ lv_wf ls ∧ L.length = nL ∧ ∀ (i : Nat) (v : Value), L[i]? = some (some v) → ls[i]? = some (.val (se_v θ v))
/-- a long below i goes -/
def se_cl (L : List (Option Value)) : Nat → List (Option Value)
  | 0 => L
  | j + 1 => match L[j]? with
    | some (some (.long _)) => L.set j none
    | some (some (.double _)) => L.set j none
    | _ => L
def se_s1 (L : List (Option Value)) (i : Nat) (v : Value) : List (Option Value) := (se_cl L i).set i (some v)
def se_s2 (L : List (Option Value)) (i : Nat) (v : Value) : List (Option Value) := ((se_cl L i).set (i + 1) none).set i (some v)
theorem se_cl_len (L : List (Option Value)) (i : Nat) : (se_cl L i).length = L.length := by
  cases i with
  | zero => rfl
  | succ j => simp only [se_cl]; split <;> simp
theorem se_cl_at {L : List (Option Value)} {i j : Nat} {v : Value} (h : (se_cl L i)[j]? = some (some v)) : L[j]? = some (some v) ∧ ¬ (j + 1 = i ∧ v.category = 2) := by
  cases i with
  | zero => exact ⟨h, fun q => by omega⟩
  | succ k =>
    simp only [se_cl] at h
    split at h
    · rename_i y hy
      rw [List.getElem?_set] at h
      split at h
      · split at h <;> cases h
      · rename_i hne
        exact ⟨h, fun q => hne (by omega)⟩
    · rename_i y hy
      rw [List.getElem?_set] at h
      split at h
      · split at h <;> cases h
      · rename_i hne
        exact ⟨h, fun q => hne (by omega)⟩
    · rename_i h1 h2
      refine ⟨h, fun q => ?_⟩
      obtain ⟨q1, q2⟩ := q
      have hk : j = k := by omega
      subst hk
      cases v with
      | long x => exact h1 x h
      | double x => exact h2 x h
      | _ => simp [Value.category] at q2
theorem se_cat (θ : Nat → Nat) (v : Value) : (se_v θ v).category = v.category := by cases v <;> rfl
theorem se_store1 {θ : Nat → Nat} {L : List (Option Value)} {ls : Array Slot} {nL i : Nat} {v : Value} (h : se_L θ L ls nL) (hi : i < nL) (hc : v.category = 1) : ∃ ls', storeLocals ls i (se_v θ v) = some ls' ∧ se_L θ (se_s1 L i v) ls' nL := by
  obtain ⟨h1, h2, h3, h4⟩ := h
  obtain ⟨ls', e', h'⟩ := lv_store1 (ls := ls) (nL := nL) (l := []) (i := i) (v := se_v θ v) ⟨h1, h2, fun q hq => by cases hq⟩ hi (by rw [se_cat]; exact hc)
  refine ⟨ls', e', h'.1, h'.2.1, by simp [se_s1, se_cl_len, h3], fun j w hj => ?_⟩
  simp only [se_s1] at hj
  rw [List.getElem?_set] at hj
  split at hj
  · rename_i hij
    split at hj
    · cases hj
      subst hij
      exact h'.2.2 (i, se_v θ v) List.mem_cons_self
    · cases hj
  · rename_i hij
    obtain ⟨q1, q2⟩ := se_cl_at hj
    obtain ⟨ls2, e2, g2⟩ := lv_store1 (ls := ls) (nL := nL) (l := [(j, se_v θ w)]) (i := i) (v := se_v θ v) ⟨h1, h2, fun q hq => by rw [List.mem_singleton.mp hq]; exact h4 j w q1⟩ hi (by rw [se_cat]; exact hc)
    cases Option.some.inj (e2.symm.trans e')
    refine g2.2.2 (j, se_v θ w) (List.mem_cons_of_mem _ (List.mem_filter.mpr ⟨List.mem_singleton.mpr rfl, ?_⟩))
    have n1 : ¬ j = i := fun q => hij q.symm
    by_cases n2 : j + 1 = i
    · have n3 : ¬ w.category = 2 := fun q => q2 ⟨n2, q⟩
      simp [n1, n3, se_cat]
    · simp [n1, n2]
theorem se_store2 {θ : Nat → Nat} {L : List (Option Value)} {ls : Array Slot} {nL i : Nat} {v : Value} (h : se_L θ L ls nL) (hi : i + 1 < nL) (hc : v.category = 2) : ∃ ls', storeLocals ls i (se_v θ v) = some ls' ∧ se_L θ (se_s2 L i v) ls' nL := by
  obtain ⟨h1, h2, h3, h4⟩ := h
  obtain ⟨ls', e', h'⟩ := lv_store2 (ls := ls) (nL := nL) (l := []) (i := i) (v := se_v θ v) ⟨h1, h2, fun q hq => by cases hq⟩ hi (by rw [se_cat]; exact hc)
  refine ⟨ls', e', h'.1, h'.2.1, by simp [se_s2, se_cl_len, h3], fun j w hj => ?_⟩
  simp only [se_s2] at hj
  rw [List.getElem?_set] at hj
  split at hj
  · rename_i hij
    split at hj
    · cases hj
      subst hij
      exact h'.2.2 (i, se_v θ v) List.mem_cons_self
    · cases hj
  · rename_i hij
    rw [List.getElem?_set] at hj
    split at hj
    · split at hj <;> cases hj
    · rename_i hij2
      obtain ⟨q1, q2⟩ := se_cl_at hj
      obtain ⟨ls2, e2, g2⟩ := lv_store2 (ls := ls) (nL := nL) (l := [(j, se_v θ w)]) (i := i) (v := se_v θ v) ⟨h1, h2, fun q hq => by rw [List.mem_singleton.mp hq]; exact h4 j w q1⟩ hi (by rw [se_cat]; exact hc)
      cases Option.some.inj (e2.symm.trans e')
      refine g2.2.2 (j, se_v θ w) (List.mem_cons_of_mem _ (List.mem_filter.mpr ⟨List.mem_singleton.mpr rfl, ?_⟩))
      have n1 : ¬ j = i := fun q => hij q.symm
      have n4 : ¬ j = i + 1 := fun q => hij2 q.symm
      by_cases n2 : j + 1 = i
      · have n3 : ¬ w.category = 2 := fun q => q2 ⟨n2, q⟩
        simp [n1, n3, n4, se_cat]
      · simp [n1, n2, n4]
theorem se_L_congr {n : Nat} {θ θ' : Nat → Nat} {L : List (Option Value)} {ls : Array Slot} {nL : Nat} (h : se_L θ L ls nL) (hL : ∀ (i : Nat) (v : Value), L[i]? = some (some v) → se_wv n v) (hθ : ∀ k, k < n → θ' k = θ k) : se_L θ' L ls nL :=
  ⟨h.1, h.2.1, h.2.2.1, fun i v hv => by rw [se_v_congr (hL i v hv) hθ]; exact h.2.2.2 i v hv⟩
def se_wL (n : Nat) (L : List (Option Value)) : Prop := ∀ (i : Nat) (v : Value), L[i]? = some (some v) → se_wv n v
theorem se_wL_s1 {n : Nat} {L : List (Option Value)} {i : Nat} {v : Value} (h : se_wL n L) (hv : se_wv n v) : se_wL n (se_s1 L i v) := by
  intro j w hj
  simp only [se_s1] at hj
  rw [List.getElem?_set] at hj
  split at hj
  · split at hj
    · cases hj; exact hv
    · cases hj
  · exact h j w (se_cl_at hj).1
theorem se_wL_s2 {n : Nat} {L : List (Option Value)} {i : Nat} {v : Value} (h : se_wL n L) (hv : se_wv n v) : se_wL n (se_s2 L i v) := by
  intro j w hj
  simp only [se_s2] at hj
  rw [List.getElem?_set] at hj
  split at hj
  · split at hj
    · cases hj; exact hv
    · cases hj
  · rw [List.getElem?_set] at hj
    split at hj
    · split at hj <;> cases hj
    · exact h j w (se_cl_at hj).1
/-! locals at a method's start -/
def se_sl : List Value → List (Option Value)
  | [] => []
  | v :: vs => if v.category = 2 then some v :: none :: se_sl vs else some v :: se_sl vs
def se_ent (n : Nat) (vs : List Value) : List (Option Value) := se_sl vs ++ List.replicate (n - (se_sl vs).length) none
theorem se_sl_len (θ : Nat → Nat) : ∀ vs : List Value, (lg_sl (vs.map (se_v θ))).length = (se_sl vs).length := by
  intro vs
  induction vs with
  | nil => rfl
  | cons v vs ih =>
    cases v <;> simp [lg_sl, se_sl, se_v, Value.category] at ih ⊢ <;> omega
theorem se_sl_args (θ : Nat → Nat) : ∀ (vs : List Value) (b i : Nat) (v : Value), (se_sl vs)[i]? = some (some v) → (b + i, se_v θ v) ∈ lv_args b (vs.map (se_v θ)) := by
  intro vs
  induction vs with
  | nil => intro b i v h; simp [se_sl] at h
  | cons w vs ih =>
    intro b i v h
    simp only [List.map_cons, lv_args, se_cat]
    simp only [se_sl] at h
    by_cases hc : w.category = 2
    · rw [if_pos hc] at h ⊢
      match i, h with
      | 0, h => cases h; exact List.mem_cons_self
      | 1, h => cases h
      | i + 2, h =>
        refine List.mem_cons_of_mem _ ?_
        have := ih (b + 2) i v (by simpa using h)
        rwa [show b + (i + 2) = b + 2 + i by omega]
    · rw [if_neg hc] at h ⊢
      match i, h with
      | 0, h => cases h; exact List.mem_cons_self
      | i + 1, h =>
        refine List.mem_cons_of_mem _ ?_
        have := ih (b + 1) i v (by simpa using h)
        rwa [show b + (i + 1) = b + 1 + i by omega]
theorem se_ent_at {n : Nat} {vs : List Value} {i : Nat} {v : Value} (h : (se_ent n vs)[i]? = some (some v)) : (se_sl vs)[i]? = some (some v) := by
  simp only [se_ent] at h
  by_cases hi : i < (se_sl vs).length
  · rwa [List.getElem?_append_left hi] at h
  · rw [List.getElem?_append_right (by omega), List.getElem?_replicate] at h
    split at h <;> cases h
theorem se_ent_L {θ : Nat → Nat} {n : Nat} {vs : List Value} (h : (se_sl vs).length ≤ n) : se_L θ (se_ent n vs) ((lg_sl (vs.map (se_v θ)) ++ List.replicate (n - (lg_sl (vs.map (se_v θ))).length) Slot.unset).toArray) n := by
  have hl := lv_entry (vs.map (se_v θ)) (n := n) (by rw [se_sl_len]; exact h)
  refine ⟨hl.1, hl.2.1, by simp [se_ent]; omega, fun i v hv => ?_⟩
  have h2 := se_sl_args θ vs 0 i v (se_ent_at hv)
  rw [Nat.zero_add] at h2
  exact hl.2.2 _ h2
theorem se_sl_mem : ∀ {vs : List Value} {i : Nat} {v : Value}, (se_sl vs)[i]? = some (some v) → v ∈ vs := by
  intro vs
  induction vs with
  | nil => intro i v h; simp [se_sl] at h
  | cons w vs ih =>
    intro i v h
    simp only [se_sl] at h
    by_cases hc : w.category = 2
    · rw [if_pos hc] at h
      match i, h with
      | 0, h => cases h; exact List.mem_cons_self
      | 1, h => cases h
      | i + 2, h => exact List.mem_cons_of_mem _ (ih (i := i) (by simpa using h))
    · rw [if_neg hc] at h
      match i, h with
      | 0, h => cases h; exact List.mem_cons_self
      | i + 1, h => exact List.mem_cons_of_mem _ (ih (i := i) (by simpa using h))
