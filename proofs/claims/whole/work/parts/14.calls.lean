section SE2
variable {G : se_G} {l : Launch} {d : Nat} {M : se_M} {pc : Nat} {L : List (Option Value)} {st : List Value} {h : se_H} {C S : Nat} {Φ : se_O → se_H → Prop}
/-! ===== ends ===== -/
theorem se_vret (hg : decode M.2.1 pc = .ok (.return_, 1)) (hr : M.2.2.2.1 = none) (hΦ : Φ (.inl none) h) : se_W G l d M pc L [] h C S Φ := by
  intro p e R s m args below meth c D dA A θ0 n0 mc ms θ H locs cells slots ls hs hd h1 h2 h3 h4
  refine W.widen (k := mc) (n := ms) (by omega) (by omega) (vx_ret ?_)
  exact W.vret hs.1 hs.2.1 (hs.2.2.2.1.trans hr) (fun t ht hW => ⟨⟨none, h, θ, hΦ, rfl, fun x hx => (by cases hx), by rw [ht]; exact hd.1, hd.2.1, hd.2.2.2.1, hd.2.2.2.2.2.2.2⟩, hd.2.2.1.F ht⟩) hd.2.2.1.2.2 hg hs.2.2.2.2.2.2.1
theorem se_iret {x : Int32} (hg : decode M.2.1 pc = .ok (.ireturn, 1)) (hr : M.2.2.2.1 = some .int) (hΦ : Φ (.inl (some (.int x))) h) : se_W G l d M pc L [.int x] h C S Φ := by
  intro p e R s m args below meth c D dA A θ0 n0 mc ms θ H locs cells slots ls hs hd h1 h2 h3 h4
  refine W.widen (k := mc) (n := ms) (by omega) (by omega) (vx_ret ?_)
  exact W.iret hs.1 hs.2.1 (hs.2.2.2.1.trans hr) (fun t ht hW => ⟨⟨some (.int x), h, θ, hΦ, rfl, fun y hy => by cases hy; exact se_i _ _, by rw [ht]; exact hd.1, hd.2.1, hd.2.2.2.1, hd.2.2.2.2.2.2.2⟩, hd.2.2.1.F ht⟩) hd.2.2.1.2.2 hg hs.2.2.2.2.2.2.1
theorem se_zret {x : Int32} (hg : decode M.2.1 pc = .ok (.ireturn, 1)) (hr : M.2.2.2.1 = some .boolean) (hx : x = 0 ∨ x = 1) (hΦ : Φ (.inl (some (.int x))) h) : se_W G l d M pc L [.int x] h C S Φ := by
  intro p e R s m args below meth c D dA A θ0 n0 mc ms θ H locs cells slots ls hs hd h1 h2 h3 h4
  refine W.widen (k := mc) (n := ms) (by omega) (by omega) (vx_ret ?_)
  have hn : narrow .boolean (.int x) = .int x := by rcases hx with rfl | rfl <;> decide
  exact W.zret hs.1 hs.2.1 (hs.2.2.2.1.trans hr) hn (fun t ht hW => ⟨⟨some (.int x), h, θ, hΦ, rfl, fun y hy => by cases hy; exact se_i _ _, by rw [ht]; exact hd.1, hd.2.1, hd.2.2.2.1, hd.2.2.2.2.2.2.2⟩, hd.2.2.1.F ht⟩) hd.2.2.1.2.2 hg hs.2.2.2.2.2.2.1
theorem se_lret {x : Int64} (hg : decode M.2.1 pc = .ok (.lreturn, 1)) (hr : M.2.2.2.1 = some .long) (hΦ : Φ (.inl (some (.long x))) h) : se_W G l d M pc L [.long x] h C S Φ := by
  intro p e R s m args below meth c D dA A θ0 n0 mc ms θ H locs cells slots ls hs hd h1 h2 h3 h4
  refine W.widen (k := mc) (n := ms) (by omega) (by omega) (vx_ret ?_)
  exact W.lret hs.1 hs.2.1 (hs.2.2.2.1.trans hr) (fun t ht hW => ⟨⟨some (.long x), h, θ, hΦ, rfl, fun y hy => by cases hy; exact se_j _ _, by rw [ht]; exact hd.1, hd.2.1, hd.2.2.2.1, hd.2.2.2.2.2.2.2⟩, hd.2.2.1.F ht⟩) hd.2.2.1.2.2 hg hs.2.2.2.2.2.2.1
theorem se_aret {r : Option Nat} {nm : String} (hg : decode M.2.1 pc = .ok (.areturn, 1)) (hr : M.2.2.2.1 = some (.object nm)) (hΦ : Φ (.inl (some (va_rf r))) h) : se_W G l d M pc L [va_rf r] h C S Φ := by
  intro p e R s m args below meth c D dA A θ0 n0 mc ms θ H locs cells slots ls hs hd h1 h2 h3 h4
  refine W.widen (k := mc) (n := ms) (by omega) (by omega) (vx_ret ?_)
  have hv : se_v θ (va_rf r) = .null ∨ ∃ a, se_v θ (va_rf r) = .ref a := by
    cases r with
    | none => exact Or.inl rfl
    | some a => exact Or.inr ⟨θ a, rfl⟩
  exact W.aret (v := se_v θ (va_rf r)) hs.1 hs.2.1 (hs.2.2.2.1.trans hr) (Or.inl ⟨nm, rfl⟩) hv (fun t ht hW => ⟨⟨some (va_rf r), h, θ, hΦ, rfl, fun y hy => by cases hy; exact hd.wst _ List.mem_cons_self, by rw [ht]; exact hd.1, hd.2.1, hd.2.2.2.1, hd.2.2.2.2.2.2.2⟩, hd.2.2.1.F ht⟩) hd.2.2.1.2.2 hg hs.2.2.2.2.2.2.1
/-! ===== contracts and calls ===== -/
def se_mok (G : se_G) (M : se_M) (n : Nat) : Prop := plainName M.1.cls = true ∧ M.2.2.2.2 = [] ∧ Cond.code M.1 M.2.1 M.2.2.1 M.2.2.2.1 ∈ G.2.1 ∧ (M.1.cls ≠ "java/lang/invoke/MethodHandle" ∧ M.1.cls ≠ "java/lang/invoke/VarHandle" ∧ (parseMethodDescriptor M.1.desc).map (fun d => d.parameters.length) = some n) ∧ M.2.2.1 ≤ 14
def se_ws (G : se_G) (M : se_M) : List Cond := Cond.code M.1 M.2.1 M.2.2.1 M.2.2.2.1 :: G.2.1
abbrev se_rm (d C S : Nat) : Room := { frames := d, cells := C, slots := S, locals := 33 * d + 41 }
def se_Pc (G : se_G) (D : va_G) (dA : FieldType → ClassId) (θ : Nat → Nat) (vs : List Value) (h : se_H) (sz : Nat) : Array Value → State → Prop :=
  va_Pc (vs.map (se_v θ)) (fun U => U.heap.size = sz ∧ va_P D G.1 (se_w dA θ h) U.heap ∧ va_K D G.1 (se_tys G dA) U ∧ va_D (fun _ => True) (se_w dA θ h) ∧ se_Z G (va_A (se_w dA θ h) sz) U)
theorem se_met {n : Nat} {vs : List Value} (hm : se_mok G M n) (hl : l.stackTraces = false) (hlen : (se_sl vs).length ≤ M.2.2.1) (hwv : ∀ v ∈ vs, se_wv h.length v) (hwh : se_wh h) (k : se_W G l d M 0 (se_ent M.2.2.1 vs) [] h C S Φ) (D : va_G) (dA : FieldType → ClassId) (θ : Nat → Nat) (sz : Nat) :
    vx_Met l M.1 (se_ws G M) (se_rm d C S) (se_Pc G D dA θ vs h sz) (se_Q G D dA (va_A (se_w dA θ h) sz) θ h.length Φ) (se_X G D dA (va_A (se_w dA θ h) sz) θ h.length Φ) C S (va_A (se_w dA θ h) sz) := by
  refine vx_ofW (cc := M.2.1) (maxL := M.2.2.1) (ret := M.2.2.2.1) hm.1 rfl ?_
  intro p e s m args below meth c s₁ B hml htab hv
  obtain ⟨rfl, hsz, hP, hK, hD0, hZ⟩ := hv
  subst hsz
  rw [lg_entry_eq]
  have htb : c.exceptionTable.toList = tableOf M.2.2.2.2 := by
    rw [hm.2.1]
    exact List.eq_nil_iff_forall_not_mem.mpr (fun x hx => htab x hx)
  exact k p e _ s m _ below meth c D dA (va_A (se_w dA θ h) s.heap.size) θ h.length C S θ s.heap [] 0 0 _
    ⟨B.exec, B.bytes, hml, B.returns, findClass_of_methodNamed B.named, fun w hw => atoms_spec (ws := se_ws G M) B.pre w (List.mem_cons_of_mem _ hw), B.notSynchronized, htb, hK, fun q hq => Or.inr hq, hZ, ⟨Nat.le_refl _, Nat.le_refl _⟩, (name_of_methodNamed B.named B.method).1, hl⟩
    ⟨hP, hD0.self, va_S.rf, hwh, fun v hv => (by cases hv), se_ent_L hlen, fun i v hv => hwv v (se_sl_mem (se_ent_at hv)), Nat.le_refl _, fun _ _ => rfl⟩ (by omega) (by omega) (Nat.le_refl _) (Nat.le_refl _)
theorem se_good (hok : se_ok G) {ws : List Cond} (hw : ∀ w ∈ ws, w ∈ G.2.1) : GoodIn G.2.1 ws := fun w h => ⟨hw w h, good_of_word (hok.1 w (hw w h))⟩
theorem se_ws_in {n : Nat} (hm : se_mok G M n) : ∀ w ∈ se_ws G M, w ∈ G.2.1 := fun w hw => (List.mem_cons.mp hw).elim (fun e => by rw [e]; exact hm.2.2.1) id
theorem se_sub {D : va_G} {dA : FieldType → ClassId} {A : Nat → Prop} {θ0 : Nat → Nat} {n0 : Nat} {θ : Nat → Nat} {s : State} {H : Heap} {locs : List Loc} {ls : Array Slot} (hA : ∀ q, s.heap.size ≤ q → A q) (hd : se_Dy G M D dA A θ0 n0 θ s h H locs L st ls) : ∀ q, va_A (se_w dA θ h) H.size q → A q := by
  intro q hq
  rcases hq with ⟨k, e, hk⟩ | hq
  · exact hd.2.1.2 k (q, e) hk
  · exact hA q (Nat.le_trans hd.2.2.1.1 hq)
theorem se_Z_at {D : va_G} {dA : FieldType → ClassId} {A : Nat → Prop} {θ0 : Nat → Nat} {n0 : Nat} {θ : Nat → Nat} {s U : State} {H : Heap} {locs : List Loc} {ls : Array Slot} (hok : se_ok G) (hA : ∀ q, s.heap.size ≤ q → A q) (hd : se_Dy G M D dA A θ0 n0 θ s h H locs L st ls) (hZ : se_Z G A s) (hU : U.heap = H) (hW : s.WarmedH U.vm) : se_Z G (va_A (se_w dA θ h) H.size) U := by
  obtain ⟨z1, z2, z3, z4, z5⟩ := hZ
  have hsub := se_sub hA hd
  refine ⟨?_, ?_, fun q hq => ?_, fun w hw => hok.2 w hw s U hW (z4 w hw), fun q hq => ⟨?_, fun z => (z5 q hq).2 (hsub _ z)⟩⟩
  · rw [hU]; exact (vx_Zq.moved hW.alike (z1.kept hd.2.2.1.2.1)).narrow hsub
  · rw [hU]; exact (vx_Zq.moved hW.alike (z2.kept hd.2.2.1.2.1)).narrow hsub
  · obtain ⟨a, ha⟩ := z3 q hq
    exact ⟨a, vk_R.warm hW ha⟩
  · obtain ⟨x1, x2⟩ := z5 q hq
    obtain ⟨scr, y1, -⟩ := id x1
    rw [hU]
    exact va_X.moved hW.alike (x1.kept (hd.2.2.1.2.1 q.1 (Array.getElem?_eq_some_iff.mp y1).1 x2))
theorem se_blind (hok : se_ok G) (D : va_G) (dA : FieldType → ClassId) (θ : Nat → Nat) (vs : List Value) (h : se_H) (sz : Nat) : FrameBlind (se_Pc G D dA θ vs h sz) := by
  intro a U g mk q
  obtain ⟨q0, q1, q2, q3, q4, z1, z2, z3, z4, z5⟩ := q
  refine ⟨q0, q1, q2, va_K.moved (u := U) (U := U.calling g mk a) (Vm.Alike.refl U.vm) q3, q4, vx_Zq.moved (u := U) (U := U.calling g mk a) (Vm.Alike.refl U.vm) z1, vx_Zq.moved (u := U) (U := U.calling g mk a) (Vm.Alike.refl U.vm) z2, fun q hq => ?_, fun w hw => hok.2 w hw U (U.calling g mk a) (State.WarmedH.refl U) (z4 w hw), fun q hq => ⟨va_X.moved (u := U) (U := U.calling g mk a) (Vm.Alike.refl U.vm) (z5 q hq).1, (z5 q hq).2⟩⟩
  obtain ⟨x, hx⟩ := z3 q hq
  exact ⟨x, vk_R.warm (s := U) (U := U.calling g mk a) (State.WarmedH.refl U) hx⟩
theorem se_pre {D : va_G} {dA : FieldType → ClassId} {A : Nat → Prop} {θ0 : Nat → Nat} {n0 : Nat} {θ : Nat → Nat} {p : Program} {R : Room} {s : State} {m : MethodId} {args : Array Value} {meth : Method} {c : Code} {H : Heap} {locs : List Loc} {ls : Array Slot} (hok : se_ok G) (hs : se_St G l d M p R s m args meth c D dA A) (hd : se_Dy G M D dA A θ0 n0 θ s h H locs L st ls) (vs : List Value) : PreS s H (se_Pc G D dA θ vs h H.size) (vs.map (se_v θ)) :=
  ⟨se_blind hok D dA θ vs h H.size, fun U hU hW => ⟨rfl, by rw [hU], by rw [hU]; exact hd.1, va_K.moved hW.alike hs.2.2.2.2.2.2.2.2.1, hd.2.1.weaken (fun _ _ _ _ => trivial), se_Z_at hok hs.2.2.2.2.2.2.2.2.2.1 hd hs.2.2.2.2.2.2.2.2.2.2.1 hU hW⟩⟩
/-- the room under a frame -/
theorem se_room {m : MethodId} {ls : Array Slot} {x : List Value} (θ : Nat → Nat) (h8 : (st.map fun v => v.category).sum ≤ 8) : 2 * (F0 m pc ls x).monitorRoom + ((st.map (se_v θ)).map fun v => v.category).sum ≤ 8 := by
  refine lv_room ?_
  rw [List.map_map, show ((fun v : Value => v.category) ∘ se_v θ) = (fun v : Value => v.category) from funext (se_cat θ)]
  exact h8
/-- behind a call that comes back, or whose throw nobody here catches -/
theorem se_after {D : va_G} {dA : FieldType → ClassId} {A : Nat → Prop} {θ0 : Nat → Nat} {n0 : Nat} {θ : Nat → Nat} {p : Program} {e : Env} {R : Room} {s : State} {m : MethodId} {args : Array Value} {below : List Frame} {meth : Method} {c : Code} {H : Heap} {locs : List Loc} {ls : Array Slot} {cells slots mc ms C1 S1 C2 S2 : Nat} {st0 : List Value} {a : Array Value} {Ψ : se_O → se_H → Prop}
    (hr : vx_Run p l e R s m args below meth c H locs cells slots C1 S1 (F0 m pc ls st0) (st.map (se_v θ)) (se_Q G D dA (va_A (se_w dA θ h) H.size) θ h.length Ψ a) (se_X G D dA (va_A (se_w dA θ h) H.size) θ h.length Ψ) (va_A (se_w dA θ h) H.size))
    (hs : se_St G l d M p R s m args meth c D dA A) (hd : se_Dy G M D dA A θ0 n0 θ s h H locs L st ls) (h1 : cells + C ≤ mc) (h2 : slots + S ≤ ms) (h3 : mc ≤ R.cells) (h4 : ms ≤ R.slots) (hC : C1 + C2 ≤ C) (hS : S1 + S2 ≤ S)
    (kr : ∀ v h', h.length ≤ h'.length → Ψ (.inl v) h' → se_W G l d M (pc + 3) L (v.toList ++ st) h' C2 S2 Φ)
    (kx : ∀ E h' q ce (θ' : Nat → Nat) (H' : Heap) (locs' : List Loc), h.length ≤ h'.length → Ψ (.inr E) h' → se_Dy G M D dA A θ0 n0 θ' s h' H' locs' L st ls → (∀ k, k < h.length → θ' k = θ k) → H'[q]? = some ce → ce.vm = .none → s.vm.findClass E = some ce.cls → vx_W p l e R s m args below meth c H' locs' (cells + C1) (slots + S1) (vx_MQ below (se_Q G D dA A θ0 n0 Φ) (se_X G D dA A θ0 n0 Φ) args s mc ms A) (F0 m pc ls (st.map (se_v θ))) q) :
    W p l e R s m args below meth c H locs cells slots (vx_MQ below (se_Q G D dA A θ0 n0 Φ) (se_X G D dA A θ0 n0 Φ) args s mc ms A) (F0 m pc ls st0) := by
  have hsub := se_sub hs.2.2.2.2.2.2.2.2.2.1 hd
  have hdd := hd
  obtain ⟨a1, a2, a3, a4, a5, a6, a7, a8, a9⟩ := hd
  intro T hT X
  rcases hr T hT X with ⟨v0, st₀, t, T', L', g0, X', hL, e1, e2, ⟨⟨v, h', θ', b1, b2, b3, b4, b5, b6, b7, b8⟩, hF⟩, go⟩ | ⟨q, st₀, t, T', L', E, ce, g0, X', hL, e1, e2, ⟨⟨h', θ', b1, b4, b5, b6, b7, b8⟩, hF⟩, hce, hcv, hcl, go⟩
  · cases b2
    obtain ⟨k1, k2, k3⟩ := vx_keep g0 e1 a3 (fun q _ hq => hsub q hq) hsub hL hF
    have hdy : se_Dy G M D dA A θ0 n0 θ' s h' T'.heap (locs ++ L') L (v.toList ++ st) ls := by
      refine ⟨by rw [e1]; exact b4, b5.weaken (fun _ _ _ hq => hsub _ hq), k3, b6, fun w hw => ?_, se_L_congr a6 a7 b8, fun i w hw => se_wv_mono (a7 i w hw) b7, Nat.le_trans a8 b7, fun k hk => by rw [b8 k (Nat.lt_of_lt_of_le hk a8)]; exact a9 k hk⟩
      rcases List.mem_append.mp hw with hw | hw
      · cases v with
        | none => cases hw
        | some x =>
          rw [List.mem_singleton.mp hw]
          exact b3 x rfl
      · exact se_wv_mono (a5 w hw) b7
    obtain ⟨t2, z1, z2⟩ := kr v h' b7 b1 p e R s m args below meth c D dA A θ0 n0 mc ms θ' T'.heap (locs ++ L') (cells + C1) (slots + S1) ls hs hdy (by omega) (by omega) h3 h4 T' rfl X'
    refine ⟨t2, go t2 ?_, z2⟩
    have e9 : (v.toList ++ st).map (se_v θ') = (v.map (se_v θ')).toList ++ st.map (se_v θ) := by
      rw [List.map_append, se_vs_congr a5 b8]
      cases v <;> rfl
    rw [e9] at z1
    exact z1
  · obtain ⟨k1, k2, k3⟩ := vx_keep g0 e1 a3 (fun q _ hq => hsub q hq) hsub hL hF
    have hdy : se_Dy G M D dA A θ0 n0 θ' s h' T'.heap (locs ++ L') L st ls :=
      ⟨by rw [e1]; exact b4, b5.weaken (fun _ _ _ hq => hsub _ hq), k3, b6, fun w hw => se_wv_mono (a5 w hw) b7, se_L_congr a6 a7 b8, fun i w hw => se_wv_mono (a7 i w hw) b7, Nat.le_trans a8 b7, fun k hk => by rw [b8 k (Nat.lt_of_lt_of_le hk a8)]; exact a9 k hk⟩
    obtain ⟨t2, z1, z2⟩ := kx E h' q ce θ' T'.heap (locs ++ L') b7 b1 hdy b8 (by rw [e1]; exact hce) hcv hcl T' rfl X'
    exact ⟨t2, go.trans z1, z2⟩
/-- nobody catches here -/
theorem se_outX {D : va_G} {dA : FieldType → ClassId} {A : Nat → Prop} {θ0 : Nat → Nat} {n0 : Nat} {θ : Nat → Nat} {p : Program} {e : Env} {R : Room} {s : State} {m : MethodId} {args : Array Value} {below : List Frame} {meth : Method} {c : Code} {H : Heap} {locs : List Loc} {ls : Array Slot} {cells slots mc ms : Nat} {rest : List Value} {E : String} {ce : Cell} {q : Addr}
    (hs : se_St G l d M p R s m args meth c D dA A) (hd : se_Dy G M D dA A θ0 n0 θ s h H locs L st ls) (hh : ∀ x ∈ M.2.2.2.2, ¬ (x.1 ≤ pc ∧ pc < x.2.1)) (hc : cells ≤ mc) (hS : slots ≤ ms) (hce : H[q]? = some ce) (hcv : ce.vm = .none) (hcl : s.vm.findClass E = some ce.cls) (hΦ : Φ (.inr E) h) :
    vx_W p l e R s m args below meth c H locs cells slots (vx_MQ below (se_Q G D dA A θ0 n0 Φ) (se_X G D dA A θ0 n0 Φ) args s mc ms A) (F0 m pc ls rest) q := by
  refine vx_out (E := E) (ce := ce) (fun x hx => ?_) hs.2.2.2.2.2.2.1 hce hcv hcl (fun t ht _ => ⟨⟨h, θ, hΦ, by rw [ht]; exact hd.1, hd.2.1, hd.2.2.2.1, hd.2.2.2.2.2.2.2⟩, hd.2.2.1.F ht⟩) hd.2.2.1.2.2 hc hS
  rw [hs.2.2.2.2.2.2.2.1] at hx
  obtain ⟨y, hy, rfl⟩ := List.mem_map.mp hx
  have := hh y hy
  simp only [covers]
  simpa using this
theorem se_invV {M' : se_M} {T : u_T} {n N ci index a : Nat} {fs as : List Value} {Ψ : se_O → se_H → Prop} {C1 S1 C2 S2 : Nat} (hok : se_ok G) (hm : se_mok G M' n) (hg : decode M.2.1 pc = .ok (.invokevirtual index, 3)) (hw : Cond.methodLink M.1.cls index M'.1 ∈ G.2.1 ∧ Cond.instanceMethod M'.1 ∈ G.2.1 ∧ Cond.selects M'.1.cls M'.1 M'.1 ∈ G.2.1 ∧ Cond.initialized M'.1.cls ∈ G.2.1) (hci : G.1[ci]? = some (M'.1.cls, T, N)) (ha : h[a]? = some (.inr (ci, fs))) (hn : as.length = n) (hln : (se_sl (.ref a :: as)).length ≤ M'.2.2.1) (h8 : (st.map fun v => v.category).sum ≤ 8)
    (callee : se_W G l d M' 0 (se_ent M'.2.2.1 (.ref a :: as)) [] h C1 S1 Ψ) (hC : C1 + C2 ≤ C) (hS : S1 + S2 ≤ S)
    (kr : ∀ v h', h.length ≤ h'.length → Ψ (.inl v) h' → se_W G l (d + 1) M (pc + 3) L (v.toList ++ st) h' C2 S2 Φ)
    (hh : ∀ x ∈ M.2.2.2.2, ¬ (x.1 ≤ pc ∧ pc < x.2.1)) (kx : ∀ E h', h.length ≤ h'.length → Ψ (.inr E) h' → Φ (.inr E) h') : se_W G l (d + 1) M pc L (as.reverse ++ .ref a :: st) h C S Φ := by
  intro p e R s m args below meth c D dA A θ0 n0 mc ms θ H locs cells slots ls hs hd h1 h2 h3 h4
  have hst : ∀ v ∈ st, se_wv h.length v := fun v hv => hd.wst v (List.mem_append_right _ (List.mem_cons_of_mem _ hv))
  have hvs : ∀ v ∈ Value.ref a :: as, se_wv h.length v := se_push (hd.wst _ (List.mem_append_right _ List.mem_cons_self)) (fun v hv => hd.wst v (List.mem_append_left _ (List.mem_reverse.mpr hv)))
  have hM := se_met hm hs.2.2.2.2.2.2.2.2.2.2.2.2.2 hln hvs hd.2.2.2.1 callee D dA θ H.size
  have hp := se_pre hok hs hd (.ref a :: as)
  have hgi : GoodIn G.2.1 (wsV M.1.cls index M'.1.cls M'.1 (se_ws G M')) := se_good hok (fun w hw' => by
    rcases List.mem_append.mp hw' with q | q
    · simp only [List.mem_cons, List.not_mem_nil, or_false] at q
      rcases q with rfl | rfl | rfl | rfl
      · exact hw.1
      · exact hw.2.1
      · exact hw.2.2.1
      · exact hw.2.2.2
    · exact se_ws_in hm w q)
  have hrec : ∃ cell : Cell, H[θ a]? = some cell ∧ cell.vm.isStatics = false ∧ s.vm.findClass M'.1.cls = some cell.cls := va_recv hs.2.2.2.2.2.2.2.2.1 hd.1 hci (se_w_at ha)
  have hfr := hs.2.2.2.2.2.2.2.2.2.2.2.1
  have hm5 := hm.2.2.2.2
  have hrun := vx_runV (p := p) (l := l) (e := e) (R := R) (s := s) (m := m) (args := args) (below := below) (meth := meth) (c := c) (H := H) (locs := locs) (cells := cells) (slots := slots) (As := as.map (se_v θ)) (rest := st.map (se_v θ)) (b := θ a) (g := F0 m pc ls ((as.reverse ++ .ref a :: st).map (se_v θ))) (nL := M.2.2.1) (Ts := G.2.1) ⟨hs.1, hs.2.1, hs.2.2.1, hs.2.2.2.2.1, hs.2.2.2.2.2.1⟩ hM
    (cwV n hs.2.2.2.2.2.1 hgi rfl rfl rfl ⟨rfl, hm.2.2.2.1⟩ ⟨by show d + 1 ≤ R.frames; omega, by show 8 + (M'.2.2.1 + 11) + (33 * d + 41) ≤ R.locals; omega⟩) ⟨hp.1, hrec, hp.2⟩ rfl (by rw [List.length_map]; exact hn) hd.2.2.2.2.2.1.1 (by rw [List.map_append, List.map_reverse]; rfl) (se_room θ h8) hg ⟨by omega, by omega⟩
  refine se_after hrun hs (hd.stk hst) h1 h2 h3 h4 hC hS kr (fun E h' q ce θ' H' locs' hle hΨ hd' hθ hce hcv hcl => ?_)
  exact se_outX hs hd' hh (by omega) (by omega) hce hcv hcl (kx E h' hle hΨ)
theorem se_invS {M' : se_M} {n index : Nat} {as : List Value} {Ψ : se_O → se_H → Prop} {C1 S1 C2 S2 : Nat} (hok : se_ok G) (hm : se_mok G M' n) (hg : decode M.2.1 pc = .ok (.invokestatic index, 3)) (hw : Cond.methodLink M.1.cls index M'.1 ∈ G.2.1 ∧ Cond.static M'.1 ∈ G.2.1 ∧ Cond.initialized M'.1.cls ∈ G.2.1) (hn : as.length = n) (hln : (se_sl as).length ≤ M'.2.2.1) (h8 : (st.map fun v => v.category).sum ≤ 8)
    (callee : se_W G l d M' 0 (se_ent M'.2.2.1 as) [] h C1 S1 Ψ) (hC : C1 + C2 ≤ C) (hS : S1 + S2 ≤ S)
    (kr : ∀ v h', h.length ≤ h'.length → Ψ (.inl v) h' → se_W G l (d + 1) M (pc + 3) L (v.toList ++ st) h' C2 S2 Φ)
    (hh : ∀ x ∈ M.2.2.2.2, ¬ (x.1 ≤ pc ∧ pc < x.2.1)) (kx : ∀ E h', h.length ≤ h'.length → Ψ (.inr E) h' → Φ (.inr E) h') : se_W G l (d + 1) M pc L (as.reverse ++ st) h C S Φ := by
  intro p e R s m args below meth c D dA A θ0 n0 mc ms θ H locs cells slots ls hs hd h1 h2 h3 h4
  have hst : ∀ v ∈ st, se_wv h.length v := fun v hv => hd.wst v (List.mem_append_right _ hv)
  have hvs : ∀ v ∈ as, se_wv h.length v := fun v hv => hd.wst v (List.mem_append_left _ (List.mem_reverse.mpr hv))
  have hM := se_met hm hs.2.2.2.2.2.2.2.2.2.2.2.2.2 hln hvs hd.2.2.2.1 callee D dA θ H.size
  have hp := se_pre hok hs hd as
  have hgi : GoodIn G.2.1 (va_wsS M.1.cls index M'.1 (se_ws G M')) := se_good hok (fun w hw' => by
    rcases List.mem_append.mp hw' with q | q
    · simp only [List.mem_cons, List.not_mem_nil, or_false] at q
      rcases q with rfl | rfl | rfl
      · exact hw.1
      · exact hw.2.1
      · exact hw.2.2
    · exact se_ws_in hm w q)
  have hfr := hs.2.2.2.2.2.2.2.2.2.2.2.1
  have hm5 := hm.2.2.2.2
  have hrun := vx_runS (p := p) (l := l) (e := e) (R := R) (s := s) (m := m) (args := args) (below := below) (meth := meth) (c := c) (H := H) (locs := locs) (cells := cells) (slots := slots) (As := as.map (se_v θ)) (rest := st.map (se_v θ)) (g := F0 m pc ls ((as.reverse ++ st).map (se_v θ))) (nL := M.2.2.1) (Ts := G.2.1) ⟨hs.1, hs.2.1, hs.2.2.1, hs.2.2.2.2.1, hs.2.2.2.2.2.1⟩ hM
    (va_cwS n hs.2.2.2.2.2.1 hgi rfl rfl rfl hm.2.2.2.1 ⟨by show d + 1 ≤ R.frames; omega, by show 8 + (M'.2.2.1 + 11) + (33 * d + 41) ≤ R.locals; omega⟩) hp rfl (by rw [List.length_map]; exact hn) hd.2.2.2.2.2.1.1 (by rw [List.map_append, List.map_reverse]) (se_room θ h8) hg ⟨by omega, by omega⟩
  refine se_after hrun hs (hd.stk hst) h1 h2 h3 h4 hC hS kr (fun E h' q ce θ' H' locs' hle hΨ hd' hθ hce hcv hcl => ?_)
  exact se_outX hs hd' hh (by omega) (by omega) hce hcv hcl (kx E h' hle hΨ)
/-- a contract without a throw -/
theorem se_metN {y : MethodName} {ws : List Cond} {rm : Room} {Pc : Array Value → State → Prop} {Qc : Array Value → State → Outcome → State → Prop} {XC : String → State → State → Prop} {mc ms : Nat} {free : Addr → Prop} (hM : vx_Met l y ws rm Pc Qc XC mc ms free) (hX : ∀ E s t, ¬ XC E s t) : Met l y ws rm Pc Qc mc ms free := by
  intro p e a1 a2 a3 s m args below a4 a5 a6 a7
  obtain ⟨n, o, b1, b2, b3, b4⟩ := hM p e a1 a2 a3 s m args below a4 a5 a6 a7
  refine ⟨n, o, b1, b2, b3, ?_⟩
  rcases b4 with b4 | ⟨q, b4, E, ce, L', hx, -⟩
  · exact b4
  · exact absurd hx (hX _ _ _)
/-- behind a call that comes back -/
theorem se_afterN {D : va_G} {dA : FieldType → ClassId} {A : Nat → Prop} {θ0 : Nat → Nat} {n0 : Nat} {θ : Nat → Nat} {p : Program} {e : Env} {R : Room} {s : State} {m : MethodId} {args : Array Value} {below : List Frame} {meth : Method} {c : Code} {H : Heap} {locs : List Loc} {ls : Array Slot} {cells slots mc ms C1 S1 C2 S2 : Nat} {st0 : List Value} {a : Array Value} {Ψ : se_O → se_H → Prop}
    (hr : va_Run p l e R s m args below meth c H locs cells slots C1 S1 (F0 m pc ls st0) (st.map (se_v θ)) (se_Q G D dA (va_A (se_w dA θ h) H.size) θ h.length Ψ a) (va_A (se_w dA θ h) H.size))
    (hs : se_St G l d M p R s m args meth c D dA A) (hd : se_Dy G M D dA A θ0 n0 θ s h H locs L st ls) (h1 : cells + C ≤ mc) (h2 : slots + S ≤ ms) (h3 : mc ≤ R.cells) (h4 : ms ≤ R.slots) (hC : C1 + C2 ≤ C) (hS : S1 + S2 ≤ S)
    (kr : ∀ v h', h.length ≤ h'.length → Ψ (.inl v) h' → se_W G l d M (pc + 3) L (v.toList ++ st) h' C2 S2 Φ) :
    W p l e R s m args below meth c H locs cells slots (vx_MQ below (se_Q G D dA A θ0 n0 Φ) (se_X G D dA A θ0 n0 Φ) args s mc ms A) (F0 m pc ls st0) := by
  refine se_after (Ψ := fun o h => Ψ o h ∧ ∃ v, o = .inl v) (a := a) (fun T hT X => ?_) hs hd h1 h2 h3 h4 hC hS (fun v h' hle hv => kr v h' hle hv.1) (fun E h' q ce θ' H' locs' hle hΨ => absurd hΨ.2 (fun z => by obtain ⟨v, hv⟩ := z; cases hv))
  obtain ⟨v, st₀, t, T', L', g0, X', hL, e1, e2, ⟨⟨v', h', θ', b1, b2⟩, hF⟩, go⟩ := hr T hT X
  exact Or.inl ⟨v, st₀, t, T', L', g0, X', hL, e1, e2, ⟨⟨v', h', θ', ⟨b1, v', rfl⟩, b2⟩, hF⟩, go⟩
theorem se_invI {M' : se_M} {n index a : Nat} {as : List Value} {Ψ : se_O → se_H → Prop} {C1 S1 C2 S2 : Nat} (hok : se_ok G) (hm : se_mok G M' n) (hg : decode M.2.1 pc = .ok (.invokespecial index, 3)) (hM1 : M'.1.name = "<init>" ∧ M'.2.2.2.1 = none) (hw : Cond.methodLink M.1.cls index M'.1 ∈ G.2.1 ∧ Cond.instanceMethod M'.1 ∈ G.2.1 ∧ Cond.initialized M'.1.cls ∈ G.2.1) (hn : as.length = n) (hln : (se_sl (.ref a :: as)).length ≤ M'.2.2.1) (h8 : (st.map fun v => v.category).sum ≤ 8)
    (callee : se_W G l d M' 0 (se_ent M'.2.2.1 (.ref a :: as)) [] h C1 S1 Ψ) (hno : ∀ E h', ¬ Ψ (.inr E) h') (hC : C1 + C2 ≤ C) (hS : S1 + S2 ≤ S)
    (kr : ∀ v h', h.length ≤ h'.length → Ψ (.inl v) h' → se_W G l (d + 1) M (pc + 3) L (v.toList ++ st) h' C2 S2 Φ) : se_W G l (d + 1) M pc L (as.reverse ++ .ref a :: st) h C S Φ := by
  intro p e R s m args below meth c D dA A θ0 n0 mc ms θ H locs cells slots ls hs hd h1 h2 h3 h4
  have hst : ∀ v ∈ st, se_wv h.length v := fun v hv => hd.wst v (List.mem_append_right _ (List.mem_cons_of_mem _ hv))
  have hvs : ∀ v ∈ Value.ref a :: as, se_wv h.length v := se_push (hd.wst _ (List.mem_append_right _ List.mem_cons_self)) (fun v hv => hd.wst v (List.mem_append_left _ (List.mem_reverse.mpr hv)))
  have hM := se_metN (se_met hm hs.2.2.2.2.2.2.2.2.2.2.2.2.2 hln hvs hd.2.2.2.1 callee D dA θ H.size) (fun E s t q => by obtain ⟨⟨h', _, q1, -⟩, -⟩ := q; exact hno E h' q1)
  have hp := se_pre hok hs hd (.ref a :: as)
  have hfr := hs.2.2.2.2.2.2.2.2.2.2.2.1
  have hm5 := hm.2.2.2.2
  have hws : se_ws G M' = Cond.code M'.1 M'.2.1 M'.2.2.1 none :: G.2.1 := by show Cond.code M'.1 M'.2.1 M'.2.2.1 M'.2.2.2.1 :: G.2.1 = _; rw [hM1.2]
  have hrun := va_runI (p := p) (l := l) (e := e) (R := R) (s := s) (m := m) (args := args) (below := below) (meth := meth) (c := c) (H := H) (locs := locs) (cells := cells) (slots := slots) (As := as.map (se_v θ)) (rest := st.map (se_v θ)) (b := θ a) (g := F0 m pc ls ((as.reverse ++ .ref a :: st).map (se_v θ))) (nL := M.2.2.1) (Ts := G.2.1) ⟨hs.1, hs.2.1, hs.2.2.1, hs.2.2.2.2.1, hs.2.2.2.2.2.1⟩ hM
    (cwI n hs.2.2.2.2.2.1 (se_good hok (se_ws_in hm)) hws rfl rfl (hs.2.2.2.2.2.1 _ hw.2.2) (hs.2.2.2.2.2.1 _ hw.1) (hs.2.2.2.2.2.1 _ hw.2.1) hM1.1 hm.2.2.2.1 ⟨by show d + 1 ≤ R.frames; omega, by show 8 + (M'.2.2.1 + 11) + (33 * d + 41) ≤ R.locals; omega⟩) hp rfl (by rw [List.length_map]; exact hn) hd.2.2.2.2.2.1.1 (by rw [List.map_append, List.map_reverse]; rfl) (se_room θ h8) hg ⟨by omega, by omega⟩
  exact se_afterN hrun hs (hd.stk hst) h1 h2 h3 h4 hC hS kr
theorem se_invIN {M' : se_M} {n index a : Nat} {host : String} {as : List Value} {Ψ : se_O → se_H → Prop} {C1 S1 C2 S2 : Nat} (hok : se_ok G) (hm : se_mok G M' n) (hg : decode M.2.1 pc = .ok (.invokespecial index, 3)) (hM1 : M'.1.name = "<init>" ∧ M'.2.2.2.1 = none) (hw : Cond.methodLinkNest M.1.cls index M'.1 host ∈ G.2.2.2.2.1 ∧ Cond.instanceMethod M'.1 ∈ G.2.1 ∧ Cond.initialized M'.1.cls ∈ G.2.1) (hn : as.length = n) (hln : (se_sl (.ref a :: as)).length ≤ M'.2.2.1) (h8 : (st.map fun v => v.category).sum ≤ 8)
    (callee : se_W G l d M' 0 (se_ent M'.2.2.1 (.ref a :: as)) [] h C1 S1 Ψ) (hno : ∀ E h', ¬ Ψ (.inr E) h') (hC : C1 + C2 ≤ C) (hS : S1 + S2 ≤ S)
    (kr : ∀ v h', h.length ≤ h'.length → Ψ (.inl v) h' → se_W G l (d + 1) M (pc + 3) L (v.toList ++ st) h' C2 S2 Φ) : se_W G l (d + 1) M pc L (as.reverse ++ .ref a :: st) h C S Φ := by
  intro p e R s m args below meth c D dA A θ0 n0 mc ms θ H locs cells slots ls hs hd h1 h2 h3 h4
  have hst : ∀ v ∈ st, se_wv h.length v := fun v hv => hd.wst v (List.mem_append_right _ (List.mem_cons_of_mem _ hv))
  have hvs : ∀ v ∈ Value.ref a :: as, se_wv h.length v := se_push (hd.wst _ (List.mem_append_right _ List.mem_cons_self)) (fun v hv => hd.wst v (List.mem_append_left _ (List.mem_reverse.mpr hv)))
  have hM := se_metN (se_met hm hs.2.2.2.2.2.2.2.2.2.2.2.2.2 hln hvs hd.2.2.2.1 callee D dA θ H.size) (fun E s t q => by obtain ⟨⟨h', _, q1, -⟩, -⟩ := q; exact hno E h' q1)
  have hp := se_pre hok hs hd (.ref a :: as)
  have hfr := hs.2.2.2.2.2.2.2.2.2.2.2.1
  have hm5 := hm.2.2.2.2
  have hws : se_ws G M' = Cond.code M'.1 M'.2.1 M'.2.2.1 none :: G.2.1 := by show Cond.code M'.1 M'.2.1 M'.2.2.1 M'.2.2.2.1 :: G.2.1 = _; rw [hM1.2]
  have hrun := va_runIN (p := p) (l := l) (e := e) (R := R) (s := s) (m := m) (args := args) (below := below) (meth := meth) (c := c) (H := H) (locs := locs) (cells := cells) (slots := slots) (As := as.map (se_v θ)) (rest := st.map (se_v θ)) (b := θ a) (g := F0 m pc ls ((as.reverse ++ .ref a :: st).map (se_v θ))) (nL := M.2.2.1) (Ts := G.2.1) ⟨hs.1, hs.2.1, hs.2.2.1, hs.2.2.2.2.1, hs.2.2.2.2.2.1⟩ hM
    ⟨va_cnB n hs.2.2.2.2.2.1 (se_good hok (se_ws_in hm)) hws rfl rfl (hs.2.2.2.2.2.2.2.2.2.2.1.2.2.2.1 _ hw.1) (hs.2.2.2.2.2.1 _ hw.2.2) hm.2.2.2.1 ⟨by show d + 1 ≤ R.frames; omega, by show 8 + (M'.2.2.1 + 11) + (33 * d + 41) ≤ R.locals; omega⟩, hM1.1, hs.2.2.2.2.2.1 _ hw.2.1⟩ hp rfl (by rw [List.length_map]; exact hn) hd.2.2.2.2.2.1.1 (by rw [List.map_append, List.map_reverse]; rfl) (se_room θ h8) hg ⟨by omega, by omega⟩
  exact se_afterN hrun hs (hd.stk hst) h1 h2 h3 h4 hC hS kr
theorem se_objInit {idx a : Nat} (hd1 : 1 ≤ d) (hg : decode M.2.1 pc = .ok (.invokespecial idx, 3)) (hw : Cond.methodLink M.1.cls idx Lib.objectInit ∈ G.2.1 ∧ Cond.instanceMethod Lib.objectInit ∈ G.2.1 ∧ Cond.code Lib.objectInit ⟨#[0xb1]⟩ 1 none ∈ G.2.1) (h8 : (st.map fun v => v.category).sum ≤ 8) (k : se_W G l d M (pc + 3) L st h C S Φ) : se_W G l d M pc L (.ref a :: st) h C S Φ := by
  intro p e R s m args below meth c D dA A θ0 n0 mc ms θ H locs cells slots ls hs hd h1 h2 h3 h4
  have hfr := hs.2.2.2.2.2.2.2.2.2.2.2.1
  have h9 := se_room (m := m) (pc := pc) (ls := ls) (x := (Value.ref a :: st).map (se_v θ)) θ h8
  refine W.objInit hs.1 hs.2.1 hs.2.2.2.2.1 (hs.2.2.2.2.2.1 _ hw.1) (hs.2.2.2.2.2.1 _ hw.2.1) (hs.2.2.2.2.2.1 _ hw.2.2) (g := F0 m pc ls ((Value.ref a :: st).map (se_v θ))) rfl (hd.2.2.2.2.2.1.1.trans hs.2.2.1.symm) (a := θ a) (rest := st.map (se_v θ)) rfl hg (by omega) (by omega) ?_
  exact k p e R s m args below meth c D dA A θ0 n0 mc ms θ H locs cells slots ls hs (hd.stk (se_pop hd.wst)) h1 h2 h3 h4
theorem se_maxL {index : Nat} {x y : Int64} (hd1 : 1 ≤ d) (hg : decode M.2.1 pc = .ok (.invokestatic index, 3)) (hw : Cond.methodLink M.1.cls index Lib.MathLoose.max_long.x ∈ G.2.1 ∧ Cond.static Lib.MathLoose.max_long.x ∈ G.2.1 ∧ Cond.initialized "java/lang/Math" ∈ G.2.1 ∧ Cond.code Lib.MathLoose.max_long.x Lib.MathLoose.max_long.code 4 (some .long) ∈ G.2.1) (h8 : (st.map fun v => v.category).sum ≤ 8) (k : se_W G l d M (pc + 3) L (.long (if y < x then x else y) :: st) h C S Φ) : se_W G l d M pc L (.long y :: .long x :: st) h C S Φ := by
  intro p e R s m args below meth c D dA A θ0 n0 mc ms θ H locs cells slots ls hs hd h1 h2 h3 h4
  have hfr := hs.2.2.2.2.2.2.2.2.2.2.2.1
  have h9 := se_room (m := m) (pc := pc) (ls := ls) (x := []) θ h8
  refine va_mmax_long hs.1 hs.2.1 (hs.2.2.1.trans hd.2.2.2.2.2.1.1.symm) hs.2.2.2.2.1 (hs.2.2.2.2.2.1 _ hw.1) (hs.2.2.2.2.2.1 _ hw.2.1) (hs.2.2.2.2.2.1 _ hw.2.2.1) (hs.2.2.2.2.2.1 _ hw.2.2.2) (by omega) (by omega) (by omega) (by omega) hg ?_
  exact k p e R s m args below meth c D dA A θ0 n0 mc ms θ H locs cells slots ls hs (hd.stk (se_push (se_j _ _) (se_pop (se_pop hd.wst)))) h1 h2 h3 h4
/-- throw new E("text") -/
theorem se_throwS {cls text : String} {names : List String} {ik is ic : Nat} (hok : se_ok G) (d0 : decode M.2.1 pc = .ok (.new ik, 3)) (d3 : decode M.2.1 (pc + 3) = .ok (.dup, 1)) (d4 : decode M.2.1 (pc + 4) = .ok (.ldc is, 2)) (d6 : decode M.2.1 (pc + 6) = .ok (.invokespecial ic, 3)) (d9 : decode M.2.1 (pc + 9) = .ok (.athrow, 1))
    (hcls : Bundle.fit cls = true) (hnames : ∀ n ∈ names, Bundle.fit n = true) (hk : Cond.classLink M.1.cls ik cls ∈ G.2.1) (hini : Cond.initialized cls ∈ G.2.1) (hstr : (M.1.cls, is, text) ∈ G.2.2.2.1) (hat : ∀ w ∈ vx_atS M.1.cls ic cls names, w ∈ G.2.1 ∨ (w ∈ G.2.2.2.2.1 ∧ w.onTables = true)) (hnl : names.length + 4 ≤ d ∧ names.length ≤ 4) (h8 : (st.map fun v => v.category).sum ≤ 8) (hh : M.2.2.2.2 = []) (hC : 1 ≤ C) (hS : 6 ≤ S) (hΦ : Φ (.inr cls) h) : se_W G l d M pc L st h C S Φ := by
  intro p e R s m args below meth c D dA A θ0 n0 mc ms θ H locs cells slots ls hs hd h1 h2 h3 h4
  have hfr := hs.2.2.2.2.2.2.2.2.2.2.2.1
  have h9 := se_room (m := m) (pc := pc) (ls := ls) (x := []) θ h8
  have hts := hs.2.2.2.2.2.1
  have hZ := hs.2.2.2.2.2.2.2.2.2.2.1
  obtain ⟨sa, hsa⟩ := hZ.2.2.1 _ hstr
  refine vx_throwS (cls := cls) (text := text) (names := names) (ik := ik) (is := is) (ic := ic) (sa := sa) (A := A) hs.1 hs.2.1 hs.2.2.2.2.2.2.2.2.2.2.2.2.2 hs.2.2.2.2.1 hcls hnames (hts _ hk) (hts _ hini) hsa (fun w hw => ?_) (fun w hw => ?_) hZ.1 hZ.2.1 hd.2.2.1 (hd.2.2.2.2.2.1.1.trans hs.2.2.1.symm) d0 d3 d4 d6 d9 (fun x hx => ?_) (by omega) (by omega) (by omega) (by omega) hs.2.2.2.2.2.2.1 (fun t hal hsz hkeep => ?_) hd.2.2.1.2.2 (by omega) (by omega)
  · rcases hat w hw with q | q
    · exact hts w q
    · exact va_Nw.use q.2 (hZ.2.2.2.1 w q.1)
  · have hgw : ∀ w, w ∈ G.2.1 → vx_ot w = true := fun w q => by simp only [vx_ot, hok.1 w q, Bool.or_true]
    rcases List.mem_cons.mp hw with rfl | hw
    · exact hgw _ hk
    · rcases List.mem_cons.mp hw with rfl | hw
      · exact hgw _ hini
      · rcases hat w hw with q | q
        · exact hgw w q
        · simp only [vx_ot, q.2, Bool.true_or]
  · rw [hs.2.2.2.2.2.2.2.1, hh] at hx
    cases hx
  · refine ⟨⟨h, θ, hΦ, hd.1.kept (fun k q hq => hkeep q.1 (hd.1 k q hq).lt), hd.2.1, hd.2.2.2.1, hd.2.2.2.2.2.2.2⟩, Nat.le_trans hd.2.2.1.1 hsz, fun q q1 q2 => ?_⟩
    rw [hkeep q (Nat.lt_of_lt_of_le q1 hd.2.2.1.1)]
    exact hd.2.2.1.2.1 q q1 q2
end SE2
