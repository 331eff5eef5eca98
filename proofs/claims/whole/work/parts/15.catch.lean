section SE3
variable {G : se_G} {l : Launch} {d : Nat} {M : se_M} {pc : Nat} {L : List (Option Value)} {st : List Value} {h : se_H} {C S : Nat} {Φ : se_O → se_H → Prop}
theorem se_q (n a : Nat) : se_wv n (.retAddr a) := fun k hk => by cases hk
theorem se_aload_nR {i : Fin 4} {x : Nat} (hl : L[(i : Nat)]? = some (some (.retAddr x))) (hg : decode M.2.1 pc = .ok (.aload_n i, 1)) (k : se_W G l d M (pc + 1) L (.retAddr x :: st) h C S Φ) : se_W G l d M pc L st h C S Φ := by
  intro p e R s m args below meth c D dA A θ0 n0 mc ms θ H locs cells slots ls hs hd h1 h2 h3 h4
  exact lv_aload_n hs.1 hs.2.1 hg rfl (hd.2.2.2.2.2.1.2.2.2 _ _ hl) (k p e R s m args below meth c D dA A θ0 n0 mc ms θ H locs cells slots ls hs (hd.stk (se_push (se_q _ _) hd.wst)) h1 h2 h3 h4)
theorem se_astore_nR {i : Fin 4} {x : Nat} (hg : decode M.2.1 pc = .ok (.astore_n i, 1)) (hi : (i : Nat) < M.2.2.1) (L' : List (Option Value)) (hL : se_s1 L (i : Nat) (.retAddr x) = L') (k : se_W G l d M (pc + 1) L' st h C S Φ) : se_W G l d M pc L (.retAddr x :: st) h C S Φ := by
  subst hL
  intro p e R s m args below meth c D dA A θ0 n0 mc ms θ H locs cells slots ls hs hd h1 h2 h3 h4 T hT X
  obtain ⟨ls', e', g'⟩ := se_store1 (v := .retAddr x) hd.2.2.2.2.2.1 hi rfl
  obtain ⟨t, a, b⟩ := k p e R s m args below meth c D dA A θ0 n0 mc ms θ H locs cells slots ls' hs (hd.loc g' (se_wL_s1 hd.2.2.2.2.2.2.1 (se_q _ _)) (se_pop hd.wst)) h1 h2 h3 h4 T hT X
  refine ⟨t, ?_, b⟩
  have hexec := hs.1
  have hb := hs.2.1
  simp only [List.map_cons, se_v] at e' ⊢
  jvm_step X.here [X.here.top, ↓top_set X.here.top, hexec, hb, hg, e', Value.isRef]
  exact a
theorem se_aloadR {i : Nat} {x : Nat} (hl : L[i]? = some (some (.retAddr x))) (hg : decode M.2.1 pc = .ok (.aload i, 2)) (k : se_W G l d M (pc + 2) L (.retAddr x :: st) h C S Φ) : se_W G l d M pc L st h C S Φ := by
  intro p e R s m args below meth c D dA A θ0 n0 mc ms θ H locs cells slots ls hs hd h1 h2 h3 h4
  exact lv_aload hs.1 hs.2.1 hg (hd.2.2.2.2.2.1.2.2.2 _ _ hl) (k p e R s m args below meth c D dA A θ0 n0 mc ms θ H locs cells slots ls hs (hd.stk (se_push (se_q _ _) hd.wst)) h1 h2 h3 h4)
theorem se_astoreR {i : Nat} {x : Nat} (hg : decode M.2.1 pc = .ok (.astore i, 2)) (hi : i < M.2.2.1) (L' : List (Option Value)) (hL : se_s1 L i (.retAddr x) = L') (k : se_W G l d M (pc + 2) L' st h C S Φ) : se_W G l d M pc L (.retAddr x :: st) h C S Φ := by
  subst hL
  intro p e R s m args below meth c D dA A θ0 n0 mc ms θ H locs cells slots ls hs hd h1 h2 h3 h4 T hT X
  obtain ⟨ls', e', g'⟩ := se_store1 (v := .retAddr x) hd.2.2.2.2.2.1 hi rfl
  obtain ⟨t, a, b⟩ := k p e R s m args below meth c D dA A θ0 n0 mc ms θ H locs cells slots ls' hs (hd.loc g' (se_wL_s1 hd.2.2.2.2.2.2.1 (se_q _ _)) (se_pop hd.wst)) h1 h2 h3 h4 T hT X
  refine ⟨t, ?_, b⟩
  have hexec := hs.1
  have hb := hs.2.1
  simp only [List.map_cons, se_v] at e' ⊢
  jvm_step X.here [X.here.top, ↓top_set X.here.top, hexec, hb, hg, e', Value.isRef]
  exact a
theorem se_sld {b N : Nat} {xs : Nat → Int32} {i : Int32} (hg : decode M.2.1 pc = .ok (.iaload, 1)) (hb : (b, N, xs) ∈ G.2.2.2.2.2) (hin : vp_in i N) (k : se_W G l d M (pc + 1) L (.int (xs i.toNatClampNeg) :: st) h C S Φ) : se_W G l d M pc L (.int i :: .retAddr b :: st) h C S Φ := by
  intro p e R s m args below meth c D dA A θ0 n0 mc ms θ H locs cells slots ls hs hd h1 h2 h3 h4
  obtain ⟨x1, x2⟩ := hs.2.2.2.2.2.2.2.2.2.2.1.2.2.2.2 _ hb
  obtain ⟨scr, y1, -⟩ := id x1
  exact va_sld hs.1 hs.2.1 x1 (Array.getElem?_eq_some_iff.mp y1).1 x2 hd.2.2.1 hin hg (k p e R s m args below meth c D dA A θ0 n0 mc ms θ H locs cells slots ls hs (hd.stk (se_push (se_i _ _) (se_pop (se_pop hd.wst)))) h1 h2 h3 h4)
theorem se_slen {b N : Nat} {xs : Nat → Int32} (hg : decode M.2.1 pc = .ok (.arraylength, 1)) (hb : (b, N, xs) ∈ G.2.2.2.2.2) (k : se_W G l d M (pc + 1) L (.int (Int32.ofNat N) :: st) h C S Φ) : se_W G l d M pc L (.retAddr b :: st) h C S Φ := by
  intro p e R s m args below meth c D dA A θ0 n0 mc ms θ H locs cells slots ls hs hd h1 h2 h3 h4
  obtain ⟨x1, x2⟩ := hs.2.2.2.2.2.2.2.2.2.2.1.2.2.2.2 _ hb
  obtain ⟨scr, y1, -⟩ := id x1
  exact va_slen hs.1 hs.2.1 x1 (Array.getElem?_eq_some_iff.mp y1).1 x2 hd.2.2.1 hg (k p e R s m args below meth c D dA A θ0 n0 mc ms θ H locs cells slots ls hs (hd.stk (se_push (se_i _ _) (se_pop hd.wst))) h1 h2 h3 h4)
/-- a method of ours with a table of handlers, called by its name: its contract -/
def se_mokH (G : se_G) (M : se_M) (n : Nat) : Prop := plainName M.1.cls = true ∧ Cond.codeWith M.1 M.2.1 M.2.2.1 M.2.2.2.1 M.2.2.2.2 ∈ G.2.1 ∧ (M.1.cls ≠ "java/lang/invoke/MethodHandle" ∧ M.1.cls ≠ "java/lang/invoke/VarHandle" ∧ (parseMethodDescriptor M.1.desc).map (fun d => d.parameters.length) = some n) ∧ M.2.2.1 ≤ 14
def se_wsH (G : se_G) (M : se_M) : List Cond := Cond.codeWith M.1 M.2.1 M.2.2.1 M.2.2.2.1 M.2.2.2.2 :: G.2.1
theorem se_wsH_in {n : Nat} (hm : se_mokH G M n) : ∀ w ∈ se_wsH G M, w ∈ G.2.1 := fun w hw => (List.mem_cons.mp hw).elim (fun e => by rw [e]; exact hm.2.1) id
theorem se_metH {n : Nat} {vs : List Value} (hm : se_mokH G M n) (hl : l.stackTraces = false) (hlen : (se_sl vs).length ≤ M.2.2.1) (hwv : ∀ v ∈ vs, se_wv h.length v) (hwh : se_wh h) (k : se_W G l d M 0 (se_ent M.2.2.1 vs) [] h C S Φ) (D : va_G) (dA : FieldType → ClassId) (θ : Nat → Nat) (sz : Nat) :
    vx_Met l M.1 (se_wsH G M) (se_rm d C S) (se_Pc G D dA θ vs h sz) (se_Q G D dA (va_A (se_w dA θ h) sz) θ h.length Φ) (se_X G D dA (va_A (se_w dA θ h) sz) θ h.length Φ) C S (va_A (se_w dA θ h) sz) := by
  refine vx_ofWH (cc := M.2.1) (maxL := M.2.2.1) (ret := M.2.2.2.1) (hh := M.2.2.2.2) hm.1 rfl ?_
  intro p e s m args below meth c s₁ B hml hv
  obtain ⟨rfl, hsz, hP, hK, hD0, hZ⟩ := hv
  subst hsz
  rw [lg_entry_eq]
  have htb : c.exceptionTable.toList = tableOf M.2.2.2.2 := vx_table (x := M.1) B (atoms_spec (ws := se_wsH G M) B.pre _ List.mem_cons_self)
  exact k p e _ s m _ below meth c D dA (va_A (se_w dA θ h) s.heap.size) θ h.length C S θ s.heap [] 0 0 _
    ⟨B.exec, B.bytes, hml, B.returns, findClass_of_methodNamed B.named, fun w hw => atoms_spec (ws := se_wsH G M) B.pre w (List.mem_cons_of_mem _ hw), B.notSynchronized, htb, hK, fun q hq => Or.inr hq, hZ, ⟨Nat.le_refl _, Nat.le_refl _⟩, (name_of_methodNamed B.named B.method).1, hl⟩
    ⟨hP, hD0.self, va_S.rf, hwh, fun v hv => (by cases hv), se_ent_L hlen, fun i v hv => hwv v (se_sl_mem (se_ent_at hv)), Nat.le_refl _, fun _ _ => rfl⟩ (by omega) (by omega) (Nat.le_refl _) (Nat.le_refl _)
theorem se_invSH {M' : se_M} {n index : Nat} {as : List Value} {Ψ : se_O → se_H → Prop} {C1 S1 C2 S2 : Nat} (hok : se_ok G) (hm : se_mokH G M' n) (hg : decode M.2.1 pc = .ok (.invokestatic index, 3)) (hw : Cond.methodLink M.1.cls index M'.1 ∈ G.2.1 ∧ Cond.static M'.1 ∈ G.2.1 ∧ Cond.initialized M'.1.cls ∈ G.2.1) (hn : as.length = n) (hln : (se_sl as).length ≤ M'.2.2.1) (h8 : (st.map fun v => v.category).sum ≤ 8)
    (callee : se_W G l d M' 0 (se_ent M'.2.2.1 as) [] h C1 S1 Ψ) (hC : C1 + C2 ≤ C) (hS : S1 + S2 ≤ S)
    (kr : ∀ v h', h.length ≤ h'.length → Ψ (.inl v) h' → se_W G l (d + 1) M (pc + 3) L (v.toList ++ st) h' C2 S2 Φ)
    (hh : ∀ x ∈ M.2.2.2.2, ¬ (x.1 ≤ pc ∧ pc < x.2.1)) (kx : ∀ E h', h.length ≤ h'.length → Ψ (.inr E) h' → Φ (.inr E) h') : se_W G l (d + 1) M pc L (as.reverse ++ st) h C S Φ := by
  intro p e R s m args below meth c D dA A θ0 n0 mc ms θ H locs cells slots ls hs hd h1 h2 h3 h4
  have hst : ∀ v ∈ st, se_wv h.length v := fun v hv => hd.wst v (List.mem_append_right _ hv)
  have hvs : ∀ v ∈ as, se_wv h.length v := fun v hv => hd.wst v (List.mem_append_left _ (List.mem_reverse.mpr hv))
  have hM := se_metH hm hs.2.2.2.2.2.2.2.2.2.2.2.2.2 hln hvs hd.2.2.2.1 callee D dA θ H.size
  have hp := se_pre hok hs hd as
  have hgi : GoodIn G.2.1 (va_wsS M.1.cls index M'.1 (se_wsH G M')) := se_good hok (fun w hw' => by
    rcases List.mem_append.mp hw' with q | q
    · simp only [List.mem_cons, List.not_mem_nil, or_false] at q
      rcases q with rfl | rfl | rfl
      · exact hw.1
      · exact hw.2.1
      · exact hw.2.2
    · exact se_wsH_in hm w q)
  have hfr := hs.2.2.2.2.2.2.2.2.2.2.2.1
  have hm5 := hm.2.2.2
  have hrun := vx_runSX (p := p) (l := l) (e := e) (R := R) (s := s) (m := m) (args := args) (below := below) (meth := meth) (c := c) (H := H) (locs := locs) (cells := cells) (slots := slots) (As := as.map (se_v θ)) (rest := st.map (se_v θ)) (g := F0 m pc ls ((as.reverse ++ st).map (se_v θ))) (nL := M.2.2.1) (Ts := G.2.1) ⟨hs.1, hs.2.1, hs.2.2.1, hs.2.2.2.2.1, hs.2.2.2.2.2.1⟩ hM
    (vx_cwSW n hs.2.2.2.2.2.1 hgi rfl rfl rfl hm.2.2.1 ⟨by show d + 1 ≤ R.frames; omega, by show 8 + (M'.2.2.1 + 11) + (33 * d + 41) ≤ R.locals; omega⟩) hp rfl (by rw [List.length_map]; exact hn) hd.2.2.2.2.2.1.1 (by rw [List.map_append, List.map_reverse]) (se_room θ h8) hg ⟨by omega, by omega⟩
  refine se_after hrun hs (hd.stk hst) h1 h2 h3 h4 hC hS kr (fun E h' q ce θ' H' locs' hle hΨ hd' hθ hce hcv hcl => ?_)
  exact se_outX hs hd' hh (by omega) (by omega) hce hcv hcl (kx E h' hle hΨ)
/-- which handler takes an exception of class E that is thrown at pc: the rows ahead of it don't cover pc, or name a class that E isn't -/
def se_takes (G : se_G) (M : se_M) (pc : Nat) (E : String) (i tgt : Nat) : Prop := ∃ (x : Nat × Nat × Nat × Nat) (nm : String), M.2.2.2.2[i]? = some x ∧ x.2.2.1 = tgt ∧ (x.1 ≤ pc ∧ pc < x.2.1) ∧ x.2.2.2 ≠ 0 ∧ Cond.classLink M.1.cls x.2.2.2 nm ∈ G.2.1 ∧ Cond.castable E nm ∈ G.2.2.2.2.1 ∧
  ∀ j, j < i → ∀ y, M.2.2.2.2[j]? = some y → y.2.2.2 ≠ 0 ∧ ∃ nm', Cond.classLink M.1.cls y.2.2.2 nm' ∈ G.2.1 ∧ Cond.not (.castable E nm') ∈ G.2.2.2.2.1
theorem se_invVC {M' : se_M} {T : u_T} {n N ci index a : Nat} {fs as : List Value} {Ψ : se_O → se_H → Prop} {C1 S1 C2 S2 : Nat} (hok : se_ok G) (hm : se_mok G M' n) (hg : decode M.2.1 pc = .ok (.invokevirtual index, 3)) (hw : Cond.methodLink M.1.cls index M'.1 ∈ G.2.1 ∧ Cond.instanceMethod M'.1 ∈ G.2.1 ∧ Cond.selects M'.1.cls M'.1 M'.1 ∈ G.2.1 ∧ Cond.initialized M'.1.cls ∈ G.2.1) (hci : G.1[ci]? = some (M'.1.cls, T, N)) (ha : h[a]? = some (.inr (ci, fs))) (hn : as.length = n) (hln : (se_sl (.ref a :: as)).length ≤ M'.2.2.1) (h8 : (st.map fun v => v.category).sum ≤ 8)
    (callee : se_W G l d M' 0 (se_ent M'.2.2.1 (.ref a :: as)) [] h C1 S1 Ψ) (hC : C1 + C2 ≤ C) (hS : S1 + S2 ≤ S)
    (kr : ∀ v h', h.length ≤ h'.length → Ψ (.inl v) h' → se_W G l (d + 1) M (pc + 3) L (v.toList ++ st) h' C2 S2 Φ)
    (kx : ∀ E h', h.length ≤ h'.length → Ψ (.inr E) h' → ∃ i tgt, se_takes G M pc E i tgt ∧ ∀ q, se_W G l (d + 1) M tgt L [.retAddr q] h' C2 S2 Φ) : se_W G l (d + 1) M pc L (as.reverse ++ .ref a :: st) h C S Φ := by
  intro p e R s m args below meth c D dA A θ0 n0 mc ms θ H locs cells slots ls hs hd h1 h2 h3 h4
  have hst : ∀ v ∈ st, se_wv h.length v := fun v hv => hd.wst v (List.mem_append_right _ (List.mem_cons_of_mem _ hv))
  have hvs : ∀ v ∈ Value.ref a :: as, se_wv h.length v := se_push (hd.wst _ (List.mem_append_right _ List.mem_cons_self)) (fun v hv => hd.wst v (List.mem_append_left _ (List.mem_reverse.mpr hv)))
  have hM := se_met hm hs.2.2.2.2.2.2.2.2.2.2.2.2.2 hln hvs hd.2.2.2.1 callee D dA θ H.size
  have hp := se_pre hok hs hd (.ref a :: as)
  have hgi : GoodIn G.2.1 (wsV M.1.cls index M'.1.cls M'.1 (se_ws G M')) := se_good hok (fun w hw' => by
    rcases List.mem_append.mp hw' with q | q
    · simp only [List.mem_cons, List.not_mem_nil, or_false] at q
      rcases q with rfl | rfl | rfl | rfl
      · exact hw.1
      · exact hw.2.1
      · exact hw.2.2.1
      · exact hw.2.2.2
    · exact se_ws_in hm w q)
  have hrec : ∃ cell : Cell, H[θ a]? = some cell ∧ cell.vm.isStatics = false ∧ s.vm.findClass M'.1.cls = some cell.cls := va_recv hs.2.2.2.2.2.2.2.2.1 hd.1 hci (se_w_at ha)
  have hfr := hs.2.2.2.2.2.2.2.2.2.2.2.1
  have hm5 := hm.2.2.2.2
  have hrun := vx_runV (p := p) (l := l) (e := e) (R := R) (s := s) (m := m) (args := args) (below := below) (meth := meth) (c := c) (H := H) (locs := locs) (cells := cells) (slots := slots) (As := as.map (se_v θ)) (rest := st.map (se_v θ)) (b := θ a) (g := F0 m pc ls ((as.reverse ++ .ref a :: st).map (se_v θ))) (nL := M.2.2.1) (Ts := G.2.1) ⟨hs.1, hs.2.1, hs.2.2.1, hs.2.2.2.2.1, hs.2.2.2.2.2.1⟩ hM
    (cwV n hs.2.2.2.2.2.1 hgi rfl rfl rfl ⟨rfl, hm.2.2.2.1⟩ ⟨by show d + 1 ≤ R.frames; omega, by show 8 + (M'.2.2.1 + 11) + (33 * d + 41) ≤ R.locals; omega⟩) ⟨hp.1, hrec, hp.2⟩ rfl (by rw [List.length_map]; exact hn) hd.2.2.2.2.2.1.1 (by rw [List.map_append, List.map_reverse]; rfl) (se_room θ h8) hg ⟨by omega, by omega⟩
  refine se_after hrun hs (hd.stk hst) h1 h2 h3 h4 hC hS kr (fun E h' q ce θ' H' locs' hle hΨ hd' hθ hce hcv hcl => ?_)
  obtain ⟨i, tgt, ⟨x, nm, x1, x2, x3, x4, x5, x6, x7⟩, kk⟩ := kx E h' hle hΨ
  have hts := hs.2.2.2.2.2.1
  have hZ := hs.2.2.2.2.2.2.2.2.2.2.1
  have htab := hs.2.2.2.2.2.2.2.1
  have hil : i < M.2.2.2.2.length := (List.getElem?_eq_some_iff.mp x1).1
  have hsplit : c.exceptionTable.toList = tableOf (M.2.2.2.2.take i) ++ (⟨x.1, x.2.1, x.2.2.1, x.2.2.2⟩ : ExceptionTableEntry) :: tableOf (M.2.2.2.2.drop (i + 1)) := by
    rw [htab]
    have e1 : M.2.2.2.2 = M.2.2.2.2.take i ++ x :: M.2.2.2.2.drop (i + 1) := by
      rw [← (List.getElem?_eq_some_iff.mp x1).2, List.getElem_cons_drop, List.take_append_drop]
    simp only [tableOf]
    conv => lhs; rw [e1]
    simp
  refine vx_catch (own := M.1.cls) (name := nm) (E := E) (ce := ce) hs.2.2.2.2.1 _ _ _ hsplit (fun z hz => ?_) (by simp [covers, x3.1, x3.2]) x4 (hts _ x5) (va_Nw.use rfl (hZ.2.2.2.1 _ x6)) hce hcv hcl ?_
  · obtain ⟨y, hy, rfl⟩ := List.mem_map.mp hz
    obtain ⟨j, hj⟩ := List.getElem?_of_mem hy
    have hji : j < i := by
      have := (List.getElem?_eq_some_iff.mp hj).1
      rw [List.length_take] at this
      omega
    rw [List.getElem?_take, if_pos hji] at hj
    obtain ⟨y1, nm', y2, y3⟩ := x7 j hji y hj
    refine Or.inr ⟨y1, nm', hts _ y2, ?_⟩
    exact va_Nc.of (hZ.2.2.2.1 _ y3)
  · show W p l e R s m args below meth c H' locs' (cells + C1) (slots + S1) _ (F0 m x.2.2.1 ls [.ref q])
    rw [x2]
    exact kk q p e R s m args below meth c D dA A θ0 n0 mc ms θ' H' locs' (cells + C1) (slots + S1) ls hs (hd'.stk (fun v hv => by rw [List.mem_singleton.mp hv]; exact se_q _ _)) (by omega) (by omega) h3 h4
end SE3
