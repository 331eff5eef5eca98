/-! ===== the judgement. G: the classes; the words that every method has; the types of arrays; the texts that are thrown; words that are no good words but stay; the script ===== -/
abbrev se_G : Type := List vw_C × List Cond × List FieldType × List (String × Nat × String) × List Cond × List (Nat × Nat × (Nat → Int32))
def se_ok (G : se_G) : Prop := (∀ w ∈ G.2.1, goodWord w = true) ∧ ∀ w ∈ G.2.2.2.2.1, ∀ s U : State, s.WarmedH U.vm → va_Nw w s → va_Nw w U
section SE
variable {G : se_G} {l : Launch}
def se_tys (G : se_G) (dA : FieldType → ClassId) : List (ClassId × FieldType) := G.2.2.1.map (fun ty => (dA ty, ty))
/-- what holds of the heap's other cells and of the tables, beside the words -/
def se_Z (G : se_G) (A : Nat → Prop) (U : State) : Prop :=
  vx_Zq Bundle.tN "UNASSIGNED_STACK" Bundle.steD A U U.heap ∧ vx_Zq Bundle.tN "SUPPRESSED_SENTINEL" Bundle.listD A U U.heap ∧ (∀ q ∈ G.2.2.2.1, ∃ a, vk_R q.1 q.2.1 q.2.2 a U) ∧ (∀ w ∈ G.2.2.2.2.1, va_Nw w U) ∧ ∀ q ∈ G.2.2.2.2.2, va_X q.1 q.2.1 q.2.2 U U.heap ∧ ¬ A q.1
def se_St (G : se_G) (l : Launch) (d : Nat) (M : se_M) (p : Program) (R : Room) (s : State) (m : MethodId) (args : Array Value) (meth : Method) (c : Code) (D : va_G) (dA : FieldType → ClassId) (A : Nat → Prop) : Prop :=
  p.tables.exec = Jvm.exec ∧ c.code = M.2.1 ∧ c.maxLocals = M.2.2.1 ∧ meth.sig.returnType = M.2.2.2.1 ∧ s.vm.findClass M.1.cls = some m.cls ∧ (∀ w ∈ G.2.1, w.before args s = true) ∧ meth.locks = false ∧ c.exceptionTable.toList = tableOf M.2.2.2.2 ∧ va_K D G.1 (se_tys G dA) s ∧ (∀ q, s.heap.size ≤ q → A q) ∧ se_Z G A s ∧ (d ≤ R.frames ∧ 33 * d + 41 ≤ R.locals) ∧ meth.name = M.1.name ∧ l.stackTraces = false
def se_Dy (G : se_G) (M : se_M) (D : va_G) (dA : FieldType → ClassId) (A : Nat → Prop) (θ0 : Nat → Nat) (n0 : Nat) (θ : Nat → Nat) (s : State) (h : se_H) (H : Heap) (locs : List Loc) (L : List (Option Value)) (st : List Value) (ls : Array Slot) : Prop :=
  va_P D G.1 (se_w dA θ h) H ∧ va_D A (se_w dA θ h) ∧ va_S A s.heap H locs ∧ se_wh h ∧ (∀ v ∈ st, se_wv h.length v) ∧ se_L θ L ls M.2.2.1 ∧ se_wL h.length L ∧ n0 ≤ h.length ∧ ∀ k, k < n0 → θ k = θ0 k
/-- a world at the end -/
def se_B (G : se_G) (D : va_G) (dA : FieldType → ClassId) (A : Nat → Prop) (θ0 : Nat → Nat) (n0 : Nat) (h : se_H) (θ : Nat → Nat) (t : State) : Prop :=
  va_P D G.1 (se_w dA θ h) t.heap ∧ va_D A (se_w dA θ h) ∧ se_wh h ∧ n0 ≤ h.length ∧ ∀ k, k < n0 → θ k = θ0 k
def se_Q (G : se_G) (D : va_G) (dA : FieldType → ClassId) (A : Nat → Prop) (θ0 : Nat → Nat) (n0 : Nat) (Φ : se_O → se_H → Prop) : Array Value → State → Outcome → State → Prop := fun _ st o t =>
  (∃ (v : Option Value) (h : se_H) (θ : Nat → Nat), Φ (.inl v) h ∧ o = .returned (v.map (se_v θ)) ∧ (∀ x, v = some x → se_wv h.length x) ∧ se_B G D dA A θ0 n0 h θ t) ∧ va_F A st t
def se_X (G : se_G) (D : va_G) (dA : FieldType → ClassId) (A : Nat → Prop) (θ0 : Nat → Nat) (n0 : Nat) (Φ : se_O → se_H → Prop) : String → State → State → Prop := fun E st t =>
  (∃ (h : se_H) (θ : Nat → Nat), Φ (.inr E) h ∧ se_B G D dA A θ0 n0 h θ t) ∧ va_F A st t
/-- FROM HERE THE METHOD ENDS AS Φ SAYS, with at most C new cells of S slots: at pc, locals L, operands st, abstract heap h; d calls may nest below it -/
def se_W (G : se_G) (l : Launch) (d : Nat) (M : se_M) (pc : Nat) (L : List (Option Value)) (st : List Value) (h : se_H) (C S : Nat) (Φ : se_O → se_H → Prop) : Prop :=
  ∀ (p : Program) (e : Env) (R : Room) (s : State) (m : MethodId) (args : Array Value) (below : List Frame) (meth : Method) (c : Code) (D : va_G) (dA : FieldType → ClassId) (A : Nat → Prop) (θ0 : Nat → Nat) (n0 mc ms : Nat) (θ : Nat → Nat) (H : Heap) (locs : List Loc) (cells slots : Nat) (ls : Array Slot),
    se_St G l d M p R s m args meth c D dA A → se_Dy G M D dA A θ0 n0 θ s h H locs L st ls →
    cells + C ≤ mc → slots + S ≤ ms → mc ≤ R.cells → ms ≤ R.slots →
    W p l e R s m args below meth c H locs cells slots (vx_MQ below (se_Q G D dA A θ0 n0 Φ) (se_X G D dA A θ0 n0 Φ) args s mc ms A) (F0 m pc ls (st.map (se_v θ)))
variable {d : Nat} {M : se_M} {pc : Nat} {L : List (Option Value)} {st : List Value} {h : se_H} {C S : Nat} {Φ : se_O → se_H → Prop}
theorem se_mono {C' S' : Nat} {Ψ : se_O → se_H → Prop} (k : se_W G l d M pc L st h C' S' Ψ) (hC : C' ≤ C) (hS : S' ≤ S) (hΦ : ∀ o h', Ψ o h' → Φ o h') : se_W G l d M pc L st h C S Φ := by
  intro p e R s m args below meth c D dA A θ0 n0 mc ms θ H locs cells slots ls hs hd h1 h2 h3 h4 T hT X
  obtain ⟨t, a1, o, b1, b2, b3⟩ := k p e R s m args below meth c D dA A θ0 n0 mc ms θ H locs cells slots ls hs hd (by omega) (by omega) h3 h4 T hT X
  refine ⟨t, a1, o, b1, b2, ?_⟩
  rcases b3 with ⟨⟨⟨v, h', θ', g1, g2, g3, g4⟩, g5⟩, g6⟩ | ⟨q, g0, E, ce, L', ⟨⟨h', θ', g1, g2⟩, g3⟩, g4⟩
  · exact Or.inl ⟨⟨⟨v, h', θ', hΦ _ _ g1, g2, g3, g4⟩, g5⟩, g6⟩
  · exact Or.inr ⟨q, g0, E, ce, L', ⟨⟨h', θ', hΦ _ _ g1, g2⟩, g3⟩, g4⟩
/-- operands are numbers, or point into the heap -/
theorem se_i (n : Nat) (x : Int32) : se_wv n (.int x) := fun k hk => by cases hk
theorem se_j (n : Nat) (x : Int64) : se_wv n (.long x) := fun k hk => by cases hk
theorem se_n (n : Nat) : se_wv n .null := fun k hk => by cases hk
theorem se_r {n k : Nat} (hk : k < n) : se_wv n (.ref k) := fun j hj => by cases hj; exact hk
theorem se_push {n : Nat} {v : Value} {vs : List Value} (hv : se_wv n v) (h : ∀ w ∈ vs, se_wv n w) : ∀ w ∈ v :: vs, se_wv n w := fun w hw => (List.mem_cons.mp hw).elim (fun e => by rw [e]; exact hv) (h w)
theorem se_pop {n : Nat} {v : Value} {vs : List Value} (h : ∀ w ∈ v :: vs, se_wv n w) : ∀ w ∈ vs, se_wv n w := fun w hw => h w (List.mem_cons_of_mem _ hw)
/-- operands change alone -/
theorem se_Dy.stk {D : va_G} {dA : FieldType → ClassId} {A : Nat → Prop} {θ0 : Nat → Nat} {n0 : Nat} {θ : Nat → Nat} {s : State} {H : Heap} {locs : List Loc} {ls : Array Slot} {st' : List Value} (hd : se_Dy G M D dA A θ0 n0 θ s h H locs L st ls) (hw : ∀ v ∈ st', se_wv h.length v) : se_Dy G M D dA A θ0 n0 θ s h H locs L st' ls := by
  obtain ⟨a1, a2, a3, a4, -, a6, a7⟩ := hd
  exact ⟨a1, a2, a3, a4, hw, a6, a7⟩
theorem se_Dy.loc {D : va_G} {dA : FieldType → ClassId} {A : Nat → Prop} {θ0 : Nat → Nat} {n0 : Nat} {θ : Nat → Nat} {s : State} {H : Heap} {locs : List Loc} {ls ls' : Array Slot} {L' : List (Option Value)} {st' : List Value} (hd : se_Dy G M D dA A θ0 n0 θ s h H locs L st ls) (hL : se_L θ L' ls' M.2.2.1) (hwL : se_wL h.length L') (hw : ∀ v ∈ st', se_wv h.length v) : se_Dy G M D dA A θ0 n0 θ s h H locs L' st' ls' := by
  obtain ⟨a1, a2, a3, a4, -, -, -, a8⟩ := hd
  exact ⟨a1, a2, a3, a4, hw, hL, hwL, a8⟩
theorem se_Dy.wst {D : va_G} {dA : FieldType → ClassId} {A : Nat → Prop} {θ0 : Nat → Nat} {n0 : Nat} {θ : Nat → Nat} {s : State} {H : Heap} {locs : List Loc} {ls : Array Slot} (hd : se_Dy G M D dA A θ0 n0 θ s h H locs L st ls) : ∀ v ∈ st, se_wv h.length v := hd.2.2.2.2.1
theorem se_iconst {n : Int} (v : Int32) (hv : Int32.ofInt n = v) (hg : decode M.2.1 pc = .ok (.iconst n, 1)) (k : se_W G l d M (pc + 1) L (.int v :: st) h C S Φ) : se_W G l d M pc L (st) h C S Φ := by
  intro p e R s m args below meth c D dA A θ0 n0 mc ms θ H locs cells slots ls hs hd h1 h2 h3 h4
  exact lv_iconst hs.1 hs.2.1 hg hv (k p e R s m args below meth c D dA A θ0 n0 mc ms θ H locs cells slots ls hs (hd.stk (se_push (se_i _ _) hd.wst)) h1 h2 h3 h4)
theorem se_bipush {n : Int} (v : Int32) (hv : (Int8.ofInt n).toInt32 = v) (hg : decode M.2.1 pc = .ok (.bipush n, 2)) (k : se_W G l d M (pc + 2) L (.int v :: st) h C S Φ) : se_W G l d M pc L (st) h C S Φ := by
  intro p e R s m args below meth c D dA A θ0 n0 mc ms θ H locs cells slots ls hs hd h1 h2 h3 h4
  exact lv_bipush hs.1 hs.2.1 hg hv (k p e R s m args below meth c D dA A θ0 n0 mc ms θ H locs cells slots ls hs (hd.stk (se_push (se_i _ _) hd.wst)) h1 h2 h3 h4)
theorem se_sipush {n : Int} (v : Int32) (hv : (Int16.ofInt n).toInt32 = v) (hg : decode M.2.1 pc = .ok (.sipush n, 3)) (k : se_W G l d M (pc + 3) L (.int v :: st) h C S Φ) : se_W G l d M pc L (st) h C S Φ := by
  intro p e R s m args below meth c D dA A θ0 n0 mc ms θ H locs cells slots ls hs hd h1 h2 h3 h4
  exact lv_sipush hs.1 hs.2.1 hg hv (k p e R s m args below meth c D dA A θ0 n0 mc ms θ H locs cells slots ls hs (hd.stk (se_push (se_i _ _) hd.wst)) h1 h2 h3 h4)
theorem se_lconst {n : Fin 2} (v : Int64) (hv : Int64.ofNat (n : Nat) = v) (hg : decode M.2.1 pc = .ok (.lconst n, 1)) (k : se_W G l d M (pc + 1) L (.long v :: st) h C S Φ) : se_W G l d M pc L (st) h C S Φ := by
  intro p e R s m args below meth c D dA A θ0 n0 mc ms θ H locs cells slots ls hs hd h1 h2 h3 h4
  exact lv_lconst hs.1 hs.2.1 hg hv (k p e R s m args below meth c D dA A θ0 n0 mc ms θ H locs cells slots ls hs (hd.stk (se_push (se_j _ _) hd.wst)) h1 h2 h3 h4)
theorem se_null  (hg : decode M.2.1 pc = .ok (.aconst_null, 1)) (k : se_W G l d M (pc + 1) L (.null :: st) h C S Φ) : se_W G l d M pc L (st) h C S Φ := by
  intro p e R s m args below meth c D dA A θ0 n0 mc ms θ H locs cells slots ls hs hd h1 h2 h3 h4
  exact lv_null hs.1 hs.2.1 hg (k p e R s m args below meth c D dA A θ0 n0 mc ms θ H locs cells slots ls hs (hd.stk (se_push (se_n _) hd.wst)) h1 h2 h3 h4)
theorem se_iadd {x y : Int32} (hg : decode M.2.1 pc = .ok (.iadd, 1)) (k : se_W G l d M (pc + 1) L (.int (x + y) :: st) h C S Φ) : se_W G l d M pc L (.int y :: .int x :: st) h C S Φ := by
  intro p e R s m args below meth c D dA A θ0 n0 mc ms θ H locs cells slots ls hs hd h1 h2 h3 h4
  exact lv_iadd hs.1 hs.2.1 hg (k p e R s m args below meth c D dA A θ0 n0 mc ms θ H locs cells slots ls hs (hd.stk (se_push (se_i _ _) (se_pop (se_pop hd.wst)))) h1 h2 h3 h4)
theorem se_isub {x y : Int32} (hg : decode M.2.1 pc = .ok (.isub, 1)) (k : se_W G l d M (pc + 1) L (.int (x - y) :: st) h C S Φ) : se_W G l d M pc L (.int y :: .int x :: st) h C S Φ := by
  intro p e R s m args below meth c D dA A θ0 n0 mc ms θ H locs cells slots ls hs hd h1 h2 h3 h4
  exact lv_isub hs.1 hs.2.1 hg (k p e R s m args below meth c D dA A θ0 n0 mc ms θ H locs cells slots ls hs (hd.stk (se_push (se_i _ _) (se_pop (se_pop hd.wst)))) h1 h2 h3 h4)
theorem se_imul {x y : Int32} (hg : decode M.2.1 pc = .ok (.imul, 1)) (k : se_W G l d M (pc + 1) L (.int (x * y) :: st) h C S Φ) : se_W G l d M pc L (.int y :: .int x :: st) h C S Φ := by
  intro p e R s m args below meth c D dA A θ0 n0 mc ms θ H locs cells slots ls hs hd h1 h2 h3 h4
  exact lv_imul hs.1 hs.2.1 hg (k p e R s m args below meth c D dA A θ0 n0 mc ms θ H locs cells slots ls hs (hd.stk (se_push (se_i _ _) (se_pop (se_pop hd.wst)))) h1 h2 h3 h4)
theorem se_idiv {x y : Int32} (hne : ¬ y = 0) (hg : decode M.2.1 pc = .ok (.idiv, 1)) (k : se_W G l d M (pc + 1) L (.int (x / y) :: st) h C S Φ) : se_W G l d M pc L (.int y :: .int x :: st) h C S Φ := by
  intro p e R s m args below meth c D dA A θ0 n0 mc ms θ H locs cells slots ls hs hd h1 h2 h3 h4
  exact lv_idiv hs.1 hs.2.1 hg hne (k p e R s m args below meth c D dA A θ0 n0 mc ms θ H locs cells slots ls hs (hd.stk (se_push (se_i _ _) (se_pop (se_pop hd.wst)))) h1 h2 h3 h4)
theorem se_irem {x y : Int32} (hne : ¬ y = 0) (hg : decode M.2.1 pc = .ok (.irem, 1)) (k : se_W G l d M (pc + 1) L (.int (x - x / y * y) :: st) h C S Φ) : se_W G l d M pc L (.int y :: .int x :: st) h C S Φ := by
  intro p e R s m args below meth c D dA A θ0 n0 mc ms θ H locs cells slots ls hs hd h1 h2 h3 h4
  exact lv_irem hs.1 hs.2.1 hg hne (k p e R s m args below meth c D dA A θ0 n0 mc ms θ H locs cells slots ls hs (hd.stk (se_push (se_i _ _) (se_pop (se_pop hd.wst)))) h1 h2 h3 h4)
theorem se_iand {x y : Int32} (hg : decode M.2.1 pc = .ok (.iand, 1)) (k : se_W G l d M (pc + 1) L (.int (x &&& y) :: st) h C S Φ) : se_W G l d M pc L (.int y :: .int x :: st) h C S Φ := by
  intro p e R s m args below meth c D dA A θ0 n0 mc ms θ H locs cells slots ls hs hd h1 h2 h3 h4
  exact lv_iand hs.1 hs.2.1 hg (k p e R s m args below meth c D dA A θ0 n0 mc ms θ H locs cells slots ls hs (hd.stk (se_push (se_i _ _) (se_pop (se_pop hd.wst)))) h1 h2 h3 h4)
theorem se_ior {x y : Int32} (hg : decode M.2.1 pc = .ok (.ior, 1)) (k : se_W G l d M (pc + 1) L (.int (x ||| y) :: st) h C S Φ) : se_W G l d M pc L (.int y :: .int x :: st) h C S Φ := by
  intro p e R s m args below meth c D dA A θ0 n0 mc ms θ H locs cells slots ls hs hd h1 h2 h3 h4
  exact lv_ior hs.1 hs.2.1 hg (k p e R s m args below meth c D dA A θ0 n0 mc ms θ H locs cells slots ls hs (hd.stk (se_push (se_i _ _) (se_pop (se_pop hd.wst)))) h1 h2 h3 h4)
theorem se_ineg {x : Int32} (hg : decode M.2.1 pc = .ok (.ineg, 1)) (k : se_W G l d M (pc + 1) L (.int (-x) :: st) h C S Φ) : se_W G l d M pc L (.int x :: st) h C S Φ := by
  intro p e R s m args below meth c D dA A θ0 n0 mc ms θ H locs cells slots ls hs hd h1 h2 h3 h4
  exact lv_ineg hs.1 hs.2.1 hg (k p e R s m args below meth c D dA A θ0 n0 mc ms θ H locs cells slots ls hs (hd.stk (se_push (se_i _ _) (se_pop hd.wst))) h1 h2 h3 h4)
theorem se_ladd {x y : Int64} (hg : decode M.2.1 pc = .ok (.ladd, 1)) (k : se_W G l d M (pc + 1) L (.long (x + y) :: st) h C S Φ) : se_W G l d M pc L (.long y :: .long x :: st) h C S Φ := by
  intro p e R s m args below meth c D dA A θ0 n0 mc ms θ H locs cells slots ls hs hd h1 h2 h3 h4
  exact lv_ladd hs.1 hs.2.1 hg (k p e R s m args below meth c D dA A θ0 n0 mc ms θ H locs cells slots ls hs (hd.stk (se_push (se_j _ _) (se_pop (se_pop hd.wst)))) h1 h2 h3 h4)
theorem se_lsub {x y : Int64} (hg : decode M.2.1 pc = .ok (.lsub, 1)) (k : se_W G l d M (pc + 1) L (.long (x - y) :: st) h C S Φ) : se_W G l d M pc L (.long y :: .long x :: st) h C S Φ := by
  intro p e R s m args below meth c D dA A θ0 n0 mc ms θ H locs cells slots ls hs hd h1 h2 h3 h4
  exact lv_lsub hs.1 hs.2.1 hg (k p e R s m args below meth c D dA A θ0 n0 mc ms θ H locs cells slots ls hs (hd.stk (se_push (se_j _ _) (se_pop (se_pop hd.wst)))) h1 h2 h3 h4)
theorem se_lmul {x y : Int64} (hg : decode M.2.1 pc = .ok (.lmul, 1)) (k : se_W G l d M (pc + 1) L (.long (x * y) :: st) h C S Φ) : se_W G l d M pc L (.long y :: .long x :: st) h C S Φ := by
  intro p e R s m args below meth c D dA A θ0 n0 mc ms θ H locs cells slots ls hs hd h1 h2 h3 h4
  exact lv_lmul hs.1 hs.2.1 hg (k p e R s m args below meth c D dA A θ0 n0 mc ms θ H locs cells slots ls hs (hd.stk (se_push (se_j _ _) (se_pop (se_pop hd.wst)))) h1 h2 h3 h4)
theorem se_ldiv {x y : Int64} (hne : ¬ y = 0) (hg : decode M.2.1 pc = .ok (.ldiv, 1)) (k : se_W G l d M (pc + 1) L (.long (x / y) :: st) h C S Φ) : se_W G l d M pc L (.long y :: .long x :: st) h C S Φ := by
  intro p e R s m args below meth c D dA A θ0 n0 mc ms θ H locs cells slots ls hs hd h1 h2 h3 h4
  exact lv_ldiv hs.1 hs.2.1 hg hne (k p e R s m args below meth c D dA A θ0 n0 mc ms θ H locs cells slots ls hs (hd.stk (se_push (se_j _ _) (se_pop (se_pop hd.wst)))) h1 h2 h3 h4)
theorem se_lrem {x y : Int64} (hne : ¬ y = 0) (hg : decode M.2.1 pc = .ok (.lrem, 1)) (k : se_W G l d M (pc + 1) L (.long (x - x / y * y) :: st) h C S Φ) : se_W G l d M pc L (.long y :: .long x :: st) h C S Φ := by
  intro p e R s m args below meth c D dA A θ0 n0 mc ms θ H locs cells slots ls hs hd h1 h2 h3 h4
  exact lv_lrem hs.1 hs.2.1 hg hne (k p e R s m args below meth c D dA A θ0 n0 mc ms θ H locs cells slots ls hs (hd.stk (se_push (se_j _ _) (se_pop (se_pop hd.wst)))) h1 h2 h3 h4)
theorem se_i2l {x : Int32} (hg : decode M.2.1 pc = .ok (.i2l, 1)) (k : se_W G l d M (pc + 1) L (.long x.toInt64 :: st) h C S Φ) : se_W G l d M pc L (.int x :: st) h C S Φ := by
  intro p e R s m args below meth c D dA A θ0 n0 mc ms θ H locs cells slots ls hs hd h1 h2 h3 h4
  exact lv_i2l hs.1 hs.2.1 hg rfl (k p e R s m args below meth c D dA A θ0 n0 mc ms θ H locs cells slots ls hs (hd.stk (se_push (se_j _ _) (se_pop hd.wst))) h1 h2 h3 h4)
theorem se_l2i {x : Int64} (hg : decode M.2.1 pc = .ok (.l2i, 1)) (k : se_W G l d M (pc + 1) L (.int x.toInt32 :: st) h C S Φ) : se_W G l d M pc L (.long x :: st) h C S Φ := by
  intro p e R s m args below meth c D dA A θ0 n0 mc ms θ H locs cells slots ls hs hd h1 h2 h3 h4
  exact lv_l2i hs.1 hs.2.1 hg rfl (k p e R s m args below meth c D dA A θ0 n0 mc ms θ H locs cells slots ls hs (hd.stk (se_push (se_i _ _) (se_pop hd.wst))) h1 h2 h3 h4)
theorem se_lcmp {x y : Int64} (hg : decode M.2.1 pc = .ok (.lcmp, 1)) (k : se_W G l d M (pc + 1) L (.int (lg_cmp x y) :: st) h C S Φ) : se_W G l d M pc L (.long y :: .long x :: st) h C S Φ := by
  intro p e R s m args below meth c D dA A θ0 n0 mc ms θ H locs cells slots ls hs hd h1 h2 h3 h4
  exact W.lcmp hs.1 hs.2.1 hg (k p e R s m args below meth c D dA A θ0 n0 mc ms θ H locs cells slots ls hs (hd.stk (se_push (se_i _ _) (se_pop (se_pop hd.wst)))) h1 h2 h3 h4)
theorem se_dup {v : Value} (hc : v.category = 1) (hg : decode M.2.1 pc = .ok (.dup, 1)) (k : se_W G l d M (pc + 1) L (v :: v :: st) h C S Φ) : se_W G l d M pc L (v :: st) h C S Φ := by
  intro p e R s m args below meth c D dA A θ0 n0 mc ms θ H locs cells slots ls hs hd h1 h2 h3 h4
  exact lv_dup hs.1 hs.2.1 hg (by rw [se_cat]; exact hc) (k p e R s m args below meth c D dA A θ0 n0 mc ms θ H locs cells slots ls hs (hd.stk (se_push (hd.wst _ List.mem_cons_self) hd.wst)) h1 h2 h3 h4)
theorem se_pop1 {v : Value} (hc : v.category = 1) (hg : decode M.2.1 pc = .ok (.pop, 1)) (k : se_W G l d M (pc + 1) L (st) h C S Φ) : se_W G l d M pc L (v :: st) h C S Φ := by
  intro p e R s m args below meth c D dA A θ0 n0 mc ms θ H locs cells slots ls hs hd h1 h2 h3 h4
  exact lv_pop hs.1 hs.2.1 hg (by rw [se_cat]; exact hc) (k p e R s m args below meth c D dA A θ0 n0 mc ms θ H locs cells slots ls hs (hd.stk (se_pop hd.wst)) h1 h2 h3 h4)
theorem se_dup_x1 {v w : Value} (hc : v.category = 1) (hc2 : w.category = 1) (hg : decode M.2.1 pc = .ok (.dup_x1, 1)) (k : se_W G l d M (pc + 1) L (v :: w :: v :: st) h C S Φ) : se_W G l d M pc L (v :: w :: st) h C S Φ := by
  intro p e R s m args below meth c D dA A θ0 n0 mc ms θ H locs cells slots ls hs hd h1 h2 h3 h4
  exact lv_dup_x1 hs.1 hs.2.1 hg (by rw [se_cat]; exact hc) (by rw [se_cat]; exact hc2) (k p e R s m args below meth c D dA A θ0 n0 mc ms θ H locs cells slots ls hs (hd.stk (se_push (hd.wst _ List.mem_cons_self) (se_push (hd.wst _ (List.mem_cons_of_mem _ List.mem_cons_self)) (se_push (hd.wst _ List.mem_cons_self) (se_pop (se_pop hd.wst)))))) h1 h2 h3 h4)
theorem se_dup2 {v w : Value} (hc : v.category = 1) (hc2 : w.category = 1) (hg : decode M.2.1 pc = .ok (.dup2, 1)) (k : se_W G l d M (pc + 1) L (v :: w :: v :: w :: st) h C S Φ) : se_W G l d M pc L (v :: w :: st) h C S Φ := by
  intro p e R s m args below meth c D dA A θ0 n0 mc ms θ H locs cells slots ls hs hd h1 h2 h3 h4
  exact lv_dup2_11 hs.1 hs.2.1 hg (by rw [se_cat]; exact hc) (by rw [se_cat]; exact hc2) (k p e R s m args below meth c D dA A θ0 n0 mc ms θ H locs cells slots ls hs (hd.stk (se_push (hd.wst _ List.mem_cons_self) (se_push (hd.wst _ (List.mem_cons_of_mem _ List.mem_cons_self)) hd.wst))) h1 h2 h3 h4)
theorem se_dup_x2 {v w u : Value} (hc : v.category = 1) (hc2 : w.category = 1) (hc3 : u.category = 1) (hg : decode M.2.1 pc = .ok (.dup_x2, 1)) (k : se_W G l d M (pc + 1) L (v :: w :: u :: v :: st) h C S Φ) : se_W G l d M pc L (v :: w :: u :: st) h C S Φ := by
  intro p e R s m args below meth c D dA A θ0 n0 mc ms θ H locs cells slots ls hs hd h1 h2 h3 h4
  exact lv_dup_x2 hs.1 hs.2.1 hg (by rw [se_cat]; exact hc) (by rw [se_cat]; exact hc2) (by rw [se_cat]; exact hc3) (k p e R s m args below meth c D dA A θ0 n0 mc ms θ H locs cells slots ls hs (hd.stk (se_push (hd.wst _ List.mem_cons_self) (se_push (hd.wst _ (List.mem_cons_of_mem _ List.mem_cons_self)) (se_push (hd.wst _ (List.mem_cons_of_mem _ (List.mem_cons_of_mem _ List.mem_cons_self))) (se_push (hd.wst _ List.mem_cons_self) (se_pop (se_pop (se_pop hd.wst)))))))) h1 h2 h3 h4)
theorem se_iload_n {i : Fin 4} {x : Int32} (hl : L[(i : Nat)]? = some (some (.int x))) (hg : decode M.2.1 pc = .ok (.iload_n i, 1)) (k : se_W G l d M (pc + 1) L (.int x :: st) h C S Φ) : se_W G l d M pc L (st) h C S Φ := by
  intro p e R s m args below meth c D dA A θ0 n0 mc ms θ H locs cells slots ls hs hd h1 h2 h3 h4
  exact lv_iload_n hs.1 hs.2.1 hg rfl (hd.2.2.2.2.2.1.2.2.2 _ _ hl) (k p e R s m args below meth c D dA A θ0 n0 mc ms θ H locs cells slots ls hs (hd.stk (se_push (se_i _ _) hd.wst)) h1 h2 h3 h4)
theorem se_iload {i : Nat} {x : Int32} (hl : L[i]? = some (some (.int x))) (hg : decode M.2.1 pc = .ok (.iload i, 2)) (k : se_W G l d M (pc + 2) L (.int x :: st) h C S Φ) : se_W G l d M pc L (st) h C S Φ := by
  intro p e R s m args below meth c D dA A θ0 n0 mc ms θ H locs cells slots ls hs hd h1 h2 h3 h4
  exact lv_iload hs.1 hs.2.1 hg (hd.2.2.2.2.2.1.2.2.2 _ _ hl) (k p e R s m args below meth c D dA A θ0 n0 mc ms θ H locs cells slots ls hs (hd.stk (se_push (se_i _ _) hd.wst)) h1 h2 h3 h4)
theorem se_lload_n {i : Fin 4} {x : Int64} (hl : L[(i : Nat)]? = some (some (.long x))) (hg : decode M.2.1 pc = .ok (.lload_n i, 1)) (k : se_W G l d M (pc + 1) L (.long x :: st) h C S Φ) : se_W G l d M pc L (st) h C S Φ := by
  intro p e R s m args below meth c D dA A θ0 n0 mc ms θ H locs cells slots ls hs hd h1 h2 h3 h4
  exact lv_lload_n hs.1 hs.2.1 hg rfl (hd.2.2.2.2.2.1.2.2.2 _ _ hl) (k p e R s m args below meth c D dA A θ0 n0 mc ms θ H locs cells slots ls hs (hd.stk (se_push (se_j _ _) hd.wst)) h1 h2 h3 h4)
theorem se_lload {i : Nat} {x : Int64} (hl : L[i]? = some (some (.long x))) (hg : decode M.2.1 pc = .ok (.lload i, 2)) (k : se_W G l d M (pc + 2) L (.long x :: st) h C S Φ) : se_W G l d M pc L (st) h C S Φ := by
  intro p e R s m args below meth c D dA A θ0 n0 mc ms θ H locs cells slots ls hs hd h1 h2 h3 h4
  exact lv_lload hs.1 hs.2.1 hg (hd.2.2.2.2.2.1.2.2.2 _ _ hl) (k p e R s m args below meth c D dA A θ0 n0 mc ms θ H locs cells slots ls hs (hd.stk (se_push (se_j _ _) hd.wst)) h1 h2 h3 h4)
theorem se_aload_n {i : Fin 4} {x : Nat} (hl : L[(i : Nat)]? = some (some (.ref x))) (hg : decode M.2.1 pc = .ok (.aload_n i, 1)) (k : se_W G l d M (pc + 1) L (.ref x :: st) h C S Φ) : se_W G l d M pc L (st) h C S Φ := by
  intro p e R s m args below meth c D dA A θ0 n0 mc ms θ H locs cells slots ls hs hd h1 h2 h3 h4
  exact lv_aload_n hs.1 hs.2.1 hg rfl (hd.2.2.2.2.2.1.2.2.2 _ _ hl) (k p e R s m args below meth c D dA A θ0 n0 mc ms θ H locs cells slots ls hs (hd.stk (se_push (hd.2.2.2.2.2.2.1 _ _ hl) hd.wst)) h1 h2 h3 h4)
theorem se_aload {i : Nat} {x : Nat} (hl : L[i]? = some (some (.ref x))) (hg : decode M.2.1 pc = .ok (.aload i, 2)) (k : se_W G l d M (pc + 2) L (.ref x :: st) h C S Φ) : se_W G l d M pc L (st) h C S Φ := by
  intro p e R s m args below meth c D dA A θ0 n0 mc ms θ H locs cells slots ls hs hd h1 h2 h3 h4
  exact lv_aload hs.1 hs.2.1 hg (hd.2.2.2.2.2.1.2.2.2 _ _ hl) (k p e R s m args below meth c D dA A θ0 n0 mc ms θ H locs cells slots ls hs (hd.stk (se_push (hd.2.2.2.2.2.2.1 _ _ hl) hd.wst)) h1 h2 h3 h4)
theorem se_aload_nN {i : Fin 4} (hl : L[(i : Nat)]? = some (some .null)) (hg : decode M.2.1 pc = .ok (.aload_n i, 1)) (k : se_W G l d M (pc + 1) L (.null :: st) h C S Φ) : se_W G l d M pc L (st) h C S Φ := by
  intro p e R s m args below meth c D dA A θ0 n0 mc ms θ H locs cells slots ls hs hd h1 h2 h3 h4
  exact lv_aload_nN hs.1 hs.2.1 hg rfl (hd.2.2.2.2.2.1.2.2.2 _ _ hl) (k p e R s m args below meth c D dA A θ0 n0 mc ms θ H locs cells slots ls hs (hd.stk (se_push (se_n _) hd.wst)) h1 h2 h3 h4)
theorem se_aloadN {i : Nat} (hl : L[i]? = some (some .null)) (hg : decode M.2.1 pc = .ok (.aload i, 2)) (k : se_W G l d M (pc + 2) L (.null :: st) h C S Φ) : se_W G l d M pc L (st) h C S Φ := by
  intro p e R s m args below meth c D dA A θ0 n0 mc ms θ H locs cells slots ls hs hd h1 h2 h3 h4
  exact lv_aloadN hs.1 hs.2.1 hg (hd.2.2.2.2.2.1.2.2.2 _ _ hl) (k p e R s m args below meth c D dA A θ0 n0 mc ms θ H locs cells slots ls hs (hd.stk (se_push (se_n _) hd.wst)) h1 h2 h3 h4)
theorem se_if_eq {x : Int32} {off : Int} {tgt : Nat} (hg : decode M.2.1 pc = .ok (.ifCond .eq off, 3)) (ht : (pc : Int) + off = (tgt : Int)) (kt : x = 0 → se_W G l d M tgt L st h C S Φ) (kf : ¬ x = 0 → se_W G l d M (pc + 3) L st h C S Φ) : se_W G l d M pc L (.int x :: st) h C S Φ := by
  intro p e R s m args below meth c D dA A θ0 n0 mc ms θ H locs cells slots ls hs hd h1 h2 h3 h4
  exact lv_if_eq hs.1 hs.2.1 hg ht (fun q => kt q p e R s m args below meth c D dA A θ0 n0 mc ms θ H locs cells slots ls hs (hd.stk (se_pop hd.wst)) h1 h2 h3 h4) (fun q => kf q p e R s m args below meth c D dA A θ0 n0 mc ms θ H locs cells slots ls hs (hd.stk (se_pop hd.wst)) h1 h2 h3 h4)
theorem se_icmp_eq {x y : Int32} {off : Int} {tgt : Nat} (hg : decode M.2.1 pc = .ok (.if_icmp .eq off, 3)) (ht : (pc : Int) + off = (tgt : Int)) (kt : x = y → se_W G l d M tgt L st h C S Φ) (kf : ¬ x = y → se_W G l d M (pc + 3) L st h C S Φ) : se_W G l d M pc L (.int y :: .int x :: st) h C S Φ := by
  intro p e R s m args below meth c D dA A θ0 n0 mc ms θ H locs cells slots ls hs hd h1 h2 h3 h4
  exact lv_icmp_eq hs.1 hs.2.1 hg ht (fun q => kt q p e R s m args below meth c D dA A θ0 n0 mc ms θ H locs cells slots ls hs (hd.stk (se_pop (se_pop hd.wst))) h1 h2 h3 h4) (fun q => kf q p e R s m args below meth c D dA A θ0 n0 mc ms θ H locs cells slots ls hs (hd.stk (se_pop (se_pop hd.wst))) h1 h2 h3 h4)
theorem se_if_ne {x : Int32} {off : Int} {tgt : Nat} (hg : decode M.2.1 pc = .ok (.ifCond .ne off, 3)) (ht : (pc : Int) + off = (tgt : Int)) (kt : ¬ x = 0 → se_W G l d M tgt L st h C S Φ) (kf : x = 0 → se_W G l d M (pc + 3) L st h C S Φ) : se_W G l d M pc L (.int x :: st) h C S Φ := by
  intro p e R s m args below meth c D dA A θ0 n0 mc ms θ H locs cells slots ls hs hd h1 h2 h3 h4
  exact lv_if_ne hs.1 hs.2.1 hg ht (fun q => kt q p e R s m args below meth c D dA A θ0 n0 mc ms θ H locs cells slots ls hs (hd.stk (se_pop hd.wst)) h1 h2 h3 h4) (fun q => kf q p e R s m args below meth c D dA A θ0 n0 mc ms θ H locs cells slots ls hs (hd.stk (se_pop hd.wst)) h1 h2 h3 h4)
theorem se_icmp_ne {x y : Int32} {off : Int} {tgt : Nat} (hg : decode M.2.1 pc = .ok (.if_icmp .ne off, 3)) (ht : (pc : Int) + off = (tgt : Int)) (kt : ¬ x = y → se_W G l d M tgt L st h C S Φ) (kf : x = y → se_W G l d M (pc + 3) L st h C S Φ) : se_W G l d M pc L (.int y :: .int x :: st) h C S Φ := by
  intro p e R s m args below meth c D dA A θ0 n0 mc ms θ H locs cells slots ls hs hd h1 h2 h3 h4
  exact lv_icmp_ne hs.1 hs.2.1 hg ht (fun q => kt q p e R s m args below meth c D dA A θ0 n0 mc ms θ H locs cells slots ls hs (hd.stk (se_pop (se_pop hd.wst))) h1 h2 h3 h4) (fun q => kf q p e R s m args below meth c D dA A θ0 n0 mc ms θ H locs cells slots ls hs (hd.stk (se_pop (se_pop hd.wst))) h1 h2 h3 h4)
theorem se_if_lt {x : Int32} {off : Int} {tgt : Nat} (hg : decode M.2.1 pc = .ok (.ifCond .lt off, 3)) (ht : (pc : Int) + off = (tgt : Int)) (kt : x < 0 → se_W G l d M tgt L st h C S Φ) (kf : ¬ x < 0 → se_W G l d M (pc + 3) L st h C S Φ) : se_W G l d M pc L (.int x :: st) h C S Φ := by
  intro p e R s m args below meth c D dA A θ0 n0 mc ms θ H locs cells slots ls hs hd h1 h2 h3 h4
  exact lv_if_lt hs.1 hs.2.1 hg ht (fun q => kt q p e R s m args below meth c D dA A θ0 n0 mc ms θ H locs cells slots ls hs (hd.stk (se_pop hd.wst)) h1 h2 h3 h4) (fun q => kf q p e R s m args below meth c D dA A θ0 n0 mc ms θ H locs cells slots ls hs (hd.stk (se_pop hd.wst)) h1 h2 h3 h4)
theorem se_icmp_lt {x y : Int32} {off : Int} {tgt : Nat} (hg : decode M.2.1 pc = .ok (.if_icmp .lt off, 3)) (ht : (pc : Int) + off = (tgt : Int)) (kt : x < y → se_W G l d M tgt L st h C S Φ) (kf : ¬ x < y → se_W G l d M (pc + 3) L st h C S Φ) : se_W G l d M pc L (.int y :: .int x :: st) h C S Φ := by
  intro p e R s m args below meth c D dA A θ0 n0 mc ms θ H locs cells slots ls hs hd h1 h2 h3 h4
  exact lv_icmp_lt hs.1 hs.2.1 hg ht (fun q => kt q p e R s m args below meth c D dA A θ0 n0 mc ms θ H locs cells slots ls hs (hd.stk (se_pop (se_pop hd.wst))) h1 h2 h3 h4) (fun q => kf q p e R s m args below meth c D dA A θ0 n0 mc ms θ H locs cells slots ls hs (hd.stk (se_pop (se_pop hd.wst))) h1 h2 h3 h4)
theorem se_if_ge {x : Int32} {off : Int} {tgt : Nat} (hg : decode M.2.1 pc = .ok (.ifCond .ge off, 3)) (ht : (pc : Int) + off = (tgt : Int)) (kt : 0 ≤ x → se_W G l d M tgt L st h C S Φ) (kf : ¬ 0 ≤ x → se_W G l d M (pc + 3) L st h C S Φ) : se_W G l d M pc L (.int x :: st) h C S Φ := by
  intro p e R s m args below meth c D dA A θ0 n0 mc ms θ H locs cells slots ls hs hd h1 h2 h3 h4
  exact lv_if_ge hs.1 hs.2.1 hg ht (fun q => kt q p e R s m args below meth c D dA A θ0 n0 mc ms θ H locs cells slots ls hs (hd.stk (se_pop hd.wst)) h1 h2 h3 h4) (fun q => kf q p e R s m args below meth c D dA A θ0 n0 mc ms θ H locs cells slots ls hs (hd.stk (se_pop hd.wst)) h1 h2 h3 h4)
theorem se_icmp_ge {x y : Int32} {off : Int} {tgt : Nat} (hg : decode M.2.1 pc = .ok (.if_icmp .ge off, 3)) (ht : (pc : Int) + off = (tgt : Int)) (kt : y ≤ x → se_W G l d M tgt L st h C S Φ) (kf : ¬ y ≤ x → se_W G l d M (pc + 3) L st h C S Φ) : se_W G l d M pc L (.int y :: .int x :: st) h C S Φ := by
  intro p e R s m args below meth c D dA A θ0 n0 mc ms θ H locs cells slots ls hs hd h1 h2 h3 h4
  exact lv_icmp_ge hs.1 hs.2.1 hg ht (fun q => kt q p e R s m args below meth c D dA A θ0 n0 mc ms θ H locs cells slots ls hs (hd.stk (se_pop (se_pop hd.wst))) h1 h2 h3 h4) (fun q => kf q p e R s m args below meth c D dA A θ0 n0 mc ms θ H locs cells slots ls hs (hd.stk (se_pop (se_pop hd.wst))) h1 h2 h3 h4)
theorem se_if_gt {x : Int32} {off : Int} {tgt : Nat} (hg : decode M.2.1 pc = .ok (.ifCond .gt off, 3)) (ht : (pc : Int) + off = (tgt : Int)) (kt : 0 < x → se_W G l d M tgt L st h C S Φ) (kf : ¬ 0 < x → se_W G l d M (pc + 3) L st h C S Φ) : se_W G l d M pc L (.int x :: st) h C S Φ := by
  intro p e R s m args below meth c D dA A θ0 n0 mc ms θ H locs cells slots ls hs hd h1 h2 h3 h4
  exact lv_if_gt hs.1 hs.2.1 hg ht (fun q => kt q p e R s m args below meth c D dA A θ0 n0 mc ms θ H locs cells slots ls hs (hd.stk (se_pop hd.wst)) h1 h2 h3 h4) (fun q => kf q p e R s m args below meth c D dA A θ0 n0 mc ms θ H locs cells slots ls hs (hd.stk (se_pop hd.wst)) h1 h2 h3 h4)
theorem se_icmp_gt {x y : Int32} {off : Int} {tgt : Nat} (hg : decode M.2.1 pc = .ok (.if_icmp .gt off, 3)) (ht : (pc : Int) + off = (tgt : Int)) (kt : y < x → se_W G l d M tgt L st h C S Φ) (kf : ¬ y < x → se_W G l d M (pc + 3) L st h C S Φ) : se_W G l d M pc L (.int y :: .int x :: st) h C S Φ := by
  intro p e R s m args below meth c D dA A θ0 n0 mc ms θ H locs cells slots ls hs hd h1 h2 h3 h4
  exact lv_icmp_gt hs.1 hs.2.1 hg ht (fun q => kt q p e R s m args below meth c D dA A θ0 n0 mc ms θ H locs cells slots ls hs (hd.stk (se_pop (se_pop hd.wst))) h1 h2 h3 h4) (fun q => kf q p e R s m args below meth c D dA A θ0 n0 mc ms θ H locs cells slots ls hs (hd.stk (se_pop (se_pop hd.wst))) h1 h2 h3 h4)
theorem se_if_le {x : Int32} {off : Int} {tgt : Nat} (hg : decode M.2.1 pc = .ok (.ifCond .le off, 3)) (ht : (pc : Int) + off = (tgt : Int)) (kt : x ≤ 0 → se_W G l d M tgt L st h C S Φ) (kf : ¬ x ≤ 0 → se_W G l d M (pc + 3) L st h C S Φ) : se_W G l d M pc L (.int x :: st) h C S Φ := by
  intro p e R s m args below meth c D dA A θ0 n0 mc ms θ H locs cells slots ls hs hd h1 h2 h3 h4
  exact lv_if_le hs.1 hs.2.1 hg ht (fun q => kt q p e R s m args below meth c D dA A θ0 n0 mc ms θ H locs cells slots ls hs (hd.stk (se_pop hd.wst)) h1 h2 h3 h4) (fun q => kf q p e R s m args below meth c D dA A θ0 n0 mc ms θ H locs cells slots ls hs (hd.stk (se_pop hd.wst)) h1 h2 h3 h4)
theorem se_icmp_le {x y : Int32} {off : Int} {tgt : Nat} (hg : decode M.2.1 pc = .ok (.if_icmp .le off, 3)) (ht : (pc : Int) + off = (tgt : Int)) (kt : x ≤ y → se_W G l d M tgt L st h C S Φ) (kf : ¬ x ≤ y → se_W G l d M (pc + 3) L st h C S Φ) : se_W G l d M pc L (.int y :: .int x :: st) h C S Φ := by
  intro p e R s m args below meth c D dA A θ0 n0 mc ms θ H locs cells slots ls hs hd h1 h2 h3 h4
  exact lv_icmp_le hs.1 hs.2.1 hg ht (fun q => kt q p e R s m args below meth c D dA A θ0 n0 mc ms θ H locs cells slots ls hs (hd.stk (se_pop (se_pop hd.wst))) h1 h2 h3 h4) (fun q => kf q p e R s m args below meth c D dA A θ0 n0 mc ms θ H locs cells slots ls hs (hd.stk (se_pop (se_pop hd.wst))) h1 h2 h3 h4)
theorem se_goto {off : Int} {tgt : Nat} (hg : decode M.2.1 pc = .ok (.goto off, 3)) (ht : (pc : Int) + off = (tgt : Int)) (k : se_W G l d M tgt L st h C S Φ) : se_W G l d M pc L st h C S Φ := by
  intro p e R s m args below meth c D dA A θ0 n0 mc ms θ H locs cells slots ls hs hd h1 h2 h3 h4
  exact lv_goto hs.1 hs.2.1 hg ht (k p e R s m args below meth c D dA A θ0 n0 mc ms θ H locs cells slots ls hs hd h1 h2 h3 h4)
theorem se_ifnonnull {x : Nat} {off : Int} {tgt : Nat} (hg : decode M.2.1 pc = .ok (.ifnonnull off, 3)) (ht : (pc : Int) + off = (tgt : Int)) (k : se_W G l d M tgt L st h C S Φ) : se_W G l d M pc L (.ref x :: st) h C S Φ := by
  intro p e R s m args below meth c D dA A θ0 n0 mc ms θ H locs cells slots ls hs hd h1 h2 h3 h4
  exact lv_ifnonnull hs.1 hs.2.1 hg ht (k p e R s m args below meth c D dA A θ0 n0 mc ms θ H locs cells slots ls hs (hd.stk (se_pop hd.wst)) h1 h2 h3 h4)
theorem se_ifnull {x : Nat} {off : Int} (hg : decode M.2.1 pc = .ok (.ifnull off, 3)) (k : se_W G l d M (pc + 3) L st h C S Φ) : se_W G l d M pc L (.ref x :: st) h C S Φ := by
  intro p e R s m args below meth c D dA A θ0 n0 mc ms θ H locs cells slots ls hs hd h1 h2 h3 h4
  exact lv_ifnull hs.1 hs.2.1 hg (k p e R s m args below meth c D dA A θ0 n0 mc ms θ H locs cells slots ls hs (hd.stk (se_pop hd.wst)) h1 h2 h3 h4)
theorem se_ifnullN {off : Int} {tgt : Nat} (hg : decode M.2.1 pc = .ok (.ifnull off, 3)) (ht : (pc : Int) + off = (tgt : Int)) (k : se_W G l d M tgt L st h C S Φ) : se_W G l d M pc L (.null :: st) h C S Φ := by
  intro p e R s m args below meth c D dA A θ0 n0 mc ms θ H locs cells slots ls hs hd h1 h2 h3 h4
  exact lv_ifnullN hs.1 hs.2.1 hg ht (k p e R s m args below meth c D dA A θ0 n0 mc ms θ H locs cells slots ls hs (hd.stk (se_pop hd.wst)) h1 h2 h3 h4)
theorem se_ifnonnullN {off : Int} (hg : decode M.2.1 pc = .ok (.ifnonnull off, 3)) (k : se_W G l d M (pc + 3) L st h C S Φ) : se_W G l d M pc L (.null :: st) h C S Φ := by
  intro p e R s m args below meth c D dA A θ0 n0 mc ms θ H locs cells slots ls hs hd h1 h2 h3 h4
  exact lv_ifnonnullN hs.1 hs.2.1 hg (k p e R s m args below meth c D dA A θ0 n0 mc ms θ H locs cells slots ls hs (hd.stk (se_pop hd.wst)) h1 h2 h3 h4)
theorem se_istore_n {i : Fin 4} {x : Int32} (hg : decode M.2.1 pc = .ok (.istore_n i, 1)) (hi : (i : Nat) < M.2.2.1) (L' : List (Option Value)) (hL : se_s1 L (i : Nat) (.int x) = L') (k : se_W G l d M (pc + 1) L' st h C S Φ) : se_W G l d M pc L (.int x :: st) h C S Φ := by
  subst hL
  intro p e R s m args below meth c D dA A θ0 n0 mc ms θ H locs cells slots ls hs hd h1 h2 h3 h4 T hT X
  obtain ⟨ls', e', g'⟩ := se_store1 (v := .int x) hd.2.2.2.2.2.1 hi rfl
  obtain ⟨t, a, b⟩ := k p e R s m args below meth c D dA A θ0 n0 mc ms θ H locs cells slots ls' hs (hd.loc g' (se_wL_s1 hd.2.2.2.2.2.2.1 (hd.wst _ List.mem_cons_self)) (se_pop hd.wst)) h1 h2 h3 h4 T hT X
  refine ⟨t, ?_, b⟩
  have hexec := hs.1
  have hb := hs.2.1
  simp only [List.map_cons, se_v] at e' ⊢
  jvm_step X.here [X.here.top, ↓top_set X.here.top, hexec, hb, hg, e']
  exact a
theorem se_lstore_n {i : Fin 4} {x : Int64} (hg : decode M.2.1 pc = .ok (.lstore_n i, 1)) (hi : (i : Nat) + 1 < M.2.2.1) (L' : List (Option Value)) (hL : se_s2 L (i : Nat) (.long x) = L') (k : se_W G l d M (pc + 1) L' st h C S Φ) : se_W G l d M pc L (.long x :: st) h C S Φ := by
  subst hL
  intro p e R s m args below meth c D dA A θ0 n0 mc ms θ H locs cells slots ls hs hd h1 h2 h3 h4 T hT X
  obtain ⟨ls', e', g'⟩ := se_store2 (v := .long x) hd.2.2.2.2.2.1 hi rfl
  obtain ⟨t, a, b⟩ := k p e R s m args below meth c D dA A θ0 n0 mc ms θ H locs cells slots ls' hs (hd.loc g' (se_wL_s2 hd.2.2.2.2.2.2.1 (hd.wst _ List.mem_cons_self)) (se_pop hd.wst)) h1 h2 h3 h4 T hT X
  refine ⟨t, ?_, b⟩
  have hexec := hs.1
  have hb := hs.2.1
  simp only [List.map_cons, se_v] at e' ⊢
  jvm_step X.here [X.here.top, ↓top_set X.here.top, hexec, hb, hg, e']
  exact a
theorem se_astore_n {i : Fin 4} {x : Nat} (hg : decode M.2.1 pc = .ok (.astore_n i, 1)) (hi : (i : Nat) < M.2.2.1) (L' : List (Option Value)) (hL : se_s1 L (i : Nat) (.ref x) = L') (k : se_W G l d M (pc + 1) L' st h C S Φ) : se_W G l d M pc L (.ref x :: st) h C S Φ := by
  subst hL
  intro p e R s m args below meth c D dA A θ0 n0 mc ms θ H locs cells slots ls hs hd h1 h2 h3 h4 T hT X
  obtain ⟨ls', e', g'⟩ := se_store1 (v := .ref x) hd.2.2.2.2.2.1 hi rfl
  obtain ⟨t, a, b⟩ := k p e R s m args below meth c D dA A θ0 n0 mc ms θ H locs cells slots ls' hs (hd.loc g' (se_wL_s1 hd.2.2.2.2.2.2.1 (hd.wst _ List.mem_cons_self)) (se_pop hd.wst)) h1 h2 h3 h4 T hT X
  refine ⟨t, ?_, b⟩
  have hexec := hs.1
  have hb := hs.2.1
  simp only [List.map_cons, se_v] at e' ⊢
  jvm_step X.here [X.here.top, ↓top_set X.here.top, hexec, hb, hg, e', Value.isRef]
  exact a
theorem se_astore_nN {i : Fin 4}  (hg : decode M.2.1 pc = .ok (.astore_n i, 1)) (hi : (i : Nat) < M.2.2.1) (L' : List (Option Value)) (hL : se_s1 L (i : Nat) (.null) = L') (k : se_W G l d M (pc + 1) L' st h C S Φ) : se_W G l d M pc L (.null :: st) h C S Φ := by
  subst hL
  intro p e R s m args below meth c D dA A θ0 n0 mc ms θ H locs cells slots ls hs hd h1 h2 h3 h4 T hT X
  obtain ⟨ls', e', g'⟩ := se_store1 (v := .null) hd.2.2.2.2.2.1 hi rfl
  obtain ⟨t, a, b⟩ := k p e R s m args below meth c D dA A θ0 n0 mc ms θ H locs cells slots ls' hs (hd.loc g' (se_wL_s1 hd.2.2.2.2.2.2.1 (hd.wst _ List.mem_cons_self)) (se_pop hd.wst)) h1 h2 h3 h4 T hT X
  refine ⟨t, ?_, b⟩
  have hexec := hs.1
  have hb := hs.2.1
  simp only [List.map_cons, se_v] at e' ⊢
  jvm_step X.here [X.here.top, ↓top_set X.here.top, hexec, hb, hg, e', Value.isRef]
  exact a
theorem se_istore {i : Nat} {x : Int32} (hg : decode M.2.1 pc = .ok (.istore i, 2)) (hi : i < M.2.2.1) (L' : List (Option Value)) (hL : se_s1 L i (.int x) = L') (k : se_W G l d M (pc + 2) L' st h C S Φ) : se_W G l d M pc L (.int x :: st) h C S Φ := by
  subst hL
  intro p e R s m args below meth c D dA A θ0 n0 mc ms θ H locs cells slots ls hs hd h1 h2 h3 h4 T hT X
  obtain ⟨ls', e', g'⟩ := se_store1 (v := .int x) hd.2.2.2.2.2.1 hi rfl
  obtain ⟨t, a, b⟩ := k p e R s m args below meth c D dA A θ0 n0 mc ms θ H locs cells slots ls' hs (hd.loc g' (se_wL_s1 hd.2.2.2.2.2.2.1 (hd.wst _ List.mem_cons_self)) (se_pop hd.wst)) h1 h2 h3 h4 T hT X
  refine ⟨t, ?_, b⟩
  have hexec := hs.1
  have hb := hs.2.1
  simp only [List.map_cons, se_v] at e' ⊢
  jvm_step X.here [X.here.top, ↓top_set X.here.top, hexec, hb, hg, e']
  exact a
theorem se_lstore {i : Nat} {x : Int64} (hg : decode M.2.1 pc = .ok (.lstore i, 2)) (hi : i + 1 < M.2.2.1) (L' : List (Option Value)) (hL : se_s2 L i (.long x) = L') (k : se_W G l d M (pc + 2) L' st h C S Φ) : se_W G l d M pc L (.long x :: st) h C S Φ := by
  subst hL
  intro p e R s m args below meth c D dA A θ0 n0 mc ms θ H locs cells slots ls hs hd h1 h2 h3 h4 T hT X
  obtain ⟨ls', e', g'⟩ := se_store2 (v := .long x) hd.2.2.2.2.2.1 hi rfl
  obtain ⟨t, a, b⟩ := k p e R s m args below meth c D dA A θ0 n0 mc ms θ H locs cells slots ls' hs (hd.loc g' (se_wL_s2 hd.2.2.2.2.2.2.1 (hd.wst _ List.mem_cons_self)) (se_pop hd.wst)) h1 h2 h3 h4 T hT X
  refine ⟨t, ?_, b⟩
  have hexec := hs.1
  have hb := hs.2.1
  simp only [List.map_cons, se_v] at e' ⊢
  jvm_step X.here [X.here.top, ↓top_set X.here.top, hexec, hb, hg, e']
  exact a
theorem se_astore {i : Nat} {x : Nat} (hg : decode M.2.1 pc = .ok (.astore i, 2)) (hi : i < M.2.2.1) (L' : List (Option Value)) (hL : se_s1 L i (.ref x) = L') (k : se_W G l d M (pc + 2) L' st h C S Φ) : se_W G l d M pc L (.ref x :: st) h C S Φ := by
  subst hL
  intro p e R s m args below meth c D dA A θ0 n0 mc ms θ H locs cells slots ls hs hd h1 h2 h3 h4 T hT X
  obtain ⟨ls', e', g'⟩ := se_store1 (v := .ref x) hd.2.2.2.2.2.1 hi rfl
  obtain ⟨t, a, b⟩ := k p e R s m args below meth c D dA A θ0 n0 mc ms θ H locs cells slots ls' hs (hd.loc g' (se_wL_s1 hd.2.2.2.2.2.2.1 (hd.wst _ List.mem_cons_self)) (se_pop hd.wst)) h1 h2 h3 h4 T hT X
  refine ⟨t, ?_, b⟩
  have hexec := hs.1
  have hb := hs.2.1
  simp only [List.map_cons, se_v] at e' ⊢
  jvm_step X.here [X.here.top, ↓top_set X.here.top, hexec, hb, hg, e', Value.isRef]
  exact a
theorem se_astoreN {i : Nat}  (hg : decode M.2.1 pc = .ok (.astore i, 2)) (hi : i < M.2.2.1) (L' : List (Option Value)) (hL : se_s1 L i (.null) = L') (k : se_W G l d M (pc + 2) L' st h C S Φ) : se_W G l d M pc L (.null :: st) h C S Φ := by
  subst hL
  intro p e R s m args below meth c D dA A θ0 n0 mc ms θ H locs cells slots ls hs hd h1 h2 h3 h4 T hT X
  obtain ⟨ls', e', g'⟩ := se_store1 (v := .null) hd.2.2.2.2.2.1 hi rfl
  obtain ⟨t, a, b⟩ := k p e R s m args below meth c D dA A θ0 n0 mc ms θ H locs cells slots ls' hs (hd.loc g' (se_wL_s1 hd.2.2.2.2.2.2.1 (hd.wst _ List.mem_cons_self)) (se_pop hd.wst)) h1 h2 h3 h4 T hT X
  refine ⟨t, ?_, b⟩
  have hexec := hs.1
  have hb := hs.2.1
  simp only [List.map_cons, se_v] at e' ⊢
  jvm_step X.here [X.here.top, ↓top_set X.here.top, hexec, hb, hg, e', Value.isRef]
  exact a
theorem se_iinc {i : Nat} {n : Int} {x : Int32} (v : Int32) (hv : Int32.ofInt n = v) (hl : L[i]? = some (some (.int x))) (hg : decode M.2.1 pc = .ok (.iinc i n, 3)) (L' : List (Option Value)) (hL : se_s1 L i (.int (x + v)) = L') (k : se_W G l d M (pc + 3) L' st h C S Φ) : se_W G l d M pc L st h C S Φ := by
  intro p e R s m args below meth c D dA A θ0 n0 mc ms θ H locs cells slots ls hs hd h1 h2 h3 h4 T hT X
  subst hv
  subst hL
  have hi : i < M.2.2.1 := by rw [← hd.2.2.2.2.2.1.2.2.1]; exact (List.getElem?_eq_some_iff.mp hl).1
  obtain ⟨ls', e', g'⟩ := se_store1 (v := .int (x + Int32.ofInt n)) hd.2.2.2.2.2.1 hi rfl
  have hl9 : ls[i]? = some (.val (.int x)) := hd.2.2.2.2.2.1.2.2.2 _ _ hl
  obtain ⟨t, a, b⟩ := k p e R s m args below meth c D dA A θ0 n0 mc ms θ H locs cells slots ls' hs (hd.loc g' (se_wL_s1 hd.2.2.2.2.2.2.1 (se_i _ _)) hd.wst) h1 h2 h3 h4 T hT X
  refine ⟨t, ?_, b⟩
  have hexec := hs.1
  have hb := hs.2.1
  simp only [se_v] at e'
  jvm_step X.here [X.here.top, ↓top_set X.here.top, hexec, hb, hg, hl9, e']
  exact a
/-! ===== cells ===== -/
theorem se_Dy.P {D : va_G} {dA : FieldType → ClassId} {A : Nat → Prop} {θ0 : Nat → Nat} {n0 : Nat} {θ : Nat → Nat} {s : State} {H : Heap} {locs : List Loc} {ls : Array Slot} (hd : se_Dy G M D dA A θ0 n0 θ s h H locs L st ls) : va_P D G.1 (se_w dA θ h) H := hd.1
/-- one cell is another -/
theorem se_Dy.set {D : va_G} {dA : FieldType → ClassId} {A : Nat → Prop} {θ0 : Nat → Nat} {n0 : Nat} {θ : Nat → Nat} {s : State} {H H1 : Heap} {locs locs1 : List Loc} {ls : Array Slot} {st' : List Value} {a : Nat} {x : se_E} (hd : se_Dy G M D dA A θ0 n0 θ s h H locs L st ls) (hx : se_we h.length x) (hw : ∀ v ∈ st', se_wv h.length v)
    (hP : va_P D G.1 ((se_w dA θ h).set a (θ a, se_e dA θ x)) H1) (hD : va_D A ((se_w dA θ h).set a (θ a, se_e dA θ x))) (hS : va_S A s.heap H1 locs1) : se_Dy G M D dA A θ0 n0 θ s (h.set a x) H1 locs1 L st' ls := by
  obtain ⟨a1, a2, a3, a4, a5, a6, a7, a8, a9⟩ := hd
  rw [← se_w_set] at hP hD
  exact ⟨hP, hD, hS, se_wh_set a4 hx, by rw [List.length_set]; exact hw, a6, by rw [List.length_set]; exact a7, by rw [List.length_set]; exact a8, a9⟩
/-- one cell more -/
theorem se_Dy.grow {D : va_G} {dA : FieldType → ClassId} {A : Nat → Prop} {θ0 : Nat → Nat} {n0 : Nat} {θ : Nat → Nat} {s : State} {H H1 : Heap} {locs locs1 : List Loc} {ls : Array Slot} {st' : List Value} {q : Nat} {x : se_E} {y : va_E} (hd : se_Dy G M D dA A θ0 n0 θ s h H locs L st ls) (hx : ∀ n, se_we n x) (hy : ∀ θ, se_e dA θ x = y) (hw : ∀ v ∈ st', se_wv h.length v)
    (hP : va_P D G.1 (se_w dA θ h ++ [(q, y)]) H1) (hD : va_D A (se_w dA θ h ++ [(q, y)])) (hS : va_S A s.heap H1 locs1) : se_Dy G M D dA A θ0 n0 (va_up θ h.length q) s (h ++ [x]) H1 locs1 L (.ref h.length :: st') ls ∧ (Value.ref h.length :: st').map (se_v (va_up θ h.length q)) = .ref q :: st'.map (se_v θ) := by
  obtain ⟨a1, a2, a3, a4, a5, a6, a7, a8, a9⟩ := hd
  have hθ : ∀ k, k < h.length → va_up θ h.length q k = θ k := fun k hk => if_neg (Nat.ne_of_lt hk)
  have hq : va_up θ h.length q h.length = q := if_pos rfl
  have hl : (h ++ [x]).length = h.length + 1 := by simp
  have e := se_w_push (dA := dA) (e := x) a4 hθ hq
  rw [hy] at e
  rw [← e] at hP hD
  refine ⟨⟨hP, hD, hS, se_wh_push a4 (hx _), ?_, se_L_congr a6 a7 hθ, ?_, by omega, fun k hk => by rw [hθ k (by omega)]; exact a9 k hk⟩, ?_⟩
  · rw [hl]; exact se_push (se_r (by omega)) (fun v hv => se_wv_mono (hw v hv) (by omega))
  · rw [hl]; exact fun i v hv => se_wv_mono (a7 i v hv) (by omega)
  · show Value.ref (va_up θ h.length q h.length) :: st'.map (se_v (va_up θ h.length q)) = _
    rw [hq, se_vs_congr hw hθ]
/-- what is known of a class of ours -/
def se_cls (G : se_G) (ci : Nat) (C : String) (T : u_T) (N : Nat) (ty : Nat → FieldType) : Prop := G.1[ci]? = some (C, T, N) ∧ (∀ w ∈ u_ws C T N, w ∈ G.2.1) ∧ (∀ k, k < N → parseFieldDescriptor (T k).2.2.1 = some (ty k)) ∧ ∀ a, a < N → ∀ b, b < N → a ≠ b → (T a).2.1 ≠ (T b).2.1
theorem se_getf {C0 : String} {T : u_T} {N ci index : Nat} {ty : Nat → FieldType} (hc : se_cls G ci C0 T N ty) (k : Nat) {a : Nat} {fs : List Value} {v : Value} (hg : decode M.2.1 pc = .ok (.getfield index, 3)) (hl : Cond.fieldLink M.1.cls index C0 (T k).2.1 (T k).2.2.1 ∈ G.2.1) (hT : (T k).1 = C0) (hk : k < N) (ha : h[a]? = some (.inr (ci, fs))) (hv : fs[k]? = some v)
    (kk : se_W G l d M (pc + 3) L (v :: st) h C S Φ) : se_W G l d M pc L (.ref a :: st) h C S Φ := by
  intro p e R s m args below meth c D dA A θ0 n0 mc ms θ H locs cells slots ls hs hd h1 h2 h3 h4
  refine va_get (D := D) (ci := ci) (v := se_v θ v) (C := C0) (T := T) (N := N) hs.1 hs.2.1 hs.2.2.2.2.2.1 hc.2.1 hs.2.2.2.2.1 hs.2.2.2.2.2.2.2.2.1 hd.1 a (se_w_at ha) hc.1 k hk (hs.2.2.2.2.2.1 _ hl) (fun x h9 => by rwa [hT] at h9) (by rw [List.getElem?_map, hv]; rfl) hg ?_
  exact kk p e R s m args below meth c D dA A θ0 n0 mc ms θ H locs cells slots ls hs (hd.stk (se_push (hd.2.2.2.1 a _ ha v (List.mem_of_getElem? hv)) (se_pop hd.wst))) h1 h2 h3 h4
theorem se_map_set (θ : Nat → Nat) (fs : List Value) (k : Nat) (v : Value) : (fs.map (se_v θ)).set k (se_v θ v) = (fs.set k v).map (se_v θ) := List.map_set.symm
theorem se_we_set {n ci : Nat} {fs : List Value} {k : Nat} {v : Value} (h : se_we n (.inr (ci, fs))) (hv : se_wv n v) : se_we n (.inr (ci, fs.set k v)) := fun w hw => (List.mem_or_eq_of_mem_set hw).elim (h w) (fun e => by rw [e]; exact hv)
theorem se_putf {C0 : String} {T : u_T} {N ci index : Nat} {ty : Nat → FieldType} (hc : se_cls G ci C0 T N ty) (k : Nat) {a : Nat} {fs : List Value} {v : Value} (hg : decode M.2.1 pc = .ok (.putfield index, 3)) (hl : Cond.fieldLink M.1.cls index C0 (T k).2.1 (T k).2.2.1 ∈ G.2.1) (hT : (T k).1 = C0) (hk : k < N) (hfin : (T k).2.2.2 = false) (hn : ∀ θ, narrow (ty k) (se_v θ v) = se_v θ v ∧ fits (ty k) (se_v θ v) = true) (ha : h[a]? = some (.inr (ci, fs))) (hkl : k < fs.length)
    (kk : se_W G l d M (pc + 3) L st (h.set a (.inr (ci, fs.set k v))) C S Φ) : se_W G l d M pc L (v :: .ref a :: st) h C S Φ := by
  intro p e R s m args below meth c D dA A θ0 n0 mc ms θ H locs cells slots ls hs hd h1 h2 h3 h4
  refine va_put (D := D) (ci := ci) (v := se_v θ v) (ty := ty k) (C := C0) (T := T) (N := N) hs.1 hs.2.1 hs.2.2.2.2.2.1 hc.2.1 ty hc.2.2.1 hc.2.2.2 hs.2.2.2.2.1 hs.2.2.2.2.2.2.2.2.1 hd.1 hd.2.1 hd.2.2.1 a (se_w_at ha) hc.1 k hk (hs.2.2.2.2.2.1 _ hl) (fun x h9 => by rwa [hT] at h9) hfin (hc.2.2.1 k hk) (hn θ).1 (hn θ).2 (by rw [List.length_map]; exact hkl) hg (fun H1 locs1 hP hD hS => ?_)
  rw [se_map_set] at hP hD
  exact kk p e R s m args below meth c D dA A θ0 n0 mc ms θ H1 locs1 cells slots ls hs (hd.set (x := .inr (ci, fs.set k v)) (se_we_set (hd.2.2.2.1 a _ ha) (hd.wst v List.mem_cons_self)) (se_pop (se_pop hd.wst)) hP hD hS) h1 h2 h3 h4
theorem se_putF {C0 : String} {T : u_T} {N ci index : Nat} {ty : Nat → FieldType} (hc : se_cls G ci C0 T N ty) (k : Nat) {a : Nat} {fs : List Value} {v : Value} (hg : decode M.2.1 pc = .ok (.putfield index, 3)) (hl : Cond.fieldLink M.1.cls index C0 (T k).2.1 (T k).2.2.1 ∈ G.2.1) (hT : (T k).1 = C0) (hk : k < N) (hfin : (T k).2.2.2 = true) (hMi : M.1.name = "<init>") (hMc : M.1.cls = C0) (hn : ∀ θ, narrow (ty k) (se_v θ v) = se_v θ v ∧ fits (ty k) (se_v θ v) = true) (ha : h[a]? = some (.inr (ci, fs))) (hkl : k < fs.length)
    (kk : se_W G l d M (pc + 3) L st (h.set a (.inr (ci, fs.set k v))) C S Φ) : se_W G l d M pc L (v :: .ref a :: st) h C S Φ := by
  intro p e R s m args below meth c D dA A θ0 n0 mc ms θ H locs cells slots ls hs hd h1 h2 h3 h4
  have hin : meth.name = "<init>" := by rw [hs.2.2.2.2.2.2.2.2.2.2.2.2.1]; exact hMi
  refine va_putF (D := D) (ci := ci) (v := se_v θ v) (ty := ty k) (C := C0) (T := T) (N := N) hs.1 hs.2.1 hs.2.2.2.2.2.1 hc.2.1 ty hc.2.2.1 hc.2.2.2 hs.2.2.2.2.1 hs.2.2.2.2.2.2.2.2.1 hd.1 hd.2.1 hd.2.2.1 a (se_w_at ha) hc.1 k hk (hs.2.2.2.2.2.1 _ hl) (fun x h9 => by rwa [hT] at h9) hfin hin (by rw [hT]; exact hMc.symm) (hc.2.2.1 k hk) (hn θ).1 (hn θ).2 (by rw [List.length_map]; exact hkl) hg (fun H1 locs1 hP hD hS => ?_)
  rw [se_map_set] at hP hD
  exact kk p e R s m args below meth c D dA A θ0 n0 mc ms θ H1 locs1 cells slots ls hs (hd.set (x := .inr (ci, fs.set k v)) (se_we_set (hd.2.2.2.1 a _ ha) (hd.wst v List.mem_cons_self)) (se_pop (se_pop hd.wst)) hP hD hS) h1 h2 h3 h4
/-- a value that isn't a cell -/
def se_nr : Value → Bool
  | .ref _ => false
  | .retAddr _ => false
  | _ => true
theorem se_new {C0 : String} {T : u_T} {N ci index : Nat} {ty : Nat → FieldType} (hc : se_cls G ci C0 T N ty) (fs : List Value) {C' S' : Nat} (hg : decode M.2.1 pc = .ok (.new index, 3)) (hl : Cond.classLink M.1.cls index C0 ∈ G.2.1) (hin : Cond.instantiable C0 N ∈ G.2.1) (hini : Cond.initialized C0 ∈ G.2.1) (hfs : ∀ j, j < N → defaultValue (ty j) = vp_V fs j) (hnr : fs.all se_nr = true) (hC : C' + 1 ≤ C) (hS : S' + N ≤ S)
    (kk : se_W G l d M (pc + 3) L (.ref h.length :: st) (h ++ [.inr (ci, fs)]) C' S' Φ) : se_W G l d M pc L st h C S Φ := by
  intro p e R s m args below meth c D dA A θ0 n0 mc ms θ H locs cells slots ls hs hd h1 h2 h3 h4
  refine va_new (ci := ci) (fs := fs) (C := C0) (T := T) (N := N) hs.1 hs.2.1 hs.2.2.2.2.2.1 hc.2.1 ty hc.2.2.1 hs.2.2.2.2.1 (hs.2.2.2.2.2.1 _ hl) (hs.2.2.2.2.2.1 _ hin) (hs.2.2.2.2.2.1 _ hini) hs.2.2.2.2.2.2.2.2.1 hd.1 hd.2.1 hd.2.2.1 hs.2.2.2.2.2.2.2.2.2.1 hc.1 hfs (by omega) (by omega) hg (fun q H1 hP hD hS1 => ?_)
  have hmap : ∀ θ, fs.map (se_v θ) = fs := fun θ => by
    rw [List.map_congr_left (g := id) (fun v hv => ?_), List.map_id]
    have h9 := List.all_eq_true.mp hnr v hv
    cases v with
    | ref k => cases h9
    | retAddr k => cases h9
    | _ => rfl
  obtain ⟨g1, g2⟩ := hd.grow (x := .inr (ci, fs)) (fun n v hv k hk => by have h9 := List.all_eq_true.mp hnr v hv; rw [hk] at h9; cases h9) (fun θ => by show Sum.inr (ci, fs.map (se_v θ)) = _; rw [hmap]) hd.wst hP hD hS1
  rw [← g2]
  exact kk p e R s m args below meth c D dA A θ0 n0 mc ms _ H1 locs (cells + 1) (slots + N) ls hs g1 (by omega) (by omega) h3 h4
theorem se_tys_at {dA : FieldType → ClassId} {t0 : Nat} {ty : FieldType} (ht : G.2.2.1[t0]? = some ty) : (se_tys G dA)[t0]? = some (dA ty, ty) := by
  rw [se_tys, List.getElem?_map, ht]; rfl
/-- the array types that we make: ints, longs, booleans -/
def se_a0 (ty : FieldType) (N : Nat) : vp_A := match ty with
  | .long => (N, .inr (.inl (fun _ => 0)))
  | _ => (N, .inl (fun _ => 0))
theorem se_newa {atype : ArrayType} {ty : FieldType} (t0 : Nat) {n : Int32} {N C' S' : Nat} (hg : decode M.2.1 pc = .ok (.newarray atype, 2)) (hty : newarray.typeOf atype = ty) (hp : ty = .int ∨ ty = .long ∨ ty = .boolean) (ht : G.2.2.1[t0]? = some ty) (hl : Cond.arrayClass ty ∈ G.2.1) (hn : ¬ n < 0) (hN : n.toNatClampNeg = N) (hb : N ≤ 1000000) (hC : C' + 1 ≤ C) (hS : S' + N ≤ S)
    (kk : se_W G l d M (pc + 2) L (.ref h.length :: st) (h ++ [.inl (ty, se_a0 ty N)]) C' S' Φ) : se_W G l d M pc L (.int n :: st) h C S Φ := by
  intro p e R s m args below meth c D dA A θ0 n0 mc ms θ H locs cells slots ls hs hd h1 h2 h3 h4
  have hcell : ∀ cA : ClassId, vp_cell cA (se_a0 ty N) = arrV cA N (fun _ => defaultValue ty) := by
    rcases hp with rfl | rfl | rfl <;> exact fun cA => rfl
  have hbytes : N * componentBytes ty ≤ 536870912 := by
    rcases hp with rfl | rfl | rfl <;> simp [componentBytes] <;> omega
  refine va_newa (a0 := se_a0 ty N) hs.1 hs.2.1 (by rw [hty]; exact hs.2.2.2.2.2.1 _ hl) hty hs.2.2.2.2.2.2.2.2.1 hd.1 hd.2.1 hd.2.2.1 hs.2.2.2.2.2.2.2.2.2.1 hcell hn hN hbytes (by omega) (by omega) hg (fun q cA H1 hK hP hD hS1 => ?_)
  have e1 : va_RA s cA ty := (hK.2 (se_tys G dA).length (cA, ty) (by rw [List.getElem?_append_right (Nat.le_refl _)]; simp)).2
  have e2 : va_RA s (dA ty) ty := (hs.2.2.2.2.2.2.2.2.1.2 t0 _ (se_tys_at ht)).2
  have e3 : cA = dA ty := by
    rcases hp with rfl | rfl | rfl <;> exact Option.some.inj (Eq.trans (Eq.symm e1) e2)
  subst e3
  obtain ⟨g1, g2⟩ := hd.grow (x := .inl (ty, se_a0 ty N)) (fun n m f hf => by rcases hp with rfl | rfl | rfl <;> cases hf) (fun θ => by rcases hp with rfl | rfl | rfl <;> rfl) (se_pop hd.wst) hP hD hS1
  rw [← g2]
  exact kk p e R s m args below meth c D dA A θ0 n0 mc ms _ H1 locs (cells + 1) (slots + N) ls hs g1 (by omega) (by omega) h3 h4
theorem se_newq {C0 : String} {index : Nat} (t0 : Nat) {n : Int32} {N C' S' : Nat} (hg : decode M.2.1 pc = .ok (.anewarray index, 3)) (ht : G.2.2.1[t0]? = some (.object C0)) (hl : Cond.classLink M.1.cls index C0 ∈ G.2.1) (ho : Cond.arrayOver (.object C0) ∈ G.2.2.2.2.1) (hn : ¬ n < 0) (hN : n.toNatClampNeg = N) (hb : N ≤ 1000000) (hC : C' + 1 ≤ C) (hS : S' + N ≤ S)
    (kk : se_W G l d M (pc + 3) L (.ref h.length :: st) (h ++ [.inl (.object C0, (N, .inr (.inr (.inr (.inr (fun _ => none))))))]) C' S' Φ) : se_W G l d M pc L (.int n :: st) h C S Φ := by
  intro p e R s m args below meth c D dA A θ0 n0 mc ms θ H locs cells slots ls hs hd h1 h2 h3 h4
  refine va_newq (C := C0) hs.1 hs.2.1 hs.2.2.2.2.1 (hs.2.2.2.2.2.1 _ hl) (hs.2.2.2.2.2.2.2.2.2.2.1.2.2.2.1 _ ho) hs.2.2.2.2.2.2.2.2.1 hd.1 hd.2.1 hd.2.2.1 hs.2.2.2.2.2.2.2.2.2.1 hn hN (by omega) (by omega) (by omega) hg (fun q cA H1 hK hP hD hS1 => ?_)
  have e1 : va_RA s cA (.object C0) := (hK.2 (se_tys G dA).length (cA, .object C0) (by rw [List.getElem?_append_right (Nat.le_refl _)]; simp)).2
  have e2 : va_RA s (dA (.object C0)) (.object C0) := (hs.2.2.2.2.2.2.2.2.1.2 t0 _ (se_tys_at ht)).2
  have e3 : cA = dA (.object C0) := by
    obtain ⟨_, _, -, -, -, x1⟩ := e1
    obtain ⟨_, _, -, -, -, x2⟩ := e2
    exact Option.some.inj (x1.symm.trans x2)
  subst e3
  obtain ⟨g1, g2⟩ := hd.grow (x := .inl (.object C0, (N, .inr (.inr (.inr (.inr (fun _ => none))))))) (fun n m f hf j k hk => by cases hf; cases hk) (fun θ => rfl) (se_pop hd.wst) hP hD hS1
  rw [← g2]
  exact kk p e R s m args below meth c D dA A θ0 n0 mc ms _ H1 locs (cells + 1) (slots + N) ls hs g1 (by omega) (by omega) h3 h4
theorem se_iald (t0 : Nat) {a n : Nat} {f : Nat → Int32} {i : Int32} (hg : decode M.2.1 pc = .ok (.iaload, 1)) (ht : G.2.2.1[t0]? = some .int) (ha : h[a]? = some (.inl (.int, (n, .inl f)))) (hin : vp_in i n) (kk : se_W G l d M (pc + 1) L (.int (f i.toNatClampNeg) :: st) h C S Φ) : se_W G l d M pc L (.int i :: .ref a :: st) h C S Φ := by
  intro p e R s m args below meth c D dA A θ0 n0 mc ms θ H locs cells slots ls hs hd h1 h2 h3 h4
  exact va_iald hs.1 hs.2.1 hs.2.2.2.2.2.2.2.2.1 hd.1 a t0 (se_w_at ha) (se_tys_at ht) hin hg (kk p e R s m args below meth c D dA A θ0 n0 mc ms θ H locs cells slots ls hs (hd.stk (se_push (se_i _ _) (se_pop (se_pop hd.wst)))) h1 h2 h3 h4)
theorem se_zald (t0 : Nat) {a n : Nat} {f : Nat → Int32} {i : Int32} (hg : decode M.2.1 pc = .ok (.baload, 1)) (ht : G.2.2.1[t0]? = some .boolean) (ha : h[a]? = some (.inl (.boolean, (n, .inl f)))) (hin : vp_in i n) (kk : se_W G l d M (pc + 1) L (.int (f i.toNatClampNeg) :: st) h C S Φ) : se_W G l d M pc L (.int i :: .ref a :: st) h C S Φ := by
  intro p e R s m args below meth c D dA A θ0 n0 mc ms θ H locs cells slots ls hs hd h1 h2 h3 h4
  exact va_zald hs.1 hs.2.1 hs.2.2.2.2.2.2.2.2.1 hd.1 a t0 (se_w_at ha) (se_tys_at ht) hin hg (kk p e R s m args below meth c D dA A θ0 n0 mc ms θ H locs cells slots ls hs (hd.stk (se_push (se_i _ _) (se_pop (se_pop hd.wst)))) h1 h2 h3 h4)
theorem se_lald (t0 : Nat) {a n : Nat} {f : Nat → Int64} {i : Int32} (hg : decode M.2.1 pc = .ok (.laload, 1)) (ht : G.2.2.1[t0]? = some .long) (ha : h[a]? = some (.inl (.long, (n, .inr (.inl f))))) (hin : vp_in i n) (kk : se_W G l d M (pc + 1) L (.long (f i.toNatClampNeg) :: st) h C S Φ) : se_W G l d M pc L (.int i :: .ref a :: st) h C S Φ := by
  intro p e R s m args below meth c D dA A θ0 n0 mc ms θ H locs cells slots ls hs hd h1 h2 h3 h4
  exact va_lald hs.1 hs.2.1 hs.2.2.2.2.2.2.2.2.1 hd.1 a t0 (se_w_at ha) (se_tys_at ht) hin hg (kk p e R s m args below meth c D dA A θ0 n0 mc ms θ H locs cells slots ls hs (hd.stk (se_push (se_j _ _) (se_pop (se_pop hd.wst)))) h1 h2 h3 h4)
theorem se_iast (t0 : Nat) {a n : Nat} {f : Nat → Int32} {i : Int32} {x : Int32} (hg : decode M.2.1 pc = .ok (.iastore, 1)) (ht : G.2.2.1[t0]? = some .int) (ha : h[a]? = some (.inl (.int, (n, .inl f)))) (hin : vp_in i n) (kk : se_W G l d M (pc + 1) L st (h.set a (.inl (.int, (n, .inl (upd f i.toNatClampNeg x))))) C S Φ) : se_W G l d M pc L (.int x :: .int i :: .ref a :: st) h C S Φ := by
  intro p e R s m args below meth c D dA A θ0 n0 mc ms θ H locs cells slots ls hs hd h1 h2 h3 h4
  refine va_iast hs.1 hs.2.1 hs.2.2.2.2.2.2.2.2.1 hd.1 hd.2.1 hd.2.2.1 a t0 (se_w_at ha) (se_tys_at ht) hin hg (fun H1 locs1 hP hD hS => ?_)
  exact kk p e R s m args below meth c D dA A θ0 n0 mc ms θ H1 locs1 cells slots ls hs (hd.set (x := .inl (.int, (n, .inl (upd f i.toNatClampNeg x)))) (fun m f hf => by cases hf) (se_pop (se_pop (se_pop hd.wst))) hP hD hS) h1 h2 h3 h4
theorem se_zast (t0 : Nat) {a n : Nat} {f : Nat → Int32} {i : Int32} {x : Int32} (hg : decode M.2.1 pc = .ok (.bastore, 1)) (ht : G.2.2.1[t0]? = some .boolean) (ha : h[a]? = some (.inl (.boolean, (n, .inl f)))) (hin : vp_in i n) (kk : se_W G l d M (pc + 1) L st (h.set a (.inl (.boolean, (n, .inl (upd f i.toNatClampNeg (vp_nar .boolean x)))))) C S Φ) : se_W G l d M pc L (.int x :: .int i :: .ref a :: st) h C S Φ := by
  intro p e R s m args below meth c D dA A θ0 n0 mc ms θ H locs cells slots ls hs hd h1 h2 h3 h4
  refine va_zast hs.1 hs.2.1 hs.2.2.2.2.2.2.2.2.1 hd.1 hd.2.1 hd.2.2.1 a t0 (se_w_at ha) (se_tys_at ht) hin hg (fun H1 locs1 hP hD hS => ?_)
  exact kk p e R s m args below meth c D dA A θ0 n0 mc ms θ H1 locs1 cells slots ls hs (hd.set (x := .inl (.boolean, (n, .inl (upd f i.toNatClampNeg (vp_nar .boolean x))))) (fun m f hf => by cases hf) (se_pop (se_pop (se_pop hd.wst))) hP hD hS) h1 h2 h3 h4
theorem se_last (t0 : Nat) {a n : Nat} {f : Nat → Int64} {i : Int32} {x : Int64} (hg : decode M.2.1 pc = .ok (.lastore, 1)) (ht : G.2.2.1[t0]? = some .long) (ha : h[a]? = some (.inl (.long, (n, .inr (.inl f))))) (hin : vp_in i n) (kk : se_W G l d M (pc + 1) L st (h.set a (.inl (.long, (n, .inr (.inl (vp_updL f i.toNatClampNeg x)))))) C S Φ) : se_W G l d M pc L (.long x :: .int i :: .ref a :: st) h C S Φ := by
  intro p e R s m args below meth c D dA A θ0 n0 mc ms θ H locs cells slots ls hs hd h1 h2 h3 h4
  refine va_last hs.1 hs.2.1 hs.2.2.2.2.2.2.2.2.1 hd.1 hd.2.1 hd.2.2.1 a t0 (se_w_at ha) (se_tys_at ht) hin hg (fun H1 locs1 hP hD hS => ?_)
  exact kk p e R s m args below meth c D dA A θ0 n0 mc ms θ H1 locs1 cells slots ls hs (hd.set (x := .inl (.long, (n, .inr (.inl (vp_updL f i.toNatClampNeg x))))) (fun m f hf => by cases hf) (se_pop (se_pop (se_pop hd.wst))) hP hD hS) h1 h2 h3 h4
theorem se_rf (θ : Nat → Nat) (r : Option Nat) : va_rf (r.map θ) = se_v θ (va_rf r) := by cases r <;> rfl
theorem se_aald {C0 : String} (t0 : Nat) {a n : Nat} {f : Nat → Option Nat} {i : Int32} (hg : decode M.2.1 pc = .ok (.aaload, 1)) (ht : G.2.2.1[t0]? = some (.object C0)) (ha : h[a]? = some (.inl (.object C0, (n, .inr (.inr (.inr (.inr f))))))) (hin : vp_in i n) (kk : se_W G l d M (pc + 1) L (va_rf (f i.toNatClampNeg) :: st) h C S Φ) : se_W G l d M pc L (.int i :: .ref a :: st) h C S Φ := by
  intro p e R s m args below meth c D dA A θ0 n0 mc ms θ H locs cells slots ls hs hd h1 h2 h3 h4
  refine va_aldq hs.1 hs.2.1 hs.2.2.2.2.2.2.2.2.1 hd.1 a t0 (se_w_at ha) (se_tys_at ht) hin hg ?_
  rw [se_rf]
  refine kk p e R s m args below meth c D dA A θ0 n0 mc ms θ H locs cells slots ls hs (hd.stk (se_push (fun k hk => ?_) (se_pop (se_pop hd.wst)))) h1 h2 h3 h4
  cases hf : f i.toNatClampNeg with
  | none => rw [hf] at hk; cases hk
  | some y => rw [hf] at hk; cases hk; exact hd.2.2.2.1 a _ ha n f rfl _ _ hf
theorem se_a_up (θ : Nat → Nat) (f : Nat → Option Nat) (k v : Nat) : va_up (fun j => (f j).map θ) k (some (θ v)) = fun j => (va_up f k (some v) j).map θ := by
  funext j
  by_cases hj : j = k <;> simp [va_up, hj]
theorem se_aast {C0 : String} {T : u_T} {N ci : Nat} (t0 : Nat) {a n v : Nat} {f : Nat → Option Nat} {i : Int32} {vs : List Value} (hg : decode M.2.1 pc = .ok (.aastore, 1)) (ht : G.2.2.1[t0]? = some (.object C0)) (hc : G.1[ci]? = some (C0, T, N)) (ha : h[a]? = some (.inl (.object C0, (n, .inr (.inr (.inr (.inr f))))))) (hv : h[v]? = some (.inr (ci, vs))) (hin : vp_in i n) (kk : se_W G l d M (pc + 1) L st (h.set a (.inl (.object C0, (n, .inr (.inr (.inr (.inr (va_up f i.toNatClampNeg (some v)))))))))  C S Φ) : se_W G l d M pc L (.ref v :: .int i :: .ref a :: st) h C S Φ := by
  intro p e R s m args below meth c D dA A θ0 n0 mc ms θ H locs cells slots ls hs hd h1 h2 h3 h4
  refine va_astq (r := (C0, T, N)) hs.1 hs.2.1 hs.2.2.2.2.2.2.2.2.1 hd.1 hd.2.1 hd.2.2.1 a t0 v ci (se_w_at ha) (se_tys_at ht) (se_w_at hv) hc hin hg (fun H1 locs1 hP hD hS => ?_)
  rw [se_a_up] at hP hD
  refine kk p e R s m args below meth c D dA A θ0 n0 mc ms θ H1 locs1 cells slots ls hs (hd.set (x := .inl (.object C0, (n, .inr (.inr (.inr (.inr (va_up f i.toNatClampNeg (some v)))))))) (fun m g hf j k hk => ?_) (se_pop (se_pop (se_pop hd.wst))) hP hD hS) h1 h2 h3 h4
  cases hf
  by_cases hj : j = i.toNatClampNeg
  · rw [hj] at hk; simp only [va_up, if_true] at hk; cases hk; exact hd.wst _ List.mem_cons_self v rfl
  · simp only [va_up, if_neg hj] at hk; exact hd.2.2.2.1 a _ ha n f rfl _ _ hk
theorem se_alen {ty : FieldType} (t0 : Nat) {a : Nat} {x : vp_A} (hg : decode M.2.1 pc = .ok (.arraylength, 1)) (ht : G.2.2.1[t0]? = some ty) (ha : h[a]? = some (.inl (ty, x))) (kk : se_W G l d M (pc + 1) L (.int (Int32.ofNat x.1) :: st) h C S Φ) : se_W G l d M pc L (.ref a :: st) h C S Φ := by
  intro p e R s m args below meth c D dA A θ0 n0 mc ms θ H locs cells slots ls hs hd h1 h2 h3 h4
  refine va_alen hs.1 hs.2.1 hs.2.2.2.2.2.2.2.2.1 hd.1 a t0 (se_w_at ha) (se_tys_at ht) (v := Int32.ofNat x.1) ?_ hg (kk p e R s m args below meth c D dA A θ0 n0 mc ms θ H locs cells slots ls hs (hd.stk (se_push (se_i _ _) (se_pop hd.wst))) h1 h2 h3 h4)
  obtain ⟨n, x⟩ := x
  rcases x with f | f | f | f | f <;> rfl
theorem se_acmp_eq {rx ry : Option Nat} {off : Int} {tgt : Nat} (hg : decode M.2.1 pc = .ok (.if_acmp .eq off, 3)) (ht : (pc : Int) + off = (tgt : Int)) (kt : rx = ry → se_W G l d M tgt L st h C S Φ) (kf : ¬ rx = ry → se_W G l d M (pc + 3) L st h C S Φ) : se_W G l d M pc L (va_rf ry :: va_rf rx :: st) h C S Φ := by
  intro p e R s m args below meth c D dA A θ0 n0 mc ms θ H locs cells slots ls hs hd h1 h2 h3 h4
  have inj : rx.map θ = ry.map θ ↔ rx = ry := by
    refine ⟨fun q => ?_, fun q => by rw [q]⟩
    have g : ∀ (r : Option Nat) (k : Nat), va_rf r ∈ va_rf ry :: va_rf rx :: st → r = some k → ∃ e, h[k]? = some e := fun r k hm hr => by
      have := hd.wst _ hm k (by rw [hr]; rfl)
      exact ⟨h[k], List.getElem?_eq_getElem this⟩
    cases hx : rx with
    | none => cases hy : ry with
      | none => rfl
      | some y => rw [hx, hy] at q; cases q
    | some x => cases hy : ry with
      | none => rw [hx, hy] at q; cases q
      | some y =>
        obtain ⟨e1, g1⟩ := g rx x (List.mem_cons_of_mem _ List.mem_cons_self) hx
        obtain ⟨e2, g2⟩ := g ry y List.mem_cons_self hy
        rw [hx, hy] at q
        have q2 : θ x = θ y := Option.some.inj q
        rw [hd.2.1.1 x y _ _ (se_w_at g1) (se_w_at g2) q2]
  have e9 : (va_rf ry :: va_rf rx :: st).map (se_v θ) = va_rf (ry.map θ) :: va_rf (rx.map θ) :: st.map (se_v θ) := by rw [se_rf, se_rf]; rfl
  rw [e9]
  exact lv_acmp_eq hs.1 hs.2.1 hg ht (fun q => kt (inj.mp q) p e R s m args below meth c D dA A θ0 n0 mc ms θ H locs cells slots ls hs (hd.stk (se_pop (se_pop hd.wst))) h1 h2 h3 h4) (fun q => kf (fun z => q (inj.mpr z)) p e R s m args below meth c D dA A θ0 n0 mc ms θ H locs cells slots ls hs (hd.stk (se_pop (se_pop hd.wst))) h1 h2 h3 h4)
theorem se_acmp_ne {rx ry : Option Nat} {off : Int} {tgt : Nat} (hg : decode M.2.1 pc = .ok (.if_acmp .ne off, 3)) (ht : (pc : Int) + off = (tgt : Int)) (kt : ¬ rx = ry → se_W G l d M tgt L st h C S Φ) (kf : rx = ry → se_W G l d M (pc + 3) L st h C S Φ) : se_W G l d M pc L (va_rf ry :: va_rf rx :: st) h C S Φ := by
  intro p e R s m args below meth c D dA A θ0 n0 mc ms θ H locs cells slots ls hs hd h1 h2 h3 h4
  have inj : rx.map θ = ry.map θ ↔ rx = ry := by
    refine ⟨fun q => ?_, fun q => by rw [q]⟩
    have g : ∀ (r : Option Nat) (k : Nat), va_rf r ∈ va_rf ry :: va_rf rx :: st → r = some k → ∃ e, h[k]? = some e := fun r k hm hr => by
      have := hd.wst _ hm k (by rw [hr]; rfl)
      exact ⟨h[k], List.getElem?_eq_getElem this⟩
    cases hx : rx with
    | none => cases hy : ry with
      | none => rfl
      | some y => rw [hx, hy] at q; cases q
    | some x => cases hy : ry with
      | none => rw [hx, hy] at q; cases q
      | some y =>
        obtain ⟨e1, g1⟩ := g rx x (List.mem_cons_of_mem _ List.mem_cons_self) hx
        obtain ⟨e2, g2⟩ := g ry y List.mem_cons_self hy
        rw [hx, hy] at q
        have q2 : θ x = θ y := Option.some.inj q
        rw [hd.2.1.1 x y _ _ (se_w_at g1) (se_w_at g2) q2]
  have e9 : (va_rf ry :: va_rf rx :: st).map (se_v θ) = va_rf (ry.map θ) :: va_rf (rx.map θ) :: st.map (se_v θ) := by rw [se_rf, se_rf]; rfl
  rw [e9]
  exact lv_acmp_ne hs.1 hs.2.1 hg ht (fun q => kt (fun z => q (inj.mpr z)) p e R s m args below meth c D dA A θ0 n0 mc ms θ H locs cells slots ls hs (hd.stk (se_pop (se_pop hd.wst))) h1 h2 h3 h4) (fun q => kf (inj.mp q) p e R s m args below meth c D dA A θ0 n0 mc ms θ H locs cells slots ls hs (hd.stk (se_pop (se_pop hd.wst))) h1 h2 h3 h4)
theorem se_tableIn {dflt lo hi : Int} {offs : Array Int} {len : Nat} {x : Int32} {off : Int} {tgt : Nat} (hg : decode M.2.1 pc = .ok (.tableswitch dflt lo hi offs, len)) (x1 : ¬ x.toInt < lo) (x2 : ¬ hi < x.toInt) (ho : offs[(x.toInt - lo).toNat]? = some off) (ht : (pc : Int) + off = (tgt : Int)) (k : se_W G l d M tgt L st h C S Φ) : se_W G l d M pc L (.int x :: st) h C S Φ := by
  intro p e R s m args below meth c D dA A θ0 n0 mc ms θ H locs cells slots ls hs hd h1 h2 h3 h4
  exact lv_tableIn hs.1 hs.2.1 hg x1 x2 ho ht (k p e R s m args below meth c D dA A θ0 n0 mc ms θ H locs cells slots ls hs (hd.stk (se_pop hd.wst)) h1 h2 h3 h4)
theorem se_tableOut {dflt lo hi : Int} {offs : Array Int} {len : Nat} {x : Int32} {tgt : Nat} (hg : decode M.2.1 pc = .ok (.tableswitch dflt lo hi offs, len)) (x1 : x.toInt < lo ∨ hi < x.toInt) (ht : (pc : Int) + dflt = (tgt : Int)) (k : se_W G l d M tgt L st h C S Φ) : se_W G l d M pc L (.int x :: st) h C S Φ := by
  intro p e R s m args below meth c D dA A θ0 n0 mc ms θ H locs cells slots ls hs hd h1 h2 h3 h4
  exact lv_tableOut hs.1 hs.2.1 hg x1 ht (k p e R s m args below meth c D dA A θ0 n0 mc ms θ H locs cells slots ls hs (hd.stk (se_pop hd.wst)) h1 h2 h3 h4)
theorem se_lookup {dflt : Int} {ps : Array (Int × Int)} {len : Nat} {x : Int32} {off : Int} {tgt : Nat} (hg : decode M.2.1 pc = .ok (.lookupswitch dflt ps, len)) (hp : (ps.toList.zip (ps.toList.drop 1)).all (fun (a, next) => a.1 < next.1) = true) (ho : Op.lookupswitch.offset ps.toList dflt x.toInt = off) (ht : (pc : Int) + off = (tgt : Int)) (k : se_W G l d M tgt L st h C S Φ) : se_W G l d M pc L (.int x :: st) h C S Φ := by
  intro p e R s m args below meth c D dA A θ0 n0 mc ms θ H locs cells slots ls hs hd h1 h2 h3 h4
  exact lv_lookup hs.1 hs.2.1 hg hp ho ht (k p e R s m args below meth c D dA A θ0 n0 mc ms θ H locs cells slots ls hs (hd.stk (se_pop hd.wst)) h1 h2 h3 h4)
theorem se_ldc {index : Nat} (v : Int32) (hg : decode M.2.1 pc = .ok (.ldc index, 2)) (hl : Cond.constant M.1.cls index v ∈ G.2.1) (k : se_W G l d M (pc + 2) L (.int v :: st) h C S Φ) : se_W G l d M pc L st h C S Φ := by
  intro p e R s m args below meth c D dA A θ0 n0 mc ms θ H locs cells slots ls hs hd h1 h2 h3 h4
  exact W.ldc hs.1 hs.2.1 hs.2.2.2.2.1 (hs.2.2.2.2.2.1 _ hl) rfl hg (k p e R s m args below meth c D dA A θ0 n0 mc ms θ H locs cells slots ls hs (hd.stk (se_push (se_i _ _) hd.wst)) h1 h2 h3 h4)
theorem se_ldc2 {index : Nat} (v : Int64) (hg : decode M.2.1 pc = .ok (.ldc2_w index, 3)) (hl : Cond.constantLong M.1.cls index v ∈ G.2.1) (k : se_W G l d M (pc + 3) L (.long v :: st) h C S Φ) : se_W G l d M pc L st h C S Φ := by
  intro p e R s m args below meth c D dA A θ0 n0 mc ms θ H locs cells slots ls hs hd h1 h2 h3 h4
  exact W.ldc2 hs.1 hs.2.1 hs.2.2.2.2.1 (hs.2.2.2.2.2.1 _ hl) rfl hg (k p e R s m args below meth c D dA A θ0 n0 mc ms θ H locs cells slots ls hs (hd.stk (se_push (se_j _ _) hd.wst)) h1 h2 h3 h4)
end SE
