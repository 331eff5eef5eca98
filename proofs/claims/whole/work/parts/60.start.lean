/-! THE CLAIM OUT OF ONE WALK OF THE LAW'S BODY. Your part is whole_start (and what it stands on); all else here is the same for every law, but numbers. -/
def R_law : String := "VehicleChecksLaw"
def lw_P (b : Addr) (xs : List Int32) (args : Array Value) (s : State) : Prop := args = #[.ref b] ∧ s.IntsAt b xs ∧ xs.length ≤ 3584 ∧ (Jvm.Cond.and given_1 narrow_1).before args s = true
def lw_Q (_ : Array Value) (s : State) (o : Outcome) (t : State) : Prop := o = .returned (some (.int 1)) ∧ Framed s o t [] 601024 7293034
def lw_Z (below : List Frame) (a : Array Value) (s : State) : State → Prop := fun t => ∃ o, t.status = .running ∧ Ended t below o ∧ lw_Q a s o t
/-- the law's own end, with 1 on the stack, nothing written that was there before, its room as the claim has it -/
theorem lw_ret {p : Program} {l : Launch} {e : Env} {s : State} {m : MethodId} {below : List Frame} {meth : Method} {c : Code} {b : Nat} (hx : p.tables.exec = Jvm.exec) (hb : c.code = code) (hr : meth.sig.returnType = ret) (hlocks : meth.locks = false) {pc : Nat} {H : Heap} {ls : Array Slot} (hdg : decode code pc = .ok (.ireturn, 1)) : W p l e room_1 s m #[Value.ref b] below meth c H [] 601024 7293034 (lw_Z below #[Value.ref b] s) (F0 m pc ls [.int 1]) := by
  intro T hT X
  obtain ⟨fs, hret, hrun, hended, hW, hframe⟩ := X.leave (v := some (.int 1)) (hlocks := hlocks) (fun h => by rw [hr] at h; cases h)
  have hmeth' : T.vm.method? m = some meth := X.method'
  refine ⟨T.setFrames fs, ?_, .returned (some (.int 1)), hrun, hended, rfl, ⟨_, rfl⟩, hW, hframe⟩
  jvm_step X.here [X.here.top, hx, hb, hdg, hmeth', hr, ret, narrow_b1]
  (try refine ⟨rfl, ?_⟩); (try refine ⟨rfl, ?_⟩)
  first | (intro acts; rw [hret _ acts rfl rfl rfl]) | rw [hret _ _ rfl rfl rfl]
  exact Steps.refl _
/-- what holds at the law's entry: the machine, the code, the tables' words (any of lw_tbl by 'hts w (by decide +kernel)'), the script of L ints xs at the cell b, what the Statement gives of the start (any of its parts by flat_of_before) -/
def lw_At (p : Program) (s : State) (m : MethodId) (meth : Method) (c : Code) (b L : Nat) (xs : Nat → Int32) : Prop :=
  p.tables.exec = Jvm.exec ∧ c.code = code ∧ meth.sig.returnType = ret ∧ c.maxLocals = 8 ∧ s.vm.findClass R_law = some m.cls ∧ (∀ w ∈ lw_tbl, w.before #[Value.ref b] s = true) ∧ va_X b L xs s s.heap ∧ b < s.heap.size ∧ meth.locks = false ∧ (Jvm.Cond.and given_1 narrow_1).before #[Value.ref b] s = true
theorem arr_p {ty : FieldType} {args : Array Value} {s : State} (hp : ty = .int ∨ ty = .boolean ∨ ty = .long) (h : (Cond.arrayClass ty).before args s = true) : ∃ cA, ArrOfT s cA ty ∧ va_RA s cA ty := by
  obtain ⟨cA, kA, comp, h1, h2, h3⟩ := Cond.arrayClass_spec h
  exact ⟨cA, fun n z => ⟨fun k h => (by cases h), kA, h2, comp, h3⟩, by rcases hp with rfl | rfl | rfl <;> exact h1⟩
theorem arr_o {C : String} {args : Array Value} {s : State} (h : (Cond.arrayOver (.object C)).before args s = true) : ∃ cA, ArrOfT s cA (.object C) ∧ va_RA s cA (.object C) := by
  obtain ⟨comp, cA, kA, f4, -, f2, f3, f1⟩ := Cond.arrayOver_spec h
  exact ⟨cA, fun N z => ⟨fun k h => (by cases h), kA, f2, comp, f3⟩, kA, comp, f2, f3, f4, f1⟩
theorem str_of {own tx : String} {k cur : Nat} {args : Array Value} {s : State} (hc : s.vm.findClass own = some cur) (h : (Cond.stringRef own k tx).before args s = true) : ∃ a, vk_R own k tx a s := by
  obtain ⟨_, _, _, a, -, -, -, -, -, hev⟩ := Cond.stringRef_spec hc h
  exact ⟨a, vk_R.of h hev⟩
theorem fr_new {s t : State} {o : Outcome} {L : List Loc} {k n : Nat} (h : FrameEnd s o t L k n) (hL : ∀ q ∈ L, s.heap.size ≤ q.base) : Framed s o t [] k n := by
  obtain ⟨h1, h2, h3, h4, h5, h6, h7, h8⟩ := h
  refine ⟨h1, h2, h3, h4, h5, h6, h7, fun a c hc => ?_⟩
  obtain ⟨c', e1, e2, e3, e4⟩ := h8 a c hc
  refine ⟨c', e1, e2, e3, fun i _ => e4 i (fun hm => ?_)⟩
  have h9 := hL _ hm
  have h10 := (Array.getElem?_eq_some_iff.mp hc).1
  exact absurd h9 (by show ¬ s.heap.size ≤ a; omega)
theorem hN_all {b : Nat} {s : State} (hts : ∀ w ∈ lw_tbl, w.before #[Value.ref b] s = true) (hgv : (Jvm.Cond.and given_1 narrow_1).before #[Value.ref b] s = true) : ∀ w ∈ vN, va_Nw w s := by
  have hs := flat_of_before _ hgv
  refine List.forall_mem_append.mpr ⟨?_, ?_⟩
  · exact List.forall_mem_cons.mpr ⟨va_AO.of (hts _ (List.mem_append_right _ (List.mem_of_getElem? (i := 22) (by decide +kernel)))), List.forall_mem_cons.mpr ⟨va_Nw.of (by decide +kernel) (hts _ (List.mem_append_right _ (List.mem_of_getElem? (i := 24) (by decide +kernel)))), List.forall_mem_cons.mpr ⟨va_AO.of (hts _ (List.mem_append_right _ (List.mem_of_getElem? (i := 57) (by decide +kernel)))), List.forall_mem_cons.mpr ⟨va_Nw.of (by decide +kernel) (hts _ (List.mem_append_right _ (List.mem_of_getElem? (i := 98) (by decide +kernel)))), List.forall_mem_cons.mpr ⟨va_Nw.of (by decide +kernel) (hts _ (List.mem_append_right _ (List.mem_of_getElem? (i := 99) (by decide +kernel)))), List.forall_mem_cons.mpr ⟨va_Nw.of (by decide +kernel) (hts _ (List.mem_append_right _ (List.mem_of_getElem? (i := 100) (by decide +kernel)))), List.forall_mem_cons.mpr ⟨va_Nw.of (by decide +kernel) (hts _ (List.mem_append_right _ (List.mem_of_getElem? (i := 101) (by decide +kernel)))), List.forall_mem_cons.mpr ⟨va_Nw.of (by decide +kernel) (hts _ (List.mem_append_right _ (List.mem_of_getElem? (i := 102) (by decide +kernel)))), List.forall_mem_cons.mpr ⟨va_Nw.of (by decide +kernel) (hts _ (List.mem_append_right _ (List.mem_of_getElem? (i := 103) (by decide +kernel)))), List.forall_mem_cons.mpr ⟨va_Nw.of (by decide +kernel) (hts _ (List.mem_append_right _ (List.mem_of_getElem? (i := 104) (by decide +kernel)))), List.forall_mem_cons.mpr ⟨va_Nw.of (by decide +kernel) (hts _ (List.mem_append_right _ (List.mem_of_getElem? (i := 167) (by decide +kernel)))), List.forall_mem_cons.mpr ⟨va_Nw.of (by decide +kernel) (hts _ (List.mem_append_right _ (List.mem_of_getElem? (i := 263) (by decide +kernel)))), List.forall_mem_cons.mpr ⟨va_Nw.of (by decide +kernel) (hts _ (List.mem_append_right _ (List.mem_of_getElem? (i := 294) (by decide +kernel)))), fun _ h => absurd h List.not_mem_nil⟩⟩⟩⟩⟩⟩⟩⟩⟩⟩⟩⟩⟩
  · exact List.forall_mem_cons.mpr ⟨hs (Cond.not (.castable "java/lang/IllegalArgumentException" "java/lang/IndexOutOfBoundsException")) (by decide +kernel), List.forall_mem_cons.mpr ⟨hs (Cond.not (.castable "java/lang/IllegalArgumentException" "java/lang/IllegalStateException")) (by decide +kernel), List.forall_mem_cons.mpr ⟨hs (Cond.not (.castable "java/lang/IllegalArgumentException" "java/lang/UnsupportedOperationException")) (by decide +kernel), List.forall_mem_cons.mpr ⟨hs (Cond.not (.castable "java/lang/IndexOutOfBoundsException" "java/lang/IllegalArgumentException")) (by decide +kernel), List.forall_mem_cons.mpr ⟨hs (Cond.not (.castable "java/lang/IndexOutOfBoundsException" "java/lang/IllegalStateException")) (by decide +kernel), List.forall_mem_cons.mpr ⟨hs (Cond.not (.castable "java/lang/IndexOutOfBoundsException" "java/lang/UnsupportedOperationException")) (by decide +kernel), List.forall_mem_cons.mpr ⟨hs (Cond.not (.castable "java/lang/IllegalStateException" "java/lang/IllegalArgumentException")) (by decide +kernel), List.forall_mem_cons.mpr ⟨hs (Cond.not (.castable "java/lang/IllegalStateException" "java/lang/IndexOutOfBoundsException")) (by decide +kernel), List.forall_mem_cons.mpr ⟨hs (Cond.not (.castable "java/lang/IllegalStateException" "java/lang/UnsupportedOperationException")) (by decide +kernel), List.forall_mem_cons.mpr ⟨hs (Cond.not (.castable "java/lang/UnsupportedOperationException" "java/lang/IllegalArgumentException")) (by decide +kernel), List.forall_mem_cons.mpr ⟨hs (Cond.not (.castable "java/lang/UnsupportedOperationException" "java/lang/IndexOutOfBoundsException")) (by decide +kernel), List.forall_mem_cons.mpr ⟨hs (Cond.not (.castable "java/lang/UnsupportedOperationException" "java/lang/IllegalStateException")) (by decide +kernel), fun _ h => absurd h List.not_mem_nil⟩⟩⟩⟩⟩⟩⟩⟩⟩⟩⟩⟩
theorem hS_all {b : Nat} {s : State} (hts : ∀ w ∈ lw_tbl, w.before #[Value.ref b] s = true) {cur : Nat} (hc : s.vm.findClass "VehicleChecks" = some cur) : ∀ q ∈ vS, ∃ a, vk_R q.1 q.2.1 q.2.2 a s :=
  List.forall_mem_cons.mpr ⟨str_of hc (hts _ (List.mem_append_right _ (List.mem_of_getElem? (i := 138) (by decide +kernel)))), List.forall_mem_cons.mpr ⟨str_of hc (hts _ (List.mem_append_right _ (List.mem_of_getElem? (i := 174) (by decide +kernel)))), List.forall_mem_cons.mpr ⟨str_of hc (hts _ (List.mem_append_right _ (List.mem_of_getElem? (i := 257) (by decide +kernel)))), List.forall_mem_cons.mpr ⟨str_of hc (hts _ (List.mem_append_right _ (List.mem_of_getElem? (i := 270) (by decide +kernel)))), List.forall_mem_cons.mpr ⟨str_of hc (hts _ (List.mem_append_right _ (List.mem_of_getElem? (i := 301) (by decide +kernel)))), List.forall_mem_cons.mpr ⟨str_of hc (hts _ (List.mem_append_right _ (List.mem_of_getElem? (i := 319) (by decide +kernel)))), List.forall_mem_cons.mpr ⟨str_of hc (hts _ (List.mem_append_right _ (List.mem_of_getElem? (i := 323) (by decide +kernel)))), List.forall_mem_cons.mpr ⟨str_of hc (hts _ (List.mem_append_right _ (List.mem_of_getElem? (i := 353) (by decide +kernel)))), List.forall_mem_cons.mpr ⟨str_of hc (hts _ (List.mem_append_right _ (List.mem_of_getElem? (i := 380) (by decide +kernel)))), List.forall_mem_cons.mpr ⟨str_of hc (hts _ (List.mem_append_right _ (List.mem_of_getElem? (i := 402) (by decide +kernel)))), List.forall_mem_cons.mpr ⟨str_of hc (hts _ (List.mem_append_right _ (List.mem_of_getElem? (i := 414) (by decide +kernel)))), List.forall_mem_cons.mpr ⟨str_of hc (hts _ (List.mem_append_right _ (List.mem_of_getElem? (i := 415) (by decide +kernel)))), List.forall_mem_cons.mpr ⟨str_of hc (hts _ (List.mem_append_right _ (List.mem_of_getElem? (i := 423) (by decide +kernel)))), List.forall_mem_cons.mpr ⟨str_of hc (hts _ (List.mem_append_right _ (List.mem_of_getElem? (i := 431) (by decide +kernel)))), List.forall_mem_cons.mpr ⟨str_of hc (hts _ (List.mem_append_right _ (List.mem_of_getElem? (i := 432) (by decide +kernel)))), List.forall_mem_cons.mpr ⟨str_of hc (hts _ (List.mem_append_right _ (List.mem_of_getElem? (i := 443) (by decide +kernel)))), List.forall_mem_cons.mpr ⟨str_of hc (hts _ (List.mem_append_right _ (List.mem_of_getElem? (i := 454) (by decide +kernel)))), List.forall_mem_cons.mpr ⟨str_of hc (hts _ (List.mem_append_right _ (List.mem_of_getElem? (i := 462) (by decide +kernel)))), List.forall_mem_cons.mpr ⟨str_of hc (hts _ (List.mem_append_right _ (List.mem_of_getElem? (i := 463) (by decide +kernel)))), List.forall_mem_cons.mpr ⟨str_of hc (hts _ (List.mem_append_right _ (List.mem_of_getElem? (i := 498) (by decide +kernel)))), List.forall_mem_cons.mpr ⟨str_of hc (hts _ (List.mem_append_right _ (List.mem_of_getElem? (i := 513) (by decide +kernel)))), fun _ h => absurd h List.not_mem_nil⟩⟩⟩⟩⟩⟩⟩⟩⟩⟩⟩⟩⟩⟩⟩⟩⟩⟩⟩⟩⟩
def dA5 (a0 a1 a2 a3 a4 : ClassId) : FieldType → ClassId
  | .int => a0
  | .boolean => a1
  | .long => a2
  | .object n => if n = "VehicleChecks$Kind" then a3 else a4
  | _ => a0
def dC4 {α : Type} (c0 c1 c2 c3 : α) : Nat → α
  | 0 => c0
  | 1 => c1
  | 2 => c2
  | _ => c3
set_option maxHeartbeats 4000000 in
set_option maxRecDepth 100000 in
theorem whole_start {p : Program} {e : Env} {s : State} {m : MethodId} {below : List Frame} {meth : Method} {c : Code} (l : Launch) (hl : l.stackTraces = false) {b L : Nat} {xs : Nat → Int32} (hL : L ≤ 3584) (C0 : lw_At p s m meth c b L xs) (hnm : meth.name = "law") (htb : c.exceptionTable.toList = []) : W p l e room_1 s m #[Value.ref b] below meth c s.heap [] 0 0 (lw_Z below #[Value.ref b] s) (entryFrame m ([Value.ref b] : List Value).toArray 8) := by
  obtain ⟨hx, hbd, hrt, hml, hown, hts, hX, hbl, hlk, hgv⟩ := C0
  have htw : ∀ w ∈ vW, w.before #[Value.ref b] s = true := fun w hw => hts w (List.mem_filter.mp hw).1
  have hs := flat_of_before _ hgv
  obtain ⟨c0, i0, k0⟩ := u_known (C := rK) (T := TK) (N := 6) (n := 6) htw inK (htw _ wd_23)
  obtain ⟨c1, i1, k1⟩ := u_known (C := rV) (T := TV) (N := 16) (n := 16) htw inV (htw _ wd_181)
  obtain ⟨c2, i2, k2⟩ := u_known (C := rC) (T := TC) (N := 8) (n := 8) htw inC (htw _ wd_14)
  obtain ⟨c3, i3, k3⟩ := u_known (C := rR) (T := TR) (N := 29) (n := 29) htw inR (htw _ wd_548)
  obtain ⟨a0, x0⟩ := arr_p (ty := .int) (by simp) (htw _ wd_55)
  obtain ⟨a1, x1⟩ := arr_p (ty := .boolean) (by simp) (htw _ wd_54)
  obtain ⟨a2, x2⟩ := arr_p (ty := .long) (by simp) (htw _ wd_786)
  obtain ⟨a3, x3⟩ := arr_o (C := "VehicleChecks$Kind") (hts _ (List.mem_append_right _ (List.mem_of_getElem? (i := 22) (by decide +kernel))))
  obtain ⟨a4, x4⟩ := arr_o (C := "VehicleChecks$Vehicle") (hts _ (List.mem_append_right _ (List.mem_of_getElem? (i := 57) (by decide +kernel))))
  obtain ⟨cV, kV, hfc, -⟩ := Cond.instantiable_spec (htw _ wd_14)
  have hK : va_K (dC4 c0 c1 c2 c3, dC4 i0 i1 i2 i3) vCl (se_tys (vG [(b, L, xs)]) (dA5 a0 a1 a2 a3 a4)) s := by
    refine ⟨fun k q hq => ?_, fun k q hq => ?_⟩
    · rcases k with _ | _ | _ | _ | k
      · cases hq; exact k0
      · cases hq; exact k1
      · cases hq; exact k2
      · cases hq; exact k3
      · cases hq
    · rcases k with _ | _ | _ | _ | _ | k
      · cases hq; exact x0
      · cases hq; exact x1
      · cases hq; exact x2
      · cases hq; exact x3
      · cases hq; exact x4
      · cases hq
  have hA : ∀ a : Nat, a < s.heap.size → ¬ s.heap.size ≤ a := fun a h1 h2 => absurd h1 (Nat.not_lt.mpr h2)
  have hZ : se_Z (vG [(b, L, xs)]) (fun q => s.heap.size ≤ q) s := by
    refine ⟨vx_Zqof (args := #[Value.ref b]) (hts _ (List.mem_append_right _ (List.mem_of_getElem? (i := 123) (by decide +kernel)))) (htw _ wd_4) (hs _ (by decide +kernel)) hA, vx_Zqof (args := #[Value.ref b]) (hts _ (List.mem_append_right _ (List.mem_of_getElem? (i := 125) (by decide +kernel)))) (htw _ wd_4) (hs _ (by decide +kernel)) hA, hS_all hts hfc, hN_all hts hgv, fun q hq => ?_⟩
    obtain rfl : q = (b, L, xs) := List.mem_singleton.mp hq
    exact ⟨hX, hA b hbl⟩
  have run := law_run (sc := [(b, L, xs)]) (l := l) (d := 10) (bb := b) (N0 := L) (xs := xs) (Nat.le_refl _) List.mem_cons_self hL p e room_1 s m #[Value.ref b] below meth c (dC4 c0 c1 c2 c3, dC4 i0 i1 i2 i3) (dA5 a0 a1 a2 a3 a4) (fun q => s.heap.size ≤ q) (fun _ => 0) 0 601024 7293034 (fun _ => 0) s.heap [] 0 0 _
    ⟨hx, hbd, hml, hrt, hown, htw, hlk, htb, hK, fun _ h => h, hZ, ⟨by decide, by decide⟩, hnm, hl⟩
    ⟨fun k q hk => (by cases hk), ⟨fun i j p q hi => (by cases hi), fun k q hk => (by cases hk)⟩, va_S.rf, fun k e hk => (by cases hk), fun v hv => (by cases hv), se_ent_L (Nat.le_of_ble_eq_true rfl), fun i v hv => (by
      have := List.mem_singleton.mp (se_sl_mem (se_ent_at hv))
      rw [this]; exact se_q _ _), Nat.le_refl _, fun _ _ => rfl⟩ (by decide) (by decide) (by decide) (by decide)
  rw [lg_entry_eq]
  intro T hT X
  obtain ⟨t, s1, o, b1, b2, b3⟩ := run T hT X
  refine ⟨t, s1, o, b1, b2, ?_⟩
  rcases b3 with ⟨⟨⟨v, h', θ', g1, g2, -⟩, -⟩, L', hF, hfree⟩ | ⟨q, g0, E, ce, L', ⟨⟨h', θ', g1, -⟩, -⟩, -⟩
  · cases g1
    exact ⟨g2, fr_new hF hfree⟩
  · cases g1
set_option maxHeartbeats 4000000 in
theorem lw_walk (l : Launch) (hl : l.stackTraces = false) (b : Addr) (xs : List Int32) : MetFree l x (headSpec (Jvm.Cond.code x code maxLocals ret :: tables_1) room_1) (lw_P b xs) (fun _ _ _ _ _ => True) lw_Q := by
  refine MetFree.of_bodyS (code := code) (maxLocals := maxLocals) (ret := ret) (by decide) ?_ ?_
  · intro args s m h hn
    obtain ⟨meth, c, h1, h2, h3, h4, h5, h6, -, -⟩ := Cond.code_spec hn (atoms_spec (ws := Jvm.Cond.code x code maxLocals ret :: tables_1) h _ List.mem_cons_self)
    exact ⟨meth, c, h1, h2, h3, h4, h5, h6⟩
  · intro p e s m args below meth c s₁ B hml0 hP _
    obtain ⟨rfl, hx, hbd, hgv⟩ := hP
    obtain ⟨scr, harrAt, hlist, hof, hsmall⟩ := hx
    obtain ⟨hcb, hkn, -, -⟩ := State.arrayAt?_spec harrAt
    have hown : s.vm.findClass R_law = some m.cls := findClass_of_methodNamed B.named
    have hts0 : ∀ c ∈ (Jvm.Cond.code x code maxLocals ret :: tables_1), c.before #[Value.ref b] s = true := atoms_spec (ws := Jvm.Cond.code x code maxLocals ret :: tables_1) B.pre
    have hts : ∀ w ∈ lw_tbl, w.before #[Value.ref b] s = true := k2_hts_sels lw_privs (fun w hw => hts0 w (List.mem_cons_of_mem _ hw)) lw_privs_ok
    have hml : c.maxLocals = 8 := B.maxLocals_eq (hts0 _ List.mem_cons_self)
    have X₀ : Stand p l e room_1 s m #[Value.ref b] below meth c s₁ [] 0 0 := Stand.of_body B
    have hh0 : s₁.heap = s.heap := by rw [B.state]; rfl
    have hsz : scr.slots.size = xs.length := by rw [← Array.length_toList, hlist, List.length_map]
    have hval : ∀ j : Nat, j < xs.length → scr.slots[j]? = some (.int (xs.getD j 0)) := fun j hj => by
      rw [← Array.getElem?_toList, hlist]
      simp [hj]
    have hbl : b < s.heap.size := (Array.getElem?_eq_some_iff.mp hcb).1
    have hX : va_X b xs.length (fun j => xs.getD j 0) s s.heap := ⟨scr, hcb, hof, hkn, hsz, hval⟩
    have htb : c.exceptionTable.toList = [] := by
      obtain ⟨meth9, c9, h1, h2, -, -, -, -, h7, -⟩ := Cond.code_spec B.named (hts0 _ List.mem_cons_self)
      cases Option.some.inj (h1.symm.trans B.method)
      cases Option.some.inj (h2.symm.trans (Stand.of_body B).code)
      rw [Array.isEmpty_iff.mp h7]
    have K : W p l e room_1 s m #[Value.ref b] below meth c s₁.heap [] 0 0 (lw_Z below #[Value.ref b] s) (entryFrame m ([Value.ref b] : List Value).toArray 8) := by
      rw [hh0]
      exact whole_start l hl hbd ⟨B.exec, B.bytes, B.returns, hml, hown, hts, hX, hbl, B.notSynchronized, hgv⟩ (name_of_methodNamed B.named B.method).1 htb
    obtain ⟨t, a1, o, b1, b2, b3⟩ := K s₁ rfl X₀
    exact ⟨t, o, a1, b1, b2, b3⟩
theorem lw_pre_spec {args : Array Value} {s : State} (h : (Jvm.Cond.and given_1 narrow_1).before args s = true) (hr : rest_1_c.before args s = true) : ∃ (b : Addr) (xs : List Int32), lw_P b xs args s := by
  have hs := flat_of_before _ h
  have hq := flat_of_before _ hr
  have hc : (Cond.count 1).before args s = true := hs _ (by decide +kernel)
  have harr : (Cond.arrayOf (.arg 0) .int).before args s = true := hs _ (by decide +kernel)
  have hle : (Cond.le (.length (.arg 0)) (.int 3584)).before args s = true := hs _ (by decide +kernel)
  have hlen : (Cond.isInt (.length (.arg 0))).before args s = true := hq _ (by decide +kernel)
  have hall : (Cond.all (.arg 0) (.isInt (.elem (.arg 0) (.index 0)))).before args s = true := hq _ (by decide +kernel)
  obtain ⟨b, xs, hb, hx⟩ := State.ints_of_pre rfl harr hlen hall
  have hsm : xs.length < 2 ^ 31 := hx.choose_spec.2.2.2
  have hev : (Term.length (.arg 0)).eval args s none [] s = some (.int xs.length.toInt32) := hx.length_eval hb
  have hv := Cond.le_ints hev (show (Term.int 3584).eval args s none [] s = some (.int 3584) from rfl)
  have hd : xs.length.toInt32 ≤ 3584 := by
    simpa [Cond.before, Cond.holds, hv] using hle
  have hN : xs.length ≤ 3584 := (Int32.ofNat_le_ofNat hsm (by decide)).mp (show Int32.ofNat xs.length ≤ Int32.ofNat 3584 from hd)
  exact ⟨b, xs, Cond.one_arg hc (show args[0]? = some (.ref b) from hb), hx, hN, h⟩
theorem lw_comes (l : Launch) (hl : l.stackTraces = false) : Comes l x (Jvm.Cond.code x code maxLocals ret :: tables_1) room_1 (fun tb e args s => Calls_1 tb e args s ∧ rest_1 tb e args s ∧ Pre_1 tb e args s)
    (fun _ _ args s o t => lw_Q args s o t) := by
  intro p e ha hc hk s m args below hf hfit hheap happ hpre
  obtain ⟨b, xs, hP⟩ := lw_pre_spec hpre.2.2 hpre.2.1
  obtain ⟨k, o, h1, h2, h3, hQ⟩ := lw_walk l hl b xs p e ha hc hk s m args below hf ((Spec.applies_iff_loose hf).mp happ).1 hP trivial
  exact ⟨k, o, h1, h2, h3, hQ⟩
theorem lw_frame {s t : State} {o : Outcome} {args : Array Value} (h : Framed s o t [] 601024 7293034) :
    Framed s o t (fieldLocs frame_1_writes args s ++ arrayLocs frame_1_arrays args s ++ staticLocs frame_1_statics s) 601024 7293034 := h
theorem lw_limb (L : Cond) (hL : ∀ (args : Array Value) (s t : State), L.after args s (.returned (some (.int 1))) t = true) :
    ArmFor flags0 classFile x code maxLocals ret World_1 tables_1 room_1 Calls_1 rest_1 Pre_1
      (fun tb e a s o t => postC L tb e a s o t ∧ Framed s o t (fieldLocs frame_1_writes a s ++ arrayLocs frame_1_arrays a s ++ staticLocs frame_1_statics s) 601024 7293034) := by
  intro l hfl _ _ p e ha hc hk s m args below hf hfit hheap happ hpre
  have hl : l.stackTraces = false := by unfold Launch.stackTraces; rw [hfl]; decide
  obtain ⟨k, o, h1, h2, h3, rfl, hF⟩ := lw_comes l hl p e ha hc hk s m args below hf hfit hheap happ hpre
  exact ⟨k, _, h1, h2, h3, hL args s _, lw_frame hF⟩
theorem i_vc : Claimed_1_1 ∧ Claimed_1_2 := ⟨lw_limb limb_1_1 (fun args s t => by simp [limb_1_1, Cond.after, Cond.holds, Cond.value]), lw_limb limb_1_2 (fun args s t => Cond.after_iff.mpr (by
  first | (rw [show limb_1_2 = Cond.eq .result (.int 1) from rfl, Cond.eq_ints (x := 1) (y := 1) rfl rfl]; simp; done) | (simp [limb_1_2, Cond.value, Term.eval]; done)))⟩
