section
-- ===== PART A: goes FIRST, ahead of the names: the tables' words, and 'selects' of the private methods out of them =====
/-- a private method of a class that the tables say can be made, by its rows of tables_1 -/
def lw_okq (q : MethodName × Nat) : Prop := (q.1.cls ≠ "java/lang/invoke/MethodHandle" ∧ q.1.cls ≠ "java/lang/invoke/VarHandle") ∧ Cond.instantiable q.1.cls q.2 ∈ tables_1 ∧ Cond.privateMethod q.1 ∈ tables_1 ∧ Cond.instanceMethod q.1 ∈ tables_1
theorem lw_p0 : lw_okq (⟨"VehicleChecks", "knownKind", "(I)LVehicleChecks$Kind;"⟩, 8) := ⟨⟨by decide +kernel, by decide +kernel⟩, List.mem_of_getElem? (i := 14) (by decide +kernel), List.mem_of_getElem? (i := 93) (by decide +kernel), List.mem_of_getElem? (i := 94) (by decide +kernel)⟩
theorem lw_p1 : lw_okq (⟨"java/lang/Throwable", "fillInStackTrace", "(I)Ljava/lang/Throwable;"⟩, 6) := ⟨⟨by decide +kernel, by decide +kernel⟩, List.mem_of_getElem? (i := 136) (by decide +kernel), List.mem_of_getElem? (i := 134) (by decide +kernel), List.mem_of_getElem? (i := 135) (by decide +kernel)⟩
theorem lw_p2 : lw_okq (⟨"VehicleChecks", "knownVehicle", "(I)LVehicleChecks$Vehicle;"⟩, 8) := ⟨⟨by decide +kernel, by decide +kernel⟩, List.mem_of_getElem? (i := 14) (by decide +kernel), List.mem_of_getElem? (i := 316) (by decide +kernel), List.mem_of_getElem? (i := 317) (by decide +kernel)⟩
theorem lw_p3 : lw_okq (⟨"VehicleChecks", "canRun", "(LVehicleChecks$Vehicle;)Z"⟩, 8) := ⟨⟨by decide +kernel, by decide +kernel⟩, List.mem_of_getElem? (i := 14) (by decide +kernel), List.mem_of_getElem? (i := 363) (by decide +kernel), List.mem_of_getElem? (i := 364) (by decide +kernel)⟩
theorem lw_p4 : lw_okq (⟨"VehicleChecks", "damagesWeight", "(LVehicleChecks$Vehicle;)I"⟩, 8) := ⟨⟨by decide +kernel, by decide +kernel⟩, List.mem_of_getElem? (i := 14) (by decide +kernel), List.mem_of_getElem? (i := 373) (by decide +kernel), List.mem_of_getElem? (i := 374) (by decide +kernel)⟩
theorem lw_p5 : lw_okq (⟨"VehicleChecks", "isOpenDamage", "(ILVehicleChecks$Vehicle;)Z"⟩, 8) := ⟨⟨by decide +kernel, by decide +kernel⟩, List.mem_of_getElem? (i := 14) (by decide +kernel), List.mem_of_getElem? (i := 377) (by decide +kernel), List.mem_of_getElem? (i := 378) (by decide +kernel)⟩
theorem lw_p6 : lw_okq (⟨"VehicleChecks", "damageReason", "(LVehicleChecks$Vehicle;I)I"⟩, 8) := ⟨⟨by decide +kernel, by decide +kernel⟩, List.mem_of_getElem? (i := 14) (by decide +kernel), List.mem_of_getElem? (i := 404) (by decide +kernel), List.mem_of_getElem? (i := 405) (by decide +kernel)⟩
theorem lw_p7 : lw_okq (⟨"VehicleChecks", "bestSpare", "(LVehicleChecks$Vehicle;)LVehicleChecks$Vehicle;"⟩, 8) := ⟨⟨by decide +kernel, by decide +kernel⟩, List.mem_of_getElem? (i := 14) (by decide +kernel), List.mem_of_getElem? (i := 472) (by decide +kernel), List.mem_of_getElem? (i := 473) (by decide +kernel)⟩
theorem lw_p8 : lw_okq (⟨"VehicleChecks", "isSpareFor", "(LVehicleChecks$Vehicle;LVehicleChecks$Vehicle;)Z"⟩, 8) := ⟨⟨by decide +kernel, by decide +kernel⟩, List.mem_of_getElem? (i := 14) (by decide +kernel), List.mem_of_getElem? (i := 476) (by decide +kernel), List.mem_of_getElem? (i := 477) (by decide +kernel)⟩
theorem lw_p9 : lw_okq (⟨"VehicleChecks", "openDamages", "(LVehicleChecks$Vehicle;)I"⟩, 8) := ⟨⟨by decide +kernel, by decide +kernel⟩, List.mem_of_getElem? (i := 14) (by decide +kernel), List.mem_of_getElem? (i := 544) (by decide +kernel), List.mem_of_getElem? (i := 545) (by decide +kernel)⟩
theorem lw_p10 : lw_okq (⟨"VehicleChecksModel", "goes", "(ZZZ)Z"⟩, 29) := ⟨⟨by decide +kernel, by decide +kernel⟩, List.mem_of_getElem? (i := 548) (by decide +kernel), List.mem_of_getElem? (i := 656) (by decide +kernel), List.mem_of_getElem? (i := 657) (by decide +kernel)⟩
theorem lw_p11 : lw_okq (⟨"VehicleChecksModel", "isVehicle", "(I)Z"⟩, 29) := ⟨⟨by decide +kernel, by decide +kernel⟩, List.mem_of_getElem? (i := 548) (by decide +kernel), List.mem_of_getElem? (i := 675) (by decide +kernel), List.mem_of_getElem? (i := 676) (by decide +kernel)⟩
theorem lw_p12 : lw_okq (⟨"VehicleChecksModel", "rule", "(II)I"⟩, 29) := ⟨⟨by decide +kernel, by decide +kernel⟩, List.mem_of_getElem? (i := 548) (by decide +kernel), List.mem_of_getElem? (i := 684) (by decide +kernel), List.mem_of_getElem? (i := 685) (by decide +kernel)⟩
theorem lw_p13 : lw_okq (⟨"VehicleChecksModel", "isWithin", "(III)Z"⟩, 29) := ⟨⟨by decide +kernel, by decide +kernel⟩, List.mem_of_getElem? (i := 548) (by decide +kernel), List.mem_of_getElem? (i := 688) (by decide +kernel), List.mem_of_getElem? (i := 689) (by decide +kernel)⟩
theorem lw_p14 : lw_okq (⟨"VehicleChecksModel", "fails", "(II)Z"⟩, 29) := ⟨⟨by decide +kernel, by decide +kernel⟩, List.mem_of_getElem? (i := 548) (by decide +kernel), List.mem_of_getElem? (i := 696) (by decide +kernel), List.mem_of_getElem? (i := 697) (by decide +kernel)⟩
theorem lw_p15 : lw_okq (⟨"VehicleChecksModel", "isSkipped", "(II)Z"⟩, 29) := ⟨⟨by decide +kernel, by decide +kernel⟩, List.mem_of_getElem? (i := 548) (by decide +kernel), List.mem_of_getElem? (i := 700) (by decide +kernel), List.mem_of_getElem? (i := 701) (by decide +kernel)⟩
def lw_privs_1 : List (MethodName × Nat) := [(⟨"VehicleChecks", "knownKind", "(I)LVehicleChecks$Kind;"⟩, 8), (⟨"java/lang/Throwable", "fillInStackTrace", "(I)Ljava/lang/Throwable;"⟩, 6), (⟨"VehicleChecks", "knownVehicle", "(I)LVehicleChecks$Vehicle;"⟩, 8), (⟨"VehicleChecks", "canRun", "(LVehicleChecks$Vehicle;)Z"⟩, 8), (⟨"VehicleChecks", "damagesWeight", "(LVehicleChecks$Vehicle;)I"⟩, 8), (⟨"VehicleChecks", "isOpenDamage", "(ILVehicleChecks$Vehicle;)Z"⟩, 8), (⟨"VehicleChecks", "damageReason", "(LVehicleChecks$Vehicle;I)I"⟩, 8), (⟨"VehicleChecks", "bestSpare", "(LVehicleChecks$Vehicle;)LVehicleChecks$Vehicle;"⟩, 8), (⟨"VehicleChecks", "isSpareFor", "(LVehicleChecks$Vehicle;LVehicleChecks$Vehicle;)Z"⟩, 8), (⟨"VehicleChecks", "openDamages", "(LVehicleChecks$Vehicle;)I"⟩, 8), (⟨"VehicleChecksModel", "goes", "(ZZZ)Z"⟩, 29), (⟨"VehicleChecksModel", "isVehicle", "(I)Z"⟩, 29), (⟨"VehicleChecksModel", "rule", "(II)I"⟩, 29), (⟨"VehicleChecksModel", "isWithin", "(III)Z"⟩, 29), (⟨"VehicleChecksModel", "fails", "(II)Z"⟩, 29), (⟨"VehicleChecksModel", "isSkipped", "(II)Z"⟩, 29)]
theorem lw_r1 : ∀ q ∈ lw_privs_1, lw_okq q := List.forall_mem_cons.mpr ⟨lw_p0, List.forall_mem_cons.mpr ⟨lw_p1, List.forall_mem_cons.mpr ⟨lw_p2, List.forall_mem_cons.mpr ⟨lw_p3, List.forall_mem_cons.mpr ⟨lw_p4, List.forall_mem_cons.mpr ⟨lw_p5, List.forall_mem_cons.mpr ⟨lw_p6, List.forall_mem_cons.mpr ⟨lw_p7, List.forall_mem_cons.mpr ⟨lw_p8, List.forall_mem_cons.mpr ⟨lw_p9, List.forall_mem_cons.mpr ⟨lw_p10, List.forall_mem_cons.mpr ⟨lw_p11, List.forall_mem_cons.mpr ⟨lw_p12, List.forall_mem_cons.mpr ⟨lw_p13, List.forall_mem_cons.mpr ⟨lw_p14, List.forall_mem_cons.mpr ⟨lw_p15, fun _ h => absurd h List.not_mem_nil⟩⟩⟩⟩⟩⟩⟩⟩⟩⟩⟩⟩⟩⟩⟩⟩
theorem lw_p16 : lw_okq (⟨"VehicleChecksModel", "reasonOf", "(II)I"⟩, 29) := ⟨⟨by decide +kernel, by decide +kernel⟩, List.mem_of_getElem? (i := 548) (by decide +kernel), List.mem_of_getElem? (i := 708) (by decide +kernel), List.mem_of_getElem? (i := 709) (by decide +kernel)⟩
theorem lw_p17 : lw_okq (⟨"VehicleChecksModel", "isRunning", "(I)Z"⟩, 29) := ⟨⟨by decide +kernel, by decide +kernel⟩, List.mem_of_getElem? (i := 548) (by decide +kernel), List.mem_of_getElem? (i := 716) (by decide +kernel), List.mem_of_getElem? (i := 717) (by decide +kernel)⟩
def lw_privs_2 : List (MethodName × Nat) := [(⟨"VehicleChecksModel", "reasonOf", "(II)I"⟩, 29), (⟨"VehicleChecksModel", "isRunning", "(I)Z"⟩, 29)]
theorem lw_r2 : ∀ q ∈ lw_privs_2, lw_okq q := List.forall_mem_cons.mpr ⟨lw_p16, List.forall_mem_cons.mpr ⟨lw_p17, fun _ h => absurd h List.not_mem_nil⟩⟩
def lw_privs : List (MethodName × Nat) := lw_privs_1 ++ (lw_privs_2)
def lw_tbl : List Cond := k2_sels lw_privs ++ tables_1
theorem lw_privs_ok : ∀ q ∈ lw_privs, lw_okq q := by
  show ∀ q ∈ lw_privs_1 ++ (lw_privs_2), lw_okq q
  exact List.forall_mem_append.mpr ⟨lw_r1, lw_r2⟩
/-! ===== BEGIN words of one list among another's, by their places ===== -/
theorem goodIn_r {big : List Cond} (ws : List Cond) (ps : List Nat) (hp : ws = ps.filterMap (fun i => big[i]?)) (h : ws.all goodWord = true) : GoodIn big ws := by
  intro w hw
  have h1 := List.all_eq_true.mp h w hw
  rw [hp] at hw
  obtain ⟨i, -, hi⟩ := List.mem_filterMap.mp hw
  have hm : w ∈ big := by first | exact List.mem_of_getElem? hi | exact List.getElem?_mem hi
  exact ⟨hm, good_of_word h1⟩
theorem goodIn_app {big a b : List Cond} (ha : GoodIn big a) (hb : GoodIn big b) : GoodIn big (a ++ b) := fun w h => (List.mem_append.mp h).elim (ha w) (hb w)
theorem goodIn_ca {big a b : List Cond} {c : Cond} (ha : GoodIn big (c :: a)) (hb : GoodIn big b) : GoodIn big (c :: (a ++ b)) := fun w h => (List.mem_cons.mp h).elim (fun e => ha w (List.mem_cons.mpr (Or.inl e))) (fun h => (List.mem_append.mp h).elim (fun h => ha w (List.mem_cons.mpr (Or.inr h))) (hb w))
theorem goodIn_sub {big ws : List Cond} (hm : ∀ w ∈ ws, w ∈ big) (h : ws.all goodWord = true) : GoodIn big ws := fun w hw => ⟨hm w hw, good_of_word (List.all_eq_true.mp h w hw)⟩
/-! ===== END ===== -/

/-! ===== BEGIN exceptions that leave a method, and their catching by the caller (launches without stack traces) ===== -/
section VXA
/-! The laws vx_back, vx_callV, vx_callS, vx_callSW, vx_throw0, vx_throwS follow proofs of the library, with one case more: JvmDerived/Free/Laws.lean (Back.of_free), Shelf42/LK1.lean (callV, callS), Shelf/KitTraced.lean (throwNew0V, throwNewS). -/
/-- where a method has thrown q: the class by its name, the cell, what was written, the world -/
def vx_T (XC : String → State → State → Prop) (st : State) (q : Addr) (t : State) (mc ms : Nat) (free : Addr → Prop) : Prop :=
  ∃ (E : String) (ce : Cell) (L : List Loc), XC E st t ∧ t.heap[q]? = some ce ∧ ce.vm = .none ∧ st.vm.findClass E = some ce.cls ∧ st.WarmedH t.vm ∧ st.sameButNew ({ t with vm := st.vm } : State) L mc ms ∧ ∀ z ∈ L, free z.base
def vx_Q (Qc : Array Value → State → Outcome → State → Prop) (XC : String → State → State → Prop) (mc ms : Nat) (free : Addr → Prop) : Array Value → State → Outcome → State → Prop := fun a st o t =>
  (Qc a st o t ∧ ∃ L, FrameEnd st o t L mc ms ∧ ∀ q ∈ L, free q.base) ∨ ∃ q, o = .threw q ∧ vx_T XC st q t mc ms free
/-- a callee that returns or throws -/
def vx_Met (l : Launch) (y : MethodName) (ws : List Cond) (rm : Room) (Pc : Array Value → State → Prop) (Qc : Array Value → State → Outcome → State → Prop) (XC : String → State → State → Prop) (mc ms : Nat) (free : Addr → Prop) : Prop :=
  MetFree l y (headSpec ws rm) Pc (fun _ _ _ _ _ => True) (vx_Q Qc XC mc ms free)
def vx_Post (XC : String → State → State → Prop) (mc ms : Nat) (free : Addr → Prop) : Pt → Array Value → Addr → Pt → Prop := fun A a q B =>
  ∃ (g : JFrame) (mk : MethodId) (t : State) (L : List Loc) (E : String) (ce : Cell), B.U.heap = t.heap ∧ B.U.vm = t.vm ∧ XC E (A.U.calling g mk a) t ∧ t.heap[q]? = some ce ∧ ce.vm = .none ∧ A.U.vm.findClass E = some ce.cls ∧ B.locs = A.locs ++ L ∧ (∀ z ∈ L, free z.base) ∧ B.cells = A.cells + mc ∧ B.slots = A.slots + ms
def vx_Back (l : Launch) (R : Room) (p : Program) (e : Env) (below : List Frame) (s : State) (sargs : Array Value) (y : MethodName) (len W9 : Nat)
    (Pre : Pt → Array Value → Prop) (Post : Pt → Array Value → Option Value → Pt → Prop) (PostX : Pt → Array Value → Addr → Pt → Prop) : Prop :=
  ∀ (m : MethodId) (meth : Method) (c : Code) (A : Pt) (g : JFrame) (ig : Instr) (mk : MethodId) (a : Array Value),
    Stand p l e R s m sargs below meth c A.U A.locs A.cells A.slots → g.method = m → g.locals.size = c.maxLocals → decode c.code g.pc = .ok (ig, len) →
    2 * g.monitorRoom + (g.stack.map fun v => v.category).sum ≤ W9 → A.U.methodNamed? y = some mk → Pre A a →
    (∃ (v : Option Value) (B : Pt), Stand p l e R s m sargs below meth c B.U B.locs B.cells B.slots ∧ Post A a v B ∧
      Steps p.tables e below (doInvoke e (A.U.setTop g) [] mk a).1 (B.U.setTop { g with pc := g.pc + len, stack := v.toList ++ g.stack })) ∨
    (∃ (q : Addr) (B : Pt), Stand p l e R s m sargs below meth c B.U B.locs B.cells B.slots ∧ PostX A a q B ∧
      Steps p.tables e below (doInvoke e (A.U.setTop g) [] mk a).1 ((B.U.setTop g).pushFrame (.throwing q)))
section Payer
variable {l : Launch} {R : Room} {p : Program} {e : Env} {below : List Frame} {s : State} {sargs : Array Value} {y : MethodName} {len W9 : Nat}
theorem vx_back {ws : List Cond} {rm : Room} {Pc : Array Value → State → Prop} {Qc : Array Value → State → Outcome → State → Prop} {XC : String → State → State → Prop} {mc ms : Nat} {free : Addr → Prop} {bytes : ByteArray} {maxL : Nat} {ret : Option FieldType}
    (hM : vx_Met l y ws rm Pc Qc XC mc ms free) (hblind : FrameBlind Pc) (hrc : rm.cells = mc) (hrs : rm.slots = ms)
    (hframes : rm.frames + 1 ≤ R.frames) (hlocals : W9 + (maxL + 11) + rm.locals ≤ R.locals)
    (hws : ∀ w ∈ ws, ∀ a' U, s.WarmedH U.vm → w.before a' U = true) (hcode : Cond.code y bytes maxL ret ∈ ws) (hinit : ∀ a' U, s.WarmedH U.vm → (Cond.initialized y.cls).before a' U = true) :
    vx_Back l R p e below s sargs y len W9 (PreOf R mc ms Pc) (PostOf Qc mc ms free) (vx_Post XC mc ms free) := by
  intro m meth c A g ig mk a X hg hsize hdg hW hn hp
  have h1 : (headSpec ws rm).pre.before a A.U = true := atoms_intro fun w hw => hws w hw _ _ X.warmed
  have h2 : (Cond.code y bytes maxL ret).before a A.U = true := hws _ hcode _ _ X.warmed
  have h3 : (Cond.initialized y.cls).before a A.U = true := hinit _ _ X.warmed
  have h4 : A.cells + (headSpec ws rm).room.cells ≤ R.cells := by rw [show (headSpec ws rm).room.cells = mc from hrc]; exact hp.1
  have h5 : A.slots + (headSpec ws rm).room.slots ≤ R.slots := by rw [show (headSpec ws rm).room.slots = ms from hrs]; exact hp.2.1
  have hPc : Pc a (A.U.calling g mk a) := hblind _ _ _ _ hp.2.2
  obtain ⟨U, Ls, c0, s0⟩ := A
  dsimp only [Pt.U, Pt.locs, Pt.cells, Pt.slots] at h1 h2 h3 h4 h5 X hn hPc ⊢
  obtain ⟨methY, cY, hmY, hcY, -, hlY, -, -, -, -⟩ := Cond.code_spec hn h2
  obtain ⟨kY, hkY, -⟩ := className_of_methodNamed hn
  have hinitY : kY.init = .initialized := Cond.initialized_spec (findClass_of_methodNamed hn) hkY h3
  have h : At U g.method c below := by rw [hg]; exact X.here
  have hlocals9 : W9 + (maxL + 11) + (headSpec ws rm).room.locals ≤ R.locals := hlocals
  have happ : (headSpec ws rm).appliesLoose y e.platform (U.calling g mk a) = true :=
    Spec.appliesLoose_calling (g := g) h hdg hn hkY hinitY
      (X.room_calling (g := g) (R' := (headSpec ws rm).room) hsize hmY hcY hframes (by rw [hlY]; omega) h4 h5) h1
  obtain ⟨mid, hmid⟩ := h.above
  have hfr : (U.setTop g).frames = (.java g :: mid) ++ below := by rw [State.frames_setTop' g h.top, hmid]; rfl
  obtain ⟨o, s₂, hsteps, -, hend, hq⟩ := Steps.callFree hM p X.admits X.cas X.clock (acts := []) hfr happ hPc trivial
  have hq' : vx_Q Qc XC mc ms free a (U.calling g mk a) o s₂ := hq
  rw [State.frames_setTop' g h.top] at hend
  obtain ⟨g₀, hg0⟩ := Option.isSome_iff_exists.mp h.top
  obtain ⟨r, hr⟩ := State.topJava?_eq_some.mp hg0
  have hr' : (({ U with heap := s₂.heap, slotsUsed := s₂.slotsUsed } : State).setVm s₂.vm).frames = .java g₀ :: r := hr
  rcases hq' with ⟨hqc, L, hfe, hL⟩ | ⟨q, rfl, E, ce, L, hx, hce, hcv, hcl, hW₂, hsm, hL⟩
  · obtain ⟨⟨v, rfl⟩, hW₂, e2, q2, q3, q4, q5, q6⟩ := id hfe
    have e3 : s₂ = ({ (U.calling g mk a).setFrames s₂.frames with heap := s₂.heap, slotsUsed := s₂.slotsUsed } : State).setVm s₂.vm := by
      have : s₂ = ({ s₂ with vm := (U.calling g mk a).vm } : State).setVm s₂.vm := rfl
      rw [e2] at this
      exact this
    obtain ⟨c₂, i₂, len₂, hc₂, hd₂, hf₂⟩ := hend
    have hW' : U.WarmedH s₂.vm := hW₂
    have hcc : c₂ = c := by
      have h1 : s₂.code? g.method = U.code? g.method := by
        rw [State.code?_eq, State.code?_eq, hW'.alike.method?]
      exact Option.some.inj (hc₂.symm.trans (h1.trans h.code))
    subst hcc
    have hlen : len₂ = len := by rw [hdg] at hd₂; cases hd₂; rfl
    subst hlen
    have hs₂ : s₂ = (({ U with heap := s₂.heap, slotsUsed := s₂.slotsUsed } : State).setVm s₂.vm).setTop { g with pc := g.pc + len₂, stack := v.toList ++ g.stack } := by
      refine e3.trans ?_
      rw [hf₂, State.calling_eq h.top, State.setFrames_setFrames, State.setTop_of_frames _ hr', hr]
      rfl
    have hsame : U.sameButNew ({ U with heap := s₂.heap, slotsUsed := s₂.slotsUsed } : State) L mc ms := by
      refine ⟨?_, q2, q3, q4, q5, q6⟩
      obtain ⟨t, ht, -⟩ := State.frames_cons hr
      show ({ U with heap := s₂.heap, slotsUsed := s₂.slotsUsed } : State) = { U.setFrames U.frames with heap := s₂.heap, slotsUsed := s₂.slotsUsed }
      rw [State.setFrames_self ht]
    subst hg
    refine Or.inl ⟨v, ⟨(({ U with heap := s₂.heap, slotsUsed := s₂.slotsUsed } : State).setVm s₂.vm), Ls ++ L, c0 + mc, s0 + ms⟩,
      ⟨X.admits, X.cas, X.clock, X.frames, X.room, X.hears, X.method, X.code, (X.here.setHeapUsed s₂.heap s₂.slotsUsed).setVm hW'.alike, X.tail, State.WarmedH.trans X.warmed hW', X.limits, X.bytes, X.same.trans (hsame.setVm s.vm)⟩,
      ⟨g, mk, s₂, L, rfl, rfl, hqc, rfl, hL, rfl, rfl⟩, ?_⟩
    show Steps p.tables e below _ ((({ U with heap := s₂.heap, slotsUsed := s₂.slotsUsed } : State).setVm s₂.vm).setTop { g with pc := g.pc + len₂, stack := v.toList ++ g.stack })
    rw [← hs₂]
    exact hsteps
  · obtain ⟨e2, q2, q3, q4, q5, q6⟩ := id hsm
    have e3 : s₂ = ({ (U.calling g mk a).setFrames s₂.frames with heap := s₂.heap, slotsUsed := s₂.slotsUsed } : State).setVm s₂.vm := by
      have : s₂ = ({ s₂ with vm := (U.calling g mk a).vm } : State).setVm s₂.vm := rfl
      rw [e2] at this
      exact this
    have hf₂ : s₂.frames = .throwing q :: .java g :: U.frames.tail := hend
    have hW' : U.WarmedH s₂.vm := hW₂
    have hs₂ : s₂ = ((({ U with heap := s₂.heap, slotsUsed := s₂.slotsUsed } : State).setVm s₂.vm).setTop g).pushFrame (.throwing q) := by
      refine e3.trans ?_
      rw [hf₂, State.calling_eq h.top, State.setFrames_setFrames, State.pushFrame, State.frames_setTop _ hr', State.setTop_of_frames _ hr', State.setFrames_setFrames, hr]
      rfl
    have hsame : U.sameButNew ({ U with heap := s₂.heap, slotsUsed := s₂.slotsUsed } : State) L mc ms := by
      refine ⟨?_, q2, q3, q4, q5, q6⟩
      obtain ⟨t, ht, -⟩ := State.frames_cons hr
      show ({ U with heap := s₂.heap, slotsUsed := s₂.slotsUsed } : State) = { U.setFrames U.frames with heap := s₂.heap, slotsUsed := s₂.slotsUsed }
      rw [State.setFrames_self ht]
    subst hg
    refine Or.inr ⟨q, ⟨(({ U with heap := s₂.heap, slotsUsed := s₂.slotsUsed } : State).setVm s₂.vm), Ls ++ L, c0 + mc, s0 + ms⟩,
      ⟨X.admits, X.cas, X.clock, X.frames, X.room, X.hears, X.method, X.code, (X.here.setHeapUsed s₂.heap s₂.slotsUsed).setVm hW'.alike, X.tail, State.WarmedH.trans X.warmed hW', X.limits, X.bytes, X.same.trans (hsame.setVm s.vm)⟩,
      ⟨g, mk, s₂, L, E, ce, rfl, rfl, hx, hce, hcv, hcl, rfl, hL, rfl, rfl⟩, ?_⟩
    show Steps p.tables e below _ (((({ U with heap := s₂.heap, slotsUsed := s₂.slotsUsed } : State).setVm s₂.vm).setTop g).pushFrame (.throwing q))
    rw [← hs₂]
    exact hsteps
end Payer
section Calls
variable {p : Program} {l : Launch} {e : Env} {R : Room} {s : State} {m : MethodId} {args : Array Value} {below : List Frame} {meth : Method} {c : Code} {T : State} {locs : List Loc} {cells slots : Nat}
theorem vx_callV (X : Stand p l e R s m args below meth c T locs cells slots) (hexec : p.tables.exec = Jvm.exec) {own C : String} {index : Nat} {y : MethodName} {bytes : ByteArray} {maxL : Nat} {ret : Option FieldType}
    (hown : s.vm.findClass own = some m.cls) (hlink : (Cond.methodLink own index y).before args s = true) (hinst : (Cond.instanceMethod y).before args s = true) (hsel : (Cond.selects C y y).before args s = true)
    (hcode : (Cond.code y bytes maxL ret).before args s = true) (hy : y.cls ≠ "java/lang/invoke/MethodHandle" ∧ y.cls ≠ "java/lang/invoke/VarHandle")
    {W9 : Nat} {Pre : Pt → Array Value → Prop} {Post : Pt → Array Value → Option Value → Pt → Prop} {PostX : Pt → Array Value → Addr → Pt → Prop} (hK : vx_Back l R p e below s args y 3 W9 Pre Post PostX)
    {b : Addr} {cellB : Cell} (hcell : T.heap[b]? = some cellB) (hobj : cellB.vm.isStatics = false) (hcls : s.vm.findClass C = some cellB.cls)
    {g : JFrame} (hg : g.method = m) (hsize : g.locals.size = c.maxLocals) {argsL rest : List Value} (hlen : ∀ sig, parseMethodDescriptor y.desc = some sig → argsL.length = sig.parameters.length)
    (hstack : g.stack = argsL.reverse ++ .ref b :: rest) (hW : 2 * g.monitorRoom + (rest.map fun v => v.category).sum ≤ W9) (hdg : decode c.code g.pc = .ok (.invokevirtual index, 3))
    (hpre : ∀ vm₁, s.WarmedH vm₁ → Pre ⟨T.setVm vm₁, locs, cells, slots⟩ (Value.ref b :: argsL).toArray) :
    (∃ (v : Option Value) (vm₁ : Vm) (B : Pt), s.WarmedH vm₁ ∧ Stand p l e R s m args below meth c B.U B.locs B.cells B.slots ∧ Post ⟨T.setVm vm₁, locs, cells, slots⟩ (Value.ref b :: argsL).toArray v B ∧
      ∀ target, Steps p.tables e below (B.U.setTop { g with pc := g.pc + 3, stack := v.toList ++ rest }) target → Steps p.tables e below (T.setTop g) target) ∨
    (∃ (q : Addr) (vm₁ : Vm) (B : Pt), s.WarmedH vm₁ ∧ Stand p l e R s m args below meth c B.U B.locs B.cells B.slots ∧ PostX ⟨T.setVm vm₁, locs, cells, slots⟩ (Value.ref b :: argsL).toArray q B ∧
      Steps p.tables e below (T.setTop g) ((B.U.setTop { g with stack := rest }).pushFrame (.throwing q))) := by
  obtain ⟨mk, methM, hnamed, hmethM, hstM, habM⟩ := Cond.instanceMethod_spec hinst
  obtain ⟨methM', cM, hmethM', -, -, -, -, -, -, hsigM⟩ := Cond.code_spec hnamed hcode
  cases hmethM.symm.trans hmethM'
  obtain ⟨c2, r2, m2, q1, q2, q3, q4, kP, hkP, hkPi⟩ := Cond.selects_spec hsel
  cases hcls.symm.trans q1
  cases (State.methodFound?_of_named hnamed hy).symm.trans q2
  cases hnamed.symm.trans q3
  have hselP : selectMethod e.platform s.vm cellB.cls mk = .method mk := by rw [Launch.admits_selectMethod X.admits]; exact q4
  obtain ⟨vm₁, X₁, hstep₁⟩ := X.invokevirtual hexec hown hlink hnamed hmethM hstM hkP hkPi hy (a := b) (cell := cellB) hcell
    (fun z h => by rw [h] at hobj; cases hobj) hselP hmethM habM hkP hkPi (g := g) hg (argsL := argsL) (rest := rest) (hlen _ hsigM) hstack hdg
  rcases hK m meth c ⟨T.setVm vm₁, locs, cells, slots⟩ { g with stack := rest } (.invokevirtual index) mk (Value.ref b :: argsL).toArray X₁ hg hsize hdg hW (X₁.named hnamed) (hpre vm₁ X₁.warmed) with ⟨v, B, X', hpost, hsteps⟩ | ⟨q, B, X', hpost, hsteps⟩
  · exact Or.inl ⟨v, vm₁, B, X₁.warmed, X', hpost, fun target h => hstep₁ _ fun acts => by rw [doInvoke_state]; exact hsteps.trans h⟩
  · exact Or.inr ⟨q, vm₁, B, X₁.warmed, X', hpost, hstep₁ _ fun acts => by rw [doInvoke_state]; exact hsteps⟩
theorem vx_callS (X : Stand p l e R s m args below meth c T locs cells slots) (hexec : p.tables.exec = Jvm.exec) {own : String} {index : Nat} {y : MethodName} {bytes : ByteArray} {maxL : Nat} {ret : Option FieldType}
    (hown : s.vm.findClass own = some m.cls) (hlink : (Cond.methodLink own index y).before args s = true) (hstat : (Cond.static y).before args s = true) (hinit : (Cond.initialized y.cls).before args s = true)
    (hcode : (Cond.code y bytes maxL ret).before args s = true) (hy : y.cls ≠ "java/lang/invoke/MethodHandle" ∧ y.cls ≠ "java/lang/invoke/VarHandle")
    {W9 : Nat} {Pre : Pt → Array Value → Prop} {Post : Pt → Array Value → Option Value → Pt → Prop} {PostX : Pt → Array Value → Addr → Pt → Prop} (hK : vx_Back l R p e below s args y 3 W9 Pre Post PostX)
    {g : JFrame} (hg : g.method = m) (hsize : g.locals.size = c.maxLocals) {argsL rest : List Value} (hlen : ∀ sig, parseMethodDescriptor y.desc = some sig → argsL.length = sig.parameters.length)
    (hstack : g.stack = argsL.reverse ++ rest) (hW : 2 * g.monitorRoom + (rest.map fun v => v.category).sum ≤ W9) (hdg : decode c.code g.pc = .ok (.invokestatic index, 3))
    (hpre : ∀ vm₁, s.WarmedH vm₁ → Pre ⟨T.setVm vm₁, locs, cells, slots⟩ argsL.toArray) :
    (∃ (v : Option Value) (vm₁ : Vm) (B : Pt), s.WarmedH vm₁ ∧ Stand p l e R s m args below meth c B.U B.locs B.cells B.slots ∧ Post ⟨T.setVm vm₁, locs, cells, slots⟩ argsL.toArray v B ∧
      ∀ target, Steps p.tables e below (B.U.setTop { g with pc := g.pc + 3, stack := v.toList ++ rest }) target → Steps p.tables e below (T.setTop g) target) ∨
    (∃ (q : Addr) (vm₁ : Vm) (B : Pt), s.WarmedH vm₁ ∧ Stand p l e R s m args below meth c B.U B.locs B.cells B.slots ∧ PostX ⟨T.setVm vm₁, locs, cells, slots⟩ argsL.toArray q B ∧
      Steps p.tables e below (T.setTop g) ((B.U.setTop { g with stack := rest }).pushFrame (.throwing q))) := by
  obtain ⟨mk, hnamed⟩ := Cond.code_named hcode
  obtain ⟨methM, cM, hmethM, -, -, -, -, -, -, hsigM⟩ := Cond.code_spec hnamed hcode
  have hstatic : methM.isStatic = true := Cond.static_spec hnamed hmethM hstat
  obtain ⟨kP, hkP, -⟩ := className_of_methodNamed hnamed
  have hinitP : kP.init = .initialized := Cond.initialized_spec (findClass_of_methodNamed hnamed) hkP hinit
  obtain ⟨vm₁, X₁, hstep₁⟩ := X.invokestatic hexec hown hlink hnamed hmethM hstatic hkP hinitP hy (g := g) hg (argsL := argsL) (rest := rest) (hlen _ hsigM) hstack hdg
  rcases hK m meth c ⟨T.setVm vm₁, locs, cells, slots⟩ { g with stack := rest } (.invokestatic index) mk argsL.toArray X₁ hg hsize hdg hW (X₁.named hnamed) (hpre vm₁ X₁.warmed) with ⟨v, B, X', hpost, hsteps⟩ | ⟨q, B, X', hpost, hsteps⟩
  · exact Or.inl ⟨v, vm₁, B, X₁.warmed, X', hpost, fun target h => hstep₁ _ fun acts => by rw [doInvoke_state]; exact hsteps.trans h⟩
  · exact Or.inr ⟨q, vm₁, B, X₁.warmed, X', hpost, hstep₁ _ fun acts => by rw [doInvoke_state]; exact hsteps⟩
end Calls
theorem vx_cls {s : State} {T : State} {vm₁ : Vm} {E : String} {k : ClassId} (hW : s.WarmedH vm₁) (h : (T.setVm vm₁).vm.findClass E = some k) : s.vm.findClass E = some k := by
  have h1 : vm₁.findClass E = some k := h
  rw [hW.alike.findClass] at h1
  exact h1
/-- the method's frame g, with q thrown over it -/
def vx_W (p : Program) (l : Launch) (e : Env) (R : Room) (s : State) (m : MethodId) (args : Array Value) (below : List Frame) (meth : Method) (c : Code) (H : Heap) (locs : List Loc) (cells slots : Nat) (Q : State → Prop) (g : JFrame) (q : Addr) : Prop :=
  ∀ T : State, T.heap = H → Stand p l e R s m args below meth c T locs cells slots → ∃ t, Steps p.tables e below ((T.setTop g).pushFrame (.throwing q)) t ∧ Q t
def vx_Run (p : Program) (l : Launch) (e : Env) (R : Room) (s : State) (m : MethodId) (args : Array Value) (below : List Frame) (meth : Method) (c : Code) (H : Heap) (locs : List Loc) (cells slots mc ms : Nat) (g : JFrame) (rest : List Value) (Qa : State → Outcome → State → Prop) (XC : String → State → State → Prop) (free : Addr → Prop) : Prop :=
  ∀ T : State, T.heap = H → Stand p l e R s m args below meth c T locs cells slots →
    (∃ (v : Option Value) (st₀ t T' : State) (L : List Loc), st₀.heap = H ∧ Stand p l e R s m args below meth c T' (locs ++ L) (cells + mc) (slots + ms) ∧ (∀ q ∈ L, free q.base) ∧ T'.heap = t.heap ∧ T'.vm = t.vm ∧ Qa st₀ (.returned v) t ∧
      Goes p e below T g T' { g with pc := g.pc + 3, stack := v.toList ++ rest }) ∨
    (∃ (q : Addr) (st₀ t T' : State) (L : List Loc) (E : String) (ce : Cell), st₀.heap = H ∧ Stand p l e R s m args below meth c T' (locs ++ L) (cells + mc) (slots + ms) ∧ (∀ z ∈ L, free z.base) ∧ T'.heap = t.heap ∧ T'.vm = t.vm ∧ XC E st₀ t ∧ t.heap[q]? = some ce ∧ ce.vm = .none ∧ s.vm.findClass E = some ce.cls ∧
      Steps p.tables e below (T.setTop g) ((T'.setTop { g with stack := rest }).pushFrame (.throwing q)))
def vx_X {S : Type} (px : S → Prop) (B : String → S → State → Prop) (A : Nat → Prop) : String → State → State → Prop := fun E st t => ∃ u : S, px u ∧ B E u t ∧ va_F A st t
section Runs
variable {p : Program} {l : Launch} {e : Env} {R : Room} {s : State} {m : MethodId} {args : Array Value} {below : List Frame} {meth : Method} {c : Code} {H : Heap} {locs : List Loc} {cells slots : Nat}
variable {y : MethodName} {bytes cc : ByteArray} {maxL nL mc ms n index : Nat} {ret : Option FieldType} {ws : List Cond} {rm : Room} {Pc : Array Value → State → Prop} {Qc : Array Value → State → Outcome → State → Prop} {XC : String → State → State → Prop} {free : Addr → Prop} {Ts : List Cond} {own C : String} {b : Addr} {As rest : List Value} {g : JFrame}
theorem vx_callBack (cb : CallB R s args own index y bytes maxL ret ws rm mc ms n) (hM : vx_Met l y ws rm Pc Qc XC mc ms free) (hbl : FrameBlind Pc) : vx_Back l R p e below s args y 3 8 (PreOf R mc ms Pc) (PostOf Qc mc ms free) (vx_Post XC mc ms free) := by
  obtain ⟨hrc, hrs, hfr, hlo, hws, hcw, -, hini, -⟩ := cb
  exact vx_back (bytes := bytes) (maxL := maxL) (ret := ret) hM hbl hrc hrs hfr hlo hws hcw (fun a' U hW => word_at hW (Or.inl (by first | rfl | simp [Cond.onTables, Cond.keeps, Cond.steady])) hini)
theorem vx_runV (S : CallFix p m c cc nL s args Ts own) (hM : vx_Met l y ws rm Pc Qc XC mc ms free) (cw : CallW R s args own C index y bytes maxL ret ws rm mc ms n) (hp : PreV s H C b Pc As)
    (hg : g.method = m) (hn : As.length = n) (hsize : g.locals.size = nL) (hstack : g.stack = As.reverse ++ .ref b :: rest) (hW : 2 * g.monitorRoom + (rest.map fun v => v.category).sum ≤ 8) (hdg : decode cc g.pc = .ok (.invokevirtual index, 3)) (hf : cells + mc ≤ R.cells ∧ slots + ms ≤ R.slots) :
    vx_Run p l e R s m args below meth c H locs cells slots mc ms g rest (Qc (Value.ref b :: As).toArray) XC free := by
  have hK : vx_Back l R p e below s args y 3 8 (PreOf R mc ms Pc) (PostOf Qc mc ms free) (vx_Post XC mc ms free) := vx_callBack cw.1 hM hp.1
  obtain ⟨⟨-, -, -, -, -, -, hcode, -, hy, hlen, hl⟩, hin, hse⟩ := cw
  obtain ⟨hx, hb, hml, ho, -⟩ := S
  obtain ⟨-, ⟨cellB, hcB, hoB, hclB⟩, hPc⟩ := hp
  intro T hT X
  rcases vx_callV X hx (C := C) (bytes := bytes) (maxL := maxL) (ret := ret) ho hl hin hse hcode hy hK (by rw [hT]; exact hcB) hoB hclB hg (hsize.trans hml.symm) (argsL := As) (rest := rest) (fun sig h => hn.trans (hlen sig h)) hstack hW (by rw [hb]; exact hdg)
    (fun vm₁ hW₁ => ⟨hf.1, hf.2, hPc (T.setVm vm₁) hT hW₁⟩) with ⟨v, vm₁, ⟨U', l2, c2, s2⟩, hW₁, X', ⟨g', mk, t, L, e1, e2, hq, h1, hL, h2, h3⟩, st⟩ | ⟨q, vm₁, ⟨U', l2, c2, s2⟩, hW₁, X', ⟨g', mk, t, L, E, ce, e1, e2, hq, hce, hcv, hcl, h1, hL, h2, h3⟩, st⟩
  · dsimp only [Pt.U, Pt.locs, Pt.cells, Pt.slots] at X' e1 e2 h1 h2 h3 st
    subst h1; subst h2; subst h3
    exact Or.inl ⟨v, (T.setVm vm₁).calling g' mk (Value.ref b :: As).toArray, t, U', L, hT, X', hL, e1, e2, hq, st⟩
  · dsimp only [Pt.U, Pt.locs, Pt.cells, Pt.slots] at X' e1 e2 h1 h2 h3 st hcl
    subst h1; subst h2; subst h3
    exact Or.inr ⟨q, (T.setVm vm₁).calling g' mk (Value.ref b :: As).toArray, t, U', L, E, ce, hT, X', hL, e1, e2, hq, hce, hcv, vx_cls hW₁ hcl, st⟩
theorem vx_runS (S : CallFix p m c cc nL s args Ts own) (hM : vx_Met l y ws rm Pc Qc XC mc ms free) (cw : CallB R s args own index y bytes maxL ret ws rm mc ms n ∧ (Cond.static y).before args s = true) (hp : PreS s H Pc As)
    (hg : g.method = m) (hn : As.length = n) (hsize : g.locals.size = nL) (hstack : g.stack = As.reverse ++ rest) (hW : 2 * g.monitorRoom + (rest.map fun v => v.category).sum ≤ 8) (hdg : decode cc g.pc = .ok (.invokestatic index, 3)) (hf : cells + mc ≤ R.cells ∧ slots + ms ≤ R.slots) :
    vx_Run p l e R s m args below meth c H locs cells slots mc ms g rest (Qc As.toArray) XC free := by
  have hK : vx_Back l R p e below s args y 3 8 (PreOf R mc ms Pc) (PostOf Qc mc ms free) (vx_Post XC mc ms free) := vx_callBack cw.1 hM hp.1
  obtain ⟨⟨-, -, -, -, -, -, hcode, hini, hy, hlen, hl⟩, hstt⟩ := cw
  obtain ⟨hx, hb, hml, ho, -⟩ := S
  intro T hT X
  rcases vx_callS X hx (bytes := bytes) (maxL := maxL) (ret := ret) ho hl hstt hini hcode hy hK hg (hsize.trans hml.symm) (argsL := As) (rest := rest) (fun sig h => hn.trans (hlen sig h)) hstack hW (by rw [hb]; exact hdg)
    (fun vm₁ hW₁ => ⟨hf.1, hf.2, hp.2 (T.setVm vm₁) hT hW₁⟩) with ⟨v, vm₁, ⟨U', l2, c2, s2⟩, hW₁, X', ⟨g', mk, t, L, e1, e2, hq, h1, hL, h2, h3⟩, st⟩ | ⟨q, vm₁, ⟨U', l2, c2, s2⟩, hW₁, X', ⟨g', mk, t, L, E, ce, e1, e2, hq, hce, hcv, hcl, h1, hL, h2, h3⟩, st⟩
  · dsimp only [Pt.U, Pt.locs, Pt.cells, Pt.slots] at X' e1 e2 h1 h2 h3 st
    subst h1; subst h2; subst h3
    exact Or.inl ⟨v, (T.setVm vm₁).calling g' mk As.toArray, t, U', L, hT, X', hL, e1, e2, hq, st⟩
  · dsimp only [Pt.U, Pt.locs, Pt.cells, Pt.slots] at X' e1 e2 h1 h2 h3 st hcl
    subst h1; subst h2; subst h3
    exact Or.inr ⟨q, (T.setVm vm₁).calling g' mk As.toArray, t, U', L, E, ce, hT, X', hL, e1, e2, hq, hce, hcv, vx_cls hW₁ hcl, st⟩
end Runs
section Rows
variable {p : Program} {l : Launch} {e : Env} {R : Room} {s : State} {m : MethodId} {args : Array Value} {below : List Frame} {meth : Method} {c : Code} {H : Heap} {locs : List Loc} {cells slots : Nat} {Q : State → Prop}
variable {mc ms : Nat} {free : Addr → Prop} {A0 A1 : Nat → Prop} {H0 : Heap} {a : Array Value} {pc : Nat} {ls : Array Slot} {st0 rest : List Value}
theorem vx_keep {st₀ t T' : State} {L : List Loc} (h0 : st₀.heap = H) (e1 : T'.heap = t.heap) (hS : va_S A0 H0 H locs) (hA : ∀ q, q < H.size → A1 q → A0 q) (hf : ∀ q, free q → A0 q) (hL : ∀ q ∈ L, free q.base) (hF : va_F A1 st₀ t) :
    H.size ≤ T'.heap.size ∧ (∀ q : Nat, q < H.size → ¬ A1 q → T'.heap[q]? = H[q]?) ∧ va_S A0 H0 T'.heap (locs ++ L) := by
  obtain ⟨hz, hk⟩ := hF
  rw [h0] at hz hk
  exact ⟨by rw [e1]; exact hz, fun q h1 h2 => by rw [e1]; exact hk q h1 h2,
    ⟨Nat.le_trans hS.1 (by rw [e1]; exact hz), fun q h1 h2 => by rw [e1, hk q (Nat.lt_of_lt_of_le h1 hS.1) (fun z => h2 (hA q (Nat.lt_of_lt_of_le h1 hS.1) z))]; exact hS.2.1 q h1 h2, fun q hq => by
      rcases List.mem_append.mp hq with h | h
      · exact hS.2.2 q h
      · exact hf _ (hL q h)⟩⟩
theorem vx_calli {S SX : Type} {post : Int32 → S → Prop} {px : SX → Prop} {B : S → State → Prop} {BX : String → SX → State → Prop} {AX : Nat → Prop} (hr : vx_Run p l e R s m args below meth c H locs cells slots mc ms (F0 m pc ls st0) rest (va_Qi post B A1 a) (vx_X px BX AX) free) (hS : va_S A0 H0 H locs) (hA : ∀ q, q < H.size → A1 q → A0 q) (hf : ∀ q, free q → A0 q) (hAX : ∀ q, q < H.size → AX q → A0 q)
    (kx : ∀ (E : String) (ce : Cell) (q9 : Addr) (u : SX) (t : State) (H1 : Heap) (locs1 : List Loc), t.heap = H1 → s.vm.Alike t.vm → px u → BX E u t → H.size ≤ H1.size → (∀ q : Nat, q < H.size → ¬ AX q → H1[q]? = H[q]?) → va_S A0 H0 H1 locs1 → H1[q9]? = some ce → ce.vm = .none → s.vm.findClass E = some ce.cls → vx_W p l e R s m args below meth c H1 locs1 (cells + mc) (slots + ms) Q (F0 m pc ls rest) q9)
    (kk : ∀ (r : Int32) (u : S) (t : State) (H1 : Heap) (locs1 : List Loc), t.heap = H1 → s.vm.Alike t.vm → post r u → B u t → H.size ≤ H1.size → (∀ q : Nat, q < H.size → ¬ A1 q → H1[q]? = H[q]?) → va_S A0 H0 H1 locs1 → W p l e R s m args below meth c H1 locs1 (cells + mc) (slots + ms) Q (F0 m (pc + 3) ls (.int r :: rest))) : W p l e R s m args below meth c H locs cells slots Q (F0 m pc ls st0) := by
  intro T hT X
  rcases hr T hT X with ⟨v, st₀, t, T', L, h0, X', hL, e1, e2, ⟨⟨r, u, hv, hp, hb⟩, hF⟩, st⟩ | ⟨q, st₀, t, T', L, E, ce, h0, X', hL, e1, e2, ⟨u, hp, hb, hF⟩, hce, hcv, hcl, st⟩
  · cases hv
    obtain ⟨k1, k2, k3⟩ := vx_keep h0 e1 hS hA hf hL hF
    obtain ⟨t2, a1, b1⟩ := kk r u t T'.heap (locs ++ L) e1.symm (by rw [← e2]; exact X'.warmed.alike) hp hb k1 k2 k3 T' rfl X'
    exact ⟨t2, st t2 a1, b1⟩
  · obtain ⟨k1, k2, k3⟩ := vx_keep h0 e1 hS hAX hf hL hF
    obtain ⟨t2, a1, b1⟩ := kx E ce q u t T'.heap (locs ++ L) e1.symm (by rw [← e2]; exact X'.warmed.alike) hp hb k1 k2 k3 (by rw [e1]; exact hce) hcv hcl T' rfl X'
    exact ⟨t2, st.trans a1, b1⟩
theorem vx_calll {S SX : Type} {post : Int64 → S → Prop} {px : SX → Prop} {B : S → State → Prop} {BX : String → SX → State → Prop} {AX : Nat → Prop} (hr : vx_Run p l e R s m args below meth c H locs cells slots mc ms (F0 m pc ls st0) rest (va_Ql post B A1 a) (vx_X px BX AX) free) (hS : va_S A0 H0 H locs) (hA : ∀ q, q < H.size → A1 q → A0 q) (hf : ∀ q, free q → A0 q) (hAX : ∀ q, q < H.size → AX q → A0 q)
    (kx : ∀ (E : String) (ce : Cell) (q9 : Addr) (u : SX) (t : State) (H1 : Heap) (locs1 : List Loc), t.heap = H1 → s.vm.Alike t.vm → px u → BX E u t → H.size ≤ H1.size → (∀ q : Nat, q < H.size → ¬ AX q → H1[q]? = H[q]?) → va_S A0 H0 H1 locs1 → H1[q9]? = some ce → ce.vm = .none → s.vm.findClass E = some ce.cls → vx_W p l e R s m args below meth c H1 locs1 (cells + mc) (slots + ms) Q (F0 m pc ls rest) q9)
    (kk : ∀ (r : Int64) (u : S) (t : State) (H1 : Heap) (locs1 : List Loc), t.heap = H1 → s.vm.Alike t.vm → post r u → B u t → H.size ≤ H1.size → (∀ q : Nat, q < H.size → ¬ A1 q → H1[q]? = H[q]?) → va_S A0 H0 H1 locs1 → W p l e R s m args below meth c H1 locs1 (cells + mc) (slots + ms) Q (F0 m (pc + 3) ls (.long r :: rest))) : W p l e R s m args below meth c H locs cells slots Q (F0 m pc ls st0) := by
  intro T hT X
  rcases hr T hT X with ⟨v, st₀, t, T', L, h0, X', hL, e1, e2, ⟨⟨r, u, hv, hp, hb⟩, hF⟩, st⟩ | ⟨q, st₀, t, T', L, E, ce, h0, X', hL, e1, e2, ⟨u, hp, hb, hF⟩, hce, hcv, hcl, st⟩
  · cases hv
    obtain ⟨k1, k2, k3⟩ := vx_keep h0 e1 hS hA hf hL hF
    obtain ⟨t2, a1, b1⟩ := kk r u t T'.heap (locs ++ L) e1.symm (by rw [← e2]; exact X'.warmed.alike) hp hb k1 k2 k3 T' rfl X'
    exact ⟨t2, st t2 a1, b1⟩
  · obtain ⟨k1, k2, k3⟩ := vx_keep h0 e1 hS hAX hf hL hF
    obtain ⟨t2, a1, b1⟩ := kx E ce q u t T'.heap (locs ++ L) e1.symm (by rw [← e2]; exact X'.warmed.alike) hp hb k1 k2 k3 (by rw [e1]; exact hce) hcv hcl T' rfl X'
    exact ⟨t2, st.trans a1, b1⟩
theorem vx_callf {S SX : Type} {post : UInt32 → S → Prop} {px : SX → Prop} {B : S → State → Prop} {BX : String → SX → State → Prop} {AX : Nat → Prop} (hr : vx_Run p l e R s m args below meth c H locs cells slots mc ms (F0 m pc ls st0) rest (va_Qf post B A1 a) (vx_X px BX AX) free) (hS : va_S A0 H0 H locs) (hA : ∀ q, q < H.size → A1 q → A0 q) (hf : ∀ q, free q → A0 q) (hAX : ∀ q, q < H.size → AX q → A0 q)
    (kx : ∀ (E : String) (ce : Cell) (q9 : Addr) (u : SX) (t : State) (H1 : Heap) (locs1 : List Loc), t.heap = H1 → s.vm.Alike t.vm → px u → BX E u t → H.size ≤ H1.size → (∀ q : Nat, q < H.size → ¬ AX q → H1[q]? = H[q]?) → va_S A0 H0 H1 locs1 → H1[q9]? = some ce → ce.vm = .none → s.vm.findClass E = some ce.cls → vx_W p l e R s m args below meth c H1 locs1 (cells + mc) (slots + ms) Q (F0 m pc ls rest) q9)
    (kk : ∀ (r : UInt32) (u : S) (t : State) (H1 : Heap) (locs1 : List Loc), t.heap = H1 → s.vm.Alike t.vm → post r u → B u t → H.size ≤ H1.size → (∀ q : Nat, q < H.size → ¬ A1 q → H1[q]? = H[q]?) → va_S A0 H0 H1 locs1 → W p l e R s m args below meth c H1 locs1 (cells + mc) (slots + ms) Q (F0 m (pc + 3) ls (.float r :: rest))) : W p l e R s m args below meth c H locs cells slots Q (F0 m pc ls st0) := by
  intro T hT X
  rcases hr T hT X with ⟨v, st₀, t, T', L, h0, X', hL, e1, e2, ⟨⟨r, u, hv, hp, hb⟩, hF⟩, st⟩ | ⟨q, st₀, t, T', L, E, ce, h0, X', hL, e1, e2, ⟨u, hp, hb, hF⟩, hce, hcv, hcl, st⟩
  · cases hv
    obtain ⟨k1, k2, k3⟩ := vx_keep h0 e1 hS hA hf hL hF
    obtain ⟨t2, a1, b1⟩ := kk r u t T'.heap (locs ++ L) e1.symm (by rw [← e2]; exact X'.warmed.alike) hp hb k1 k2 k3 T' rfl X'
    exact ⟨t2, st t2 a1, b1⟩
  · obtain ⟨k1, k2, k3⟩ := vx_keep h0 e1 hS hAX hf hL hF
    obtain ⟨t2, a1, b1⟩ := kx E ce q u t T'.heap (locs ++ L) e1.symm (by rw [← e2]; exact X'.warmed.alike) hp hb k1 k2 k3 (by rw [e1]; exact hce) hcv hcl T' rfl X'
    exact ⟨t2, st.trans a1, b1⟩
theorem vx_calld {S SX : Type} {post : UInt64 → S → Prop} {px : SX → Prop} {B : S → State → Prop} {BX : String → SX → State → Prop} {AX : Nat → Prop} (hr : vx_Run p l e R s m args below meth c H locs cells slots mc ms (F0 m pc ls st0) rest (va_Qd post B A1 a) (vx_X px BX AX) free) (hS : va_S A0 H0 H locs) (hA : ∀ q, q < H.size → A1 q → A0 q) (hf : ∀ q, free q → A0 q) (hAX : ∀ q, q < H.size → AX q → A0 q)
    (kx : ∀ (E : String) (ce : Cell) (q9 : Addr) (u : SX) (t : State) (H1 : Heap) (locs1 : List Loc), t.heap = H1 → s.vm.Alike t.vm → px u → BX E u t → H.size ≤ H1.size → (∀ q : Nat, q < H.size → ¬ AX q → H1[q]? = H[q]?) → va_S A0 H0 H1 locs1 → H1[q9]? = some ce → ce.vm = .none → s.vm.findClass E = some ce.cls → vx_W p l e R s m args below meth c H1 locs1 (cells + mc) (slots + ms) Q (F0 m pc ls rest) q9)
    (kk : ∀ (r : UInt64) (u : S) (t : State) (H1 : Heap) (locs1 : List Loc), t.heap = H1 → s.vm.Alike t.vm → post r u → B u t → H.size ≤ H1.size → (∀ q : Nat, q < H.size → ¬ A1 q → H1[q]? = H[q]?) → va_S A0 H0 H1 locs1 → W p l e R s m args below meth c H1 locs1 (cells + mc) (slots + ms) Q (F0 m (pc + 3) ls (.double r :: rest))) : W p l e R s m args below meth c H locs cells slots Q (F0 m pc ls st0) := by
  intro T hT X
  rcases hr T hT X with ⟨v, st₀, t, T', L, h0, X', hL, e1, e2, ⟨⟨r, u, hv, hp, hb⟩, hF⟩, st⟩ | ⟨q, st₀, t, T', L, E, ce, h0, X', hL, e1, e2, ⟨u, hp, hb, hF⟩, hce, hcv, hcl, st⟩
  · cases hv
    obtain ⟨k1, k2, k3⟩ := vx_keep h0 e1 hS hA hf hL hF
    obtain ⟨t2, a1, b1⟩ := kk r u t T'.heap (locs ++ L) e1.symm (by rw [← e2]; exact X'.warmed.alike) hp hb k1 k2 k3 T' rfl X'
    exact ⟨t2, st t2 a1, b1⟩
  · obtain ⟨k1, k2, k3⟩ := vx_keep h0 e1 hS hAX hf hL hF
    obtain ⟨t2, a1, b1⟩ := kx E ce q u t T'.heap (locs ++ L) e1.symm (by rw [← e2]; exact X'.warmed.alike) hp hb k1 k2 k3 (by rw [e1]; exact hce) hcv hcl T' rfl X'
    exact ⟨t2, st.trans a1, b1⟩
theorem vx_callv {S SX : Type} {post : S → Prop} {px : SX → Prop} {B : S → State → Prop} {BX : String → SX → State → Prop} {AX : Nat → Prop} (hr : vx_Run p l e R s m args below meth c H locs cells slots mc ms (F0 m pc ls st0) rest (va_Qv post B A1 a) (vx_X px BX AX) free) (hS : va_S A0 H0 H locs) (hA : ∀ q, q < H.size → A1 q → A0 q) (hf : ∀ q, free q → A0 q) (hAX : ∀ q, q < H.size → AX q → A0 q)
    (kx : ∀ (E : String) (ce : Cell) (q9 : Addr) (u : SX) (t : State) (H1 : Heap) (locs1 : List Loc), t.heap = H1 → s.vm.Alike t.vm → px u → BX E u t → H.size ≤ H1.size → (∀ q : Nat, q < H.size → ¬ AX q → H1[q]? = H[q]?) → va_S A0 H0 H1 locs1 → H1[q9]? = some ce → ce.vm = .none → s.vm.findClass E = some ce.cls → vx_W p l e R s m args below meth c H1 locs1 (cells + mc) (slots + ms) Q (F0 m pc ls rest) q9)
    (kk : ∀ (u : S) (t : State) (H1 : Heap) (locs1 : List Loc), t.heap = H1 → s.vm.Alike t.vm → post u → B u t → H.size ≤ H1.size → (∀ q : Nat, q < H.size → ¬ A1 q → H1[q]? = H[q]?) → va_S A0 H0 H1 locs1 → W p l e R s m args below meth c H1 locs1 (cells + mc) (slots + ms) Q (F0 m (pc + 3) ls (rest))) : W p l e R s m args below meth c H locs cells slots Q (F0 m pc ls st0) := by
  intro T hT X
  rcases hr T hT X with ⟨v, st₀, t, T', L, h0, X', hL, e1, e2, ⟨⟨u, hv, hp, hb⟩, hF⟩, st⟩ | ⟨q, st₀, t, T', L, E, ce, h0, X', hL, e1, e2, ⟨u, hp, hb, hF⟩, hce, hcv, hcl, st⟩
  · cases hv
    obtain ⟨k1, k2, k3⟩ := vx_keep h0 e1 hS hA hf hL hF
    obtain ⟨t2, a1, b1⟩ := kk u t T'.heap (locs ++ L) e1.symm (by rw [← e2]; exact X'.warmed.alike) hp hb k1 k2 k3 T' rfl X'
    exact ⟨t2, st t2 a1, b1⟩
  · obtain ⟨k1, k2, k3⟩ := vx_keep h0 e1 hS hAX hf hL hF
    obtain ⟨t2, a1, b1⟩ := kx E ce q u t T'.heap (locs ++ L) e1.symm (by rw [← e2]; exact X'.warmed.alike) hp hb k1 k2 k3 (by rw [e1]; exact hce) hcv hcl T' rfl X'
    exact ⟨t2, st.trans a1, b1⟩
/-- caught by the row x of this method's table; the rows ahead don't take it -/
theorem vx_catch {own name : String} {E : String} {ce : Cell} {q : Addr} (hown : s.vm.findClass own = some m.cls) (pre : List ExceptionTableEntry) (x : ExceptionTableEntry) (suf : List ExceptionTableEntry) (hsplit : c.exceptionTable.toList = pre ++ x :: suf)
    (hpass : ∀ z ∈ pre, covers z pc = false ∨ (z.catchType ≠ 0 ∧ ∃ nm : String, (Cond.classLink own z.catchType nm).before args s = true ∧ va_Nc E nm s)) (hx : covers x pc = true) (h0 : x.catchType ≠ 0)
    (hlink : (Cond.classLink own x.catchType name).before args s = true) (hcast : (Cond.castable E name).before args s = true) (hcell : H[q]? = some ce) (hv : ce.vm = .none) (hcl : s.vm.findClass E = some ce.cls)
    (kk : W p l e R s m args below meth c H locs cells slots Q (F0 m x.handlerPc ls [.ref q])) : vx_W p l e R s m args below meth c H locs cells slots Q (F0 m pc ls rest) q := by
  intro T hT X
  have hpl : e.platform.magicAccessors = ({} : Platform).magicAccessors := by rw [X.admits.platform]
  obtain ⟨c3, c4, hc3, hc4, hasg⟩ := Cond.castable_spec hcast
  cases Option.some.inj (hc3.symm.trans hcl)
  obtain ⟨c5, hc5, hcl5⟩ := Cond.classLink_spec hown hlink e.platform hpl
  cases Option.some.inj (hc4.symm.trans hc5)
  obtain ⟨vm', X', st⟩ := X.thenCaughtThrough q (g := F0 m pc ls rest) rfl (Steps.refl _) (by rw [hT]; exact hcell) (by rw [hv]; rfl) (by obtain ⟨k9, h9, -⟩ := Vm.findClass_spec hcl; exact ⟨k9, h9⟩) pre x suf hsplit
    (fun z hz => by
      rcases hpass z hz with h | ⟨hz0, nm, hl1, hn1⟩
      · exact Or.inl h
      · obtain ⟨c6, hc6, hcl6⟩ := Cond.classLink_spec hown hl1 e.platform hpl
        obtain ⟨a8, b8, h1, h2, h3⟩ := hn1
        cases Option.some.inj (h1.symm.trans hcl)
        cases Option.some.inj (h2.symm.trans hc6)
        exact Or.inr ⟨hz0, _, hcl6, h3⟩) hx (Or.inr ⟨h0, c4, hcl5, hasg⟩)
  obtain ⟨t, a1, b1⟩ := kk (T.setVm vm') hT X'
  exact ⟨t, st.trans a1, b1⟩
end Rows
section Ends
variable {p : Program} {l : Launch} {e : Env} {R : Room} {s : State} {m : MethodId} {args : Array Value} {below : List Frame} {meth : Method} {c : Code} {H : Heap} {locs : List Loc} {cells slots : Nat} {Q : State → Prop}
variable {mc ms : Nat} {free : Addr → Prop} {A0 A1 : Nat → Prop} {H0 : Heap} {a : Array Value} {ls : Array Slot} {st0 rest : List Value}
variable {Qc : Array Value → State → Outcome → State → Prop} {XC : String → State → State → Prop}
/-- what a body that may throw owes at its end -/
def vx_MQ (below : List Frame) (Qc : Array Value → State → Outcome → State → Prop) (XC : String → State → State → Prop) (a : Array Value) (s : State) (mc ms : Nat) (free : Addr → Prop) : State → Prop := fun t =>
  ∃ o, t.status = .running ∧ Ended t below o ∧ vx_Q Qc XC mc ms free a s o t
theorem vx_ret {g : JFrame} {mc ms : Nat} (k : W p l e R s m args below meth c H locs cells slots (MQ below Qc args s mc ms free) g) : W p l e R s m args below meth c H locs cells slots (vx_MQ below Qc XC args s mc ms free) g := by
  intro T hT X
  obtain ⟨t, a1, o, b1, b2, b3, b4⟩ := k T hT X
  exact ⟨t, a1, o, b1, b2, Or.inl ⟨b3, b4⟩⟩
/-- not caught here: it goes on to the caller -/
theorem vx_widen {g : JFrame} {q : Addr} {k n : Nat} (h1 : cells ≤ k) (h2 : slots ≤ n) (kk : vx_W p l e R s m args below meth c H locs k n Q g q) : vx_W p l e R s m args below meth c H locs cells slots Q g q := fun T hT X => kk T hT (stand_widen X h1 h2)
theorem vx_out {pc : Nat} {E : String} {ce : Cell} {q : Addr} {mc ms : Nat} (hout : ∀ x ∈ c.exceptionTable.toList, covers x pc = false) (hlocks : meth.locks = false) (hcell : H[q]? = some ce) (hv : ce.vm = .none) (hcl : s.vm.findClass E = some ce.cls)
    (hx : ∀ t : State, t.heap = H → s.vm.Alike t.vm → XC E s t) (hf : ∀ z ∈ locs, free z.base) (hc : cells ≤ mc) (hs : slots ≤ ms) :
    vx_W p l e R s m args below meth c H locs cells slots (vx_MQ below Qc XC args s mc ms free) (F0 m pc ls rest) q := by
  intro T hT X
  obtain ⟨st1, hrun, hend, hW, hsm⟩ := X.leaveThrown q (g := F0 m pc ls rest) rfl rfl rfl hout hlocks
  have hcell9 : (T.setFrames (.throwing q :: below)).heap[q]? = some ce := by
    show T.heap[q]? = some ce
    rw [hT]; exact hcell
  exact ⟨_, st1, .threw q, hrun, hend, Or.inr ⟨q, rfl, E, ce, locs, hx _ hT hW.alike, hcell9, hv, hcl, hW, hsm.mono hc hs, hf⟩⟩
theorem vx_frame {U : State} {k n : Nat} (h : s.sameButNew ({ U with vm := s.vm } : State) locs k n) : s.heap.size ≤ U.heap.size ∧ ∀ q : Nat, q < s.heap.size → (∀ z ∈ locs, z.base ≠ q) → U.heap[q]? = s.heap[q]? := by
  obtain ⟨-, h2, -, -, -, h6⟩ := h
  refine ⟨h2, fun q hq hz => ?_⟩
  obtain ⟨c9, e1, e2, e3, e4⟩ := h6 q _ (Array.getElem?_eq_getElem hq)
  have hs : c9.slots = (s.heap[q]).slots := Array.ext_getElem? fun i => e4 i fun hm => hz _ hm rfl
  have h9 : c9 = s.heap[q] := by
    rw [hs] at e2
    exact e2
  have e5 : U.heap[q]? = some c9 := e1
  rw [e5, h9, Array.getElem?_eq_getElem hq]
/-- the words of a throw but the four that speak of the heap -/
def vx_no (w : Cond) : Bool := decide (w ≠ .isRef (.static Bundle.tN "UNASSIGNED_STACK" Bundle.steD)) && decide (w ≠ .isRef (.static Bundle.tN "SUPPRESSED_SENTINEL" Bundle.listD)) && decide (w ≠ .laysStatic Bundle.tN "UNASSIGNED_STACK" Bundle.steD) && decide (w ≠ .laysStatic Bundle.tN "SUPPRESSED_SENTINEL" Bundle.listD)
def vx_at0 (own : String) (ic : Nat) (X : String) (names : List String) : List Cond := (Bundle.ownAtoms0 own ic X names).filter vx_no
def vx_atS (own : String) (ic : Nat) (X : String) (names : List String) : List Cond := (Bundle.ownAtoms own ic X names).filter vx_no
/-- a word that the tables alone decide, or a good one -/
def vx_ot (w : Cond) : Bool := w.onTables || goodWord w
theorem vx_ot_at {args a' : Array Value} {s U : State} {w : Cond} (hW : s.WarmedH U.vm) (hvm : s.vm = U.vm) (hg : vx_ot w = true) (h : w.before args s = true) : w.before a' U = true := by
  simp only [vx_ot, Bool.or_eq_true] at hg
  rcases hg with hg | hg
  · exact va_tabs hg hvm h
  · exact word_at hW (good_of_word hg) h
/-- a list's words: the good ones out of the method's own list, the others by premises of their own -/
theorem vx_hat {args : Array Value} {s : State} {L B : List Cond} (h1 : ∀ w ∈ L.filter goodWord, w.before args s = true) (h2 : ∀ w ∈ L.filter (fun w => !goodWord w), w ∈ B) (h3 : ∀ w ∈ B, w.before args s = true) : ∀ w ∈ L, w.before args s = true := by
  intro w hw
  by_cases g : goodWord w = true
  · exact h1 w (List.mem_filter.mpr ⟨hw, g⟩)
  · refine h3 w (h2 w (List.mem_filter.mpr ⟨hw, ?_⟩))
    show (!goodWord w) = true
    cases hgw : goodWord w
    · rfl
    · exact absurd hgw g
theorem vx_c {args : Array Value} {s : State} {w : Cond} {B : List Cond} (h : w.before args s = true) (t : ∀ w ∈ B, w.before args s = true) : ∀ w' ∈ w :: B, w'.before args s = true := fun w' h' => (List.mem_cons.mp h').elim (fun e => by rw [e]; exact h) (t w')
theorem vx_n {args : Array Value} {s : State} : ∀ w ∈ ([] : List Cond), w.before args s = true := fun _ h => nomatch h
theorem vx_own {args : Array Value} {s : State} {L : List Cond} (h1 : ∀ w ∈ L.filter vx_no, w.before args s = true)
    (hU : (Cond.isRef (.static Bundle.tN "UNASSIGNED_STACK" Bundle.steD)).before args s = true) (hN : (Cond.isRef (.static Bundle.tN "SUPPRESSED_SENTINEL" Bundle.listD)).before args s = true)
    (lU : (Cond.laysStatic Bundle.tN "UNASSIGNED_STACK" Bundle.steD).before args s = true) (lN : (Cond.laysStatic Bundle.tN "SUPPRESSED_SENTINEL" Bundle.listD).before args s = true) : ∀ w ∈ L, w.before args s = true := by
  intro w hw
  by_cases e1 : w = .isRef (.static Bundle.tN "UNASSIGNED_STACK" Bundle.steD)
  · rw [e1]; exact hU
  · by_cases e2 : w = .isRef (.static Bundle.tN "SUPPRESSED_SENTINEL" Bundle.listD)
    · rw [e2]; exact hN
    · by_cases e3 : w = .laysStatic Bundle.tN "UNASSIGNED_STACK" Bundle.steD
      · rw [e3]; exact lU
      · by_cases e4 : w = .laysStatic Bundle.tN "SUPPRESSED_SENTINEL" Bundle.listD
        · rw [e4]; exact lN
        · exact h1 w (List.mem_filter.mpr ⟨hw, by unfold vx_no; rw [decide_eq_true e1, decide_eq_true e2, decide_eq_true e3, decide_eq_true e4]; rfl⟩)
/-- where a static field lies, its class's statics cell in H -/
def vx_L (C n d : String) (A : Nat → Prop) (U : State) (H : Heap) : Prop := ∃ (c : ClassId) (k : Class) (i : Nat) (f : Field) (a : Nat) (cell : Cell), U.vm.findClass C = some c ∧ U.fieldFound? C n d = some (c, k, i, f) ∧ f.isStatic = true ∧ k.statics = some a ∧ H[a]? = some cell ∧ cell.vm.isStatics = true ∧ cell.cls = c ∧ f.slot < cell.slots.size ∧ k.staticTypes[f.slot]? = some f.type ∧ ¬ A a
theorem vx_L.moved {C n d : String} {A : Nat → Prop} {u U : State} {H : Heap} (hvm : u.vm.Alike U.vm) (h : vx_L C n d A u H) : vx_L C n d A U H := by
  obtain ⟨c, k, i, f, a, cell, h1, h2, h3, h4, h5, h6, h7, h8, h9, h10⟩ := h
  obtain ⟨k', hi', he⟩ := State.fieldFound?_setVm hvm h2
  exact ⟨c, k', i, f, a, cell, by rw [hvm.findClass]; exact h1, hi', h3, by rw [he]; exact h4, h5, h6, h7, h8, by rw [he]; exact h9, h10⟩
theorem vx_L.kept {C n d : String} {A : Nat → Prop} {U : State} {H H1 : Heap} (h : vx_L C n d A U H) (hq : ∀ a : Nat, a < H.size → ¬ A a → H1[a]? = H[a]?) : vx_L C n d A U H1 := by
  obtain ⟨c, k, i, f, a, cell, h1, h2, h3, h4, h5, h6, h7, h8, h9, h10⟩ := h
  exact ⟨c, k, i, f, a, cell, h1, h2, h3, h4, by rw [hq a (Array.getElem?_eq_some_iff.mp h5).1 h10]; exact h5, h6, h7, h8, h9, h10⟩
theorem vx_L.narrow {C n d : String} {A B : Nat → Prop} {U : State} {H : Heap} (h : vx_L C n d A U H) (hAB : ∀ q, B q → A q) : vx_L C n d B U H := by
  obtain ⟨c, k, i, f, a, cell, h1, h2, h3, h4, h5, h6, h7, h8, h9, h10⟩ := h
  exact ⟨c, k, i, f, a, cell, h1, h2, h3, h4, h5, h6, h7, h8, h9, fun z => h10 (hAB _ z)⟩
theorem vx_L.word {C n d : String} {A : Nat → Prop} {s : State} {args : Array Value} (h : vx_L C n d A s s.heap) : (Cond.laysStatic C n d).before args s = true := by
  obtain ⟨c, k, i, f, a, cell, h1, h2, h3, h4, h5, h6, h7, h8, h9, -⟩ := h
  show (Cond.laysStatic C n d).holds args s none s [] = true
  exact Cond.laysStatic_of h1 h2 h3 h4 h5 h6 h7 h8 h9
/-- .. and what it holds: null or some reference -/
def vx_Zq (C n d : String) (A : Nat → Prop) (U : State) (H : Heap) : Prop := va_Zq C n d A U H ∧ vx_L C n d A U H
theorem vx_Zq.moved {C n d : String} {A : Nat → Prop} {u U : State} {H : Heap} (hvm : u.vm.Alike U.vm) (h : vx_Zq C n d A u H) : vx_Zq C n d A U H := ⟨va_Zq.moved hvm h.1, vx_L.moved hvm h.2⟩
theorem vx_Zq.kept {C n d : String} {A : Nat → Prop} {U : State} {H H1 : Heap} (h : vx_Zq C n d A U H) (hq : ∀ a : Nat, a < H.size → ¬ A a → H1[a]? = H[a]?) : vx_Zq C n d A U H1 := ⟨va_Zq.kept h.1 hq, vx_L.kept h.2 hq⟩
theorem vx_Zq.narrow {C n d : String} {A B : Nat → Prop} {U : State} {H : Heap} (h : vx_Zq C n d A U H) (hAB : ∀ q, B q → A q) : vx_Zq C n d B U H := ⟨va_Zq.narrow h.1 hAB, vx_L.narrow h.2 hAB⟩
theorem vx_Zqof {args : Array Value} {s : State} {C n d : String} {A : Nat → Prop} (hl : (Cond.laysStatic C n d).before args s = true) (hini : (Cond.initialized C).before args s = true) (h : (Cond.isRef (.static C n d)).before args s = true) (hA : ∀ a : Nat, a < s.heap.size → ¬ A a) : vx_Zq C n d A s s.heap := by
  refine ⟨va_Zqof hl hini h hA, ?_⟩
  obtain ⟨c, k, i, f, a, cell, h1, h2, h3, h4, h5, h6, h7, h8, h9⟩ := Cond.laysStatic_spec hl
  exact ⟨c, k, i, f, a, cell, h1, h2, h3, h4, h5, h6, h7, h8, h9, hA a (Array.getElem?_eq_some_iff.mp h5).1⟩
theorem vx_isRef {C n d : String} {v : Value} {A : Nat → Prop} {s : State} {args : Array Value} (h : va_Z C n d v A s s.heap) (hv : v.isRef = true) : (Cond.isRef (.static C n d)).before args s = true := by
  obtain ⟨cf, kf, fi, f, a, cell, h1, h2, h3, h4, h5, h6, h7, -⟩ := h
  have he : (Term.static C n d).eval args s none [] s = some v := by
    simp [Term.eval, State.fieldNamed?, h1, h2, h4, h5, h6, h7]
  simp only [Cond.before, Cond.holds, Cond.value, he]
  cases v <;> simp_all [Value.isRef]
theorem vx_isRefq {C n d : String} {A : Nat → Prop} {s : State} {args : Array Value} (h : va_Zq C n d A s s.heap) : (Cond.isRef (.static C n d)).before args s = true := by
  rcases h with h | ⟨t, h⟩
  · exact vx_isRef h rfl
  · exact vx_isRef h rfl
/-- the same frame, seen from here: as if the method were called anew in this heap -/
theorem vx_rebase {T : State} (X : Stand p l e R s m args below meth c T locs cells slots) {R' : Room} (hf : R'.frames ≤ R.frames) (hl : R'.locals ≤ R.locals) (hc : cells + R'.cells ≤ R.cells) (hs : slots + R'.slots ≤ R.slots) :
    Stand p l e R' ((T.setVm s.vm).setFrames (.invoking m args :: below)) m args below meth c T [] 0 0 := by
  have htop : (T.setVm s.vm).topJava?.isSome := X.here.top
  have hF : ((T.setVm s.vm).setFrames (.invoking m args :: below)).frames = .invoking m args :: below := State.frames_setFrames _ (State.cur_lt_of_top htop)
  obtain ⟨g₀, hg0⟩ := Option.isSome_iff_exists.mp htop
  obtain ⟨r, hr⟩ := State.topJava?_eq_some.mp hg0
  have hl9 : e.platform.stackLimits (T.setVm s.vm).me = e.platform.stackLimits s.me := X.limits
  have hb9 : (T.setVm s.vm).me.stackBytes = s.me.stackBytes := X.bytes
  refine ⟨X.admits, X.cas, X.clock, hF, ?_, X.hears, X.method, X.code, X.here, X.tail, X.warmed, ?_, ?_, ?_⟩
  · have h := X.room
    have hU : ((T.setVm s.vm).setFrames (.invoking m args :: below)).localsInUse = s.localsInUse := by
      rw [State.localsInUse_invoking hF (meth := meth) (c := c) X.method X.code, State.localsInUse_invoking X.frames X.method X.code]
    simp only [State.hasRoom, Bool.and_eq_true, decide_eq_true_eq] at h ⊢
    obtain ⟨⟨⟨⟨h1, h2, h3, h4, h5, h6⟩, h7⟩, h8⟩, h9⟩ := h
    rw [X.frames, List.length_cons] at h2 h3
    have q1 := X.heapSize
    have q2 := X.used
    simp only [hF, hU, List.length_cons, State.stackLimits_setFrames, State.stackBytes_setFrames, hl9, hb9]
    refine ⟨⟨⟨⟨by omega, by omega, by omega, by omega, by omega, h6⟩, ?_⟩, ?_⟩, X.book⟩
    · show T.heap.size + R'.cells ≤ e.platform.maxCells
      omega
    · show T.slotsUsed + R'.slots ≤ e.platform.maxSlots
      omega
  · rw [State.stackLimits_setFrames]; rfl
  · rw [State.stackBytes_setFrames]; rfl
  · refine ⟨?_, Nat.le_refl _, Nat.le_refl _, ?_, ?_, fun a c9 h9 => ⟨c9, h9, rfl, rfl, fun _ _ => rfl⟩⟩
    · obtain ⟨t, ht, -⟩ := State.frames_cons hr
      show T.setVm s.vm = { ((T.setVm s.vm).setFrames (.invoking m args :: below)).setFrames (T.setVm s.vm).frames with heap := T.heap, slotsUsed := T.slotsUsed }
      rw [State.setFrames_setFrames, State.setFrames_self ht]
      rfl
    · show T.slotsUsed = T.slotsUsed + ((T.heap.toList.drop T.heap.size).map (·.slots.size)).sum
      rw [List.drop_eq_nil_of_le (Nat.le_of_eq Array.length_toList)]
      rfl
    · show ((T.heap.toList.drop T.heap.size).map (·.slots.size)).sum ≤ 0
      rw [List.drop_eq_nil_of_le (Nat.le_of_eq Array.length_toList)]
      exact Nat.le_refl _
/-- 'throw new E()': new; dup; invokespecial; athrow -/
theorem vx_throw0 {cc : ByteArray} {pc : Nat} (hexec : p.tables.exec = Jvm.exec) (hb : c.code = cc) (hl : l.stackTraces = false) {own cls : String} {names : List String} {ik ic mc ms : Nat} {A : Nat → Prop}
    (hown : s.vm.findClass own = some m.cls) (hcls : Bundle.fit cls = true) (hnames : ∀ n ∈ names, Bundle.fit n = true)
    (hk : (Cond.classLink own ik cls).before args s = true) (hini : (Cond.initialized cls).before args s = true) (hat : ∀ w ∈ vx_at0 own ic cls names, w.before args s = true)
    (hgood : ∀ w ∈ Cond.classLink own ik cls :: Cond.initialized cls :: vx_at0 own ic cls names, vx_ot w = true)
    (hU : vx_Zq Bundle.tN "UNASSIGNED_STACK" Bundle.steD A s s.heap) (hN : vx_Zq Bundle.tN "SUPPRESSED_SENTINEL" Bundle.listD A s s.heap) (hS : va_S A s.heap H locs) (hsize : ls.size = c.maxLocals)
    (d0 : decode cc pc = .ok (.new ik, 3)) (d3 : decode cc (pc + 3) = .ok (.dup, 1)) (d4 : decode cc (pc + 4) = .ok (.invokespecial ic, 3)) (d7 : decode cc (pc + 7) = .ok (.athrow, 1))
    (hout : ∀ x ∈ c.exceptionTable.toList, covers x (pc + 7) = false)
    (hRframes : names.length + 3 < R.frames) (hRlocals : (rest.map fun v => v.category).sum + (13 * (names.length + 1) + 42) ≤ R.locals) (hRcells : cells + 1 ≤ R.cells) (hRslots : slots + 6 ≤ R.slots) (hlocks : meth.locks = false)
    (hx : ∀ t : State, s.vm.Alike t.vm → H.size ≤ t.heap.size → (∀ q : Nat, q < H.size → t.heap[q]? = H[q]?) → XC cls s t)
    (hf : ∀ z ∈ locs, free z.base) (hc : cells + 1 ≤ mc) (hs : slots + 6 ≤ ms) :
    W p l e R s m args below meth c H locs cells slots (vx_MQ below Qc XC args s mc ms free) (F0 m pc ls rest) := by
  intro T hT X
  have htr : e.platform.stackTraces = false := (show e.platform.stackTraces = l.stackTraces by rw [X.admits.platform]).trans hl
  have Y := vx_rebase X (R' := { frames := R.frames, locals := R.locals, cells := 1, slots := 6 }) (Nat.le_refl _) (Nat.le_refl _) hRcells hRslots
  obtain ⟨s', hA⟩ : ∃ z, z = (T.setVm s.vm).setFrames (.invoking m args :: below) := ⟨_, rfl⟩
  rw [← hA] at Y
  have hvm : s'.vm = s.vm := by rw [hA]; rfl
  have hhp : s'.heap = H := by rw [hA]; exact hT
  have hW0 : s.WarmedH s'.vm := by rw [hvm]; exact State.WarmedH.refl s
  have hat' : ∀ w ∈ vx_at0 own ic cls names, w.before args s' = true := fun w hw => vx_ot_at hW0 hvm.symm (hgood w (List.mem_cons_of_mem _ (List.mem_cons_of_mem _ hw))) (hat w hw)
  have hk' : (Cond.classLink own ik cls).before args s' = true := vx_ot_at hW0 hvm.symm (hgood _ List.mem_cons_self) hk
  have hini' : (Cond.initialized cls).before args s' = true := vx_ot_at hW0 hvm.symm (hgood _ (List.mem_cons_of_mem _ List.mem_cons_self)) hini
  have hU' : vx_Zq Bundle.tN "UNASSIGNED_STACK" Bundle.steD A s' s'.heap := by rw [hhp]; exact vx_Zq.moved hW0.alike (hU.kept hS.2.1)
  have hN' : vx_Zq Bundle.tN "SUPPRESSED_SENTINEL" Bundle.listD A s' s'.heap := by rw [hhp]; exact vx_Zq.moved hW0.alike (hN.kept hS.2.1)
  have h : ∀ w ∈ Bundle.ownAtoms0 own ic cls names, w.before args s' = true := vx_own hat' (vx_isRefq hU'.1) (vx_isRefq hN'.1) hU'.2.word hN'.2.word
  have hown' : s'.vm.findClass own = some m.cls := by rw [hvm]; exact hown
  have hins : (Cond.instantiable cls 6).before args s' = true := h _ (by simp [Bundle.ownAtoms0])
  obtain ⟨vm₁, cX, kX, hfX, hkX, -, -, X₁, st1⟩ := Y.newCold hexec (own := own) (C := cls) (index := ik) (n := 6) hown' hk' hins hini'
    (g := F0 m pc ls rest) rfl (by rw [hb]; exact d0) (Nat.le_refl _) (Nat.le_refl _)
  generalize hT1 : (T.setVm vm₁).pushCell { cls := cX, slots := kX.instanceTypes.map defaultValue, vm := .none } = T1 at X₁ st1
  have hcat : (Value.ref T.heap.size).category = 1 := rfl
  have hcellA : T1.heap[T.heap.size]? = some (freshCell cX kX) := by rw [← hT1]; exact State.heap_pushCell_size _ _
  have d3' : decode c.code (pc + 3) = .ok (.dup, 1) := by rw [hb]; exact d3
  obtain ⟨U, hsteps, hrun, hend, hW, hsame, ce, hce, hO⟩ := X₁.ctorThrow0 hexec htr (own := own) (cls := cls) (names := names) (ic := ic) hown' hcls hnames h (fun x hx => nomatch hx) hfX hkX hcellA (by rw [hhp, hT]; exact Nat.le_refl _)
    (g := { method := m, pc := pc + 4, locals := ls, stack := .ref T.heap.size :: .ref T.heap.size :: rest, locked := none }) rfl hsize rfl rfl (rest := rest) rfl
    (by rw [hb]; exact d4) (by rw [hb]; exact d7) hout hRframes (by simp only [List.map_cons, List.sum_cons, hcat]; omega) hlocks
  obtain ⟨f1, f2⟩ := vx_frame hsame
  rw [hhp] at f1 f2
  have hWs : s.WarmedH U.vm := State.WarmedH.trans hW0 hW
  have hcl : s.vm.findClass cls = some ce.cls := by
    have h9 := hO.cls
    rw [hvm] at h9
    exact h9
  have hall : s.sameButNew ({ U with vm := s.vm } : State) locs mc ms := by
    subst hA
    obtain ⟨e1, e2⟩ := hsame
    rw [State.setFrames_setFrames] at e1
    have h2 : (T.setVm s.vm).sameButNew ({ U with vm := s.vm } : State) [] (0 + 1) (0 + 6) := ⟨e1, e2⟩
    have h3 := X.same.trans h2
    rw [List.append_nil] at h3
    exact h3.mono hc hs
  refine ⟨U, ?_, .threw T.heap.size, hrun, hend, Or.inr ⟨T.heap.size, rfl, cls, ce, locs, hx U hWs.alike f1 (fun q hq => f2 q hq (fun z hz => nomatch hz)), hce, hO.vm, hcl, hWs, hall, hf⟩⟩
  refine st1 _ ?_
  show Steps p.tables e below (T1.setTop { method := m, pc := pc + 3, locals := ls, stack := .ref T.heap.size :: rest, locked := none }) _
  jvm_step X₁.here [X₁.here.top, hexec, d3', Value.category]
  exact hsteps
/-- 'throw new E("text")': new; dup; ldc; invokespecial; athrow -/
theorem vx_throwS {cc : ByteArray} {pc : Nat} (hexec : p.tables.exec = Jvm.exec) (hb : c.code = cc) (hl : l.stackTraces = false) {own cls text : String} {names : List String} {ik is ic mc ms sa : Nat} {A : Nat → Prop}
    (hown : s.vm.findClass own = some m.cls) (hcls : Bundle.fit cls = true) (hnames : ∀ n ∈ names, Bundle.fit n = true)
    (hk : (Cond.classLink own ik cls).before args s = true) (hini : (Cond.initialized cls).before args s = true) (hstr : vk_R own is text sa s) (hat : ∀ w ∈ vx_atS own ic cls names, w.before args s = true)
    (hgood : ∀ w ∈ Cond.classLink own ik cls :: Cond.initialized cls :: vx_atS own ic cls names, vx_ot w = true)
    (hU : vx_Zq Bundle.tN "UNASSIGNED_STACK" Bundle.steD A s s.heap) (hN : vx_Zq Bundle.tN "SUPPRESSED_SENTINEL" Bundle.listD A s s.heap) (hS : va_S A s.heap H locs) (hsize : ls.size = c.maxLocals)
    (d0 : decode cc pc = .ok (.new ik, 3)) (d3 : decode cc (pc + 3) = .ok (.dup, 1)) (d4 : decode cc (pc + 4) = .ok (.ldc is, 2)) (d6 : decode cc (pc + 6) = .ok (.invokespecial ic, 3)) (d9 : decode cc (pc + 9) = .ok (.athrow, 1))
    (hout : ∀ x ∈ c.exceptionTable.toList, covers x (pc + 9) = false)
    (hRframes : names.length + 3 < R.frames) (hRlocals : (rest.map fun v => v.category).sum + (13 * (names.length + 1) + 43) ≤ R.locals) (hRcells : cells + 1 ≤ R.cells) (hRslots : slots + 6 ≤ R.slots) (hlocks : meth.locks = false)
    (hx : ∀ t : State, s.vm.Alike t.vm → H.size ≤ t.heap.size → (∀ q : Nat, q < H.size → t.heap[q]? = H[q]?) → XC cls s t)
    (hf : ∀ z ∈ locs, free z.base) (hc : cells + 1 ≤ mc) (hs : slots + 6 ≤ ms) :
    W p l e R s m args below meth c H locs cells slots (vx_MQ below Qc XC args s mc ms free) (F0 m pc ls rest) := by
  intro T hT X
  have htr : e.platform.stackTraces = false := (show e.platform.stackTraces = l.stackTraces by rw [X.admits.platform]).trans hl
  have Y := vx_rebase X (R' := { frames := R.frames, locals := R.locals, cells := 1, slots := 6 }) (Nat.le_refl _) (Nat.le_refl _) hRcells hRslots
  obtain ⟨s', hA⟩ : ∃ z, z = (T.setVm s.vm).setFrames (.invoking m args :: below) := ⟨_, rfl⟩
  rw [← hA] at Y
  have hvm : s'.vm = s.vm := by rw [hA]; rfl
  have hhp : s'.heap = H := by rw [hA]; exact hT
  have hW0 : s.WarmedH s'.vm := by rw [hvm]; exact State.WarmedH.refl s
  have hat' : ∀ w ∈ vx_atS own ic cls names, w.before args s' = true := fun w hw => vx_ot_at hW0 hvm.symm (hgood w (List.mem_cons_of_mem _ (List.mem_cons_of_mem _ hw))) (hat w hw)
  have hk' : (Cond.classLink own ik cls).before args s' = true := vx_ot_at hW0 hvm.symm (hgood _ List.mem_cons_self) hk
  have hini' : (Cond.initialized cls).before args s' = true := vx_ot_at hW0 hvm.symm (hgood _ (List.mem_cons_of_mem _ List.mem_cons_self)) hini
  have hU' : vx_Zq Bundle.tN "UNASSIGNED_STACK" Bundle.steD A s' s'.heap := by rw [hhp]; exact vx_Zq.moved hW0.alike (hU.kept hS.2.1)
  have hN' : vx_Zq Bundle.tN "SUPPRESSED_SENTINEL" Bundle.listD A s' s'.heap := by rw [hhp]; exact vx_Zq.moved hW0.alike (hN.kept hS.2.1)
  have h : ∀ w ∈ Bundle.ownAtoms own ic cls names, w.before args s' = true := vx_own hat' (vx_isRefq hU'.1) (vx_isRefq hN'.1) hU'.2.word hN'.2.word
  have hown' : s'.vm.findClass own = some m.cls := by rw [hvm]; exact hown
  have hins : (Cond.instantiable cls 6).before args s' = true := h _ (by simp [Bundle.ownAtoms])
  obtain ⟨vm₁, cX, kX, hfX, hkX, -, -, X₁, st1⟩ := Y.newCold hexec (own := own) (C := cls) (index := ik) (n := 6) hown' hk' hins hini'
    (g := F0 m pc ls rest) rfl (by rw [hb]; exact d0) (Nat.le_refl _) (Nat.le_refl _)
  generalize hT1 : (T.setVm vm₁).pushCell { cls := cX, slots := kX.instanceTypes.map defaultValue, vm := .none } = T1 at X₁ st1
  have hcat : (Value.ref T.heap.size).category = 1 := rfl
  have hcellA : T1.heap[T.heap.size]? = some (freshCell cX kX) := by rw [← hT1]; exact State.heap_pushCell_size _ _
  have d3' : decode c.code (pc + 3) = .ok (.dup, 1) := by rw [hb]; exact d3
  have d4' : decode c.code (pc + 4) = .ok (.ldc is, 2) := by rw [hb]; exact d4
  have hstr' : vk_R own is text sa s' := vk_R.warm hW0 hstr
  obtain ⟨U, hsteps, hrun, hend, hW, hsame, ce, hce, hO⟩ := X₁.ctorThrowS hexec htr (own := own) (cls := cls) (names := names) (ic := ic) hown' hcls hnames h (fun x hx => nomatch hx) hfX hkX hcellA (by rw [hhp, hT]; exact Nat.le_refl _) (msg := .ref sa) rfl
    (g := { method := m, pc := pc + 6, locals := ls, stack := .ref sa :: .ref T.heap.size :: .ref T.heap.size :: rest, locked := none }) rfl hsize rfl rfl (rest := rest) rfl
    (by rw [hb]; exact d6) (by rw [hb]; exact d9) hout hRframes (by simp only [List.map_cons, List.sum_cons, hcat]; omega) hlocks
  obtain ⟨f1, f2⟩ := vx_frame hsame
  rw [hhp] at f1 f2
  have hWs : s.WarmedH U.vm := State.WarmedH.trans hW0 hW
  have hcl : s.vm.findClass cls = some ce.cls := by
    have h9 := hO.cls
    rw [hvm] at h9
    exact h9
  have hall : s.sameButNew ({ U with vm := s.vm } : State) locs mc ms := by
    subst hA
    obtain ⟨e1, e2⟩ := hsame
    rw [State.setFrames_setFrames] at e1
    have h2 : (T.setVm s.vm).sameButNew ({ U with vm := s.vm } : State) [] (0 + 1) (0 + 6) := ⟨e1, e2⟩
    have h3 := X.same.trans h2
    rw [List.append_nil] at h3
    exact h3.mono hc hs
  refine ⟨U, ?_, .threw T.heap.size, hrun, hend, Or.inr ⟨T.heap.size, rfl, cls, ce, locs, hx U hWs.alike f1 (fun q hq => f2 q hq (fun z hz => nomatch hz)), hce, hO.vm, hcl, hWs, hall, hf⟩⟩
  refine st1 _ ?_
  show Steps p.tables e below (T1.setTop { method := m, pc := pc + 3, locals := ls, stack := .ref T.heap.size :: rest, locked := none }) _
  jvm_step X₁.here [X₁.here.top, hexec, d3', Value.category]
  exact X₁.ldcString hexec (own := own) (text := text) (index := is) (a := sa) hown' hstr'.1 hstr'.2
    (g := { method := m, pc := pc + 4, locals := ls, stack := .ref T.heap.size :: .ref T.heap.size :: rest, locked := none }) rfl d4' _ hsteps
/-- 'throw new E("text")', the text by a wide index -/
theorem vx_throwSW {cc : ByteArray} {pc : Nat} (hexec : p.tables.exec = Jvm.exec) (hb : c.code = cc) (hl : l.stackTraces = false) {own cls text : String} {names : List String} {ik is ic mc ms sa : Nat} {A : Nat → Prop}
    (hown : s.vm.findClass own = some m.cls) (hcls : Bundle.fit cls = true) (hnames : ∀ n ∈ names, Bundle.fit n = true)
    (hk : (Cond.classLink own ik cls).before args s = true) (hini : (Cond.initialized cls).before args s = true) (hstr : vk_R own is text sa s) (hat : ∀ w ∈ vx_atS own ic cls names, w.before args s = true)
    (hgood : ∀ w ∈ Cond.classLink own ik cls :: Cond.initialized cls :: vx_atS own ic cls names, vx_ot w = true)
    (hU : vx_Zq Bundle.tN "UNASSIGNED_STACK" Bundle.steD A s s.heap) (hN : vx_Zq Bundle.tN "SUPPRESSED_SENTINEL" Bundle.listD A s s.heap) (hS : va_S A s.heap H locs) (hsize : ls.size = c.maxLocals)
    (d0 : decode cc pc = .ok (.new ik, 3)) (d3 : decode cc (pc + 3) = .ok (.dup, 1)) (d4 : decode cc (pc + 4) = .ok (.ldc_w is, 3)) (d7 : decode cc (pc + 7) = .ok (.invokespecial ic, 3)) (d10 : decode cc (pc + 10) = .ok (.athrow, 1))
    (hout : ∀ x ∈ c.exceptionTable.toList, covers x (pc + 10) = false)
    (hRframes : names.length + 3 < R.frames) (hRlocals : (rest.map fun v => v.category).sum + (13 * (names.length + 1) + 43) ≤ R.locals) (hRcells : cells + 1 ≤ R.cells) (hRslots : slots + 6 ≤ R.slots) (hlocks : meth.locks = false)
    (hx : ∀ t : State, s.vm.Alike t.vm → H.size ≤ t.heap.size → (∀ q : Nat, q < H.size → t.heap[q]? = H[q]?) → XC cls s t)
    (hf : ∀ z ∈ locs, free z.base) (hc : cells + 1 ≤ mc) (hs : slots + 6 ≤ ms) :
    W p l e R s m args below meth c H locs cells slots (vx_MQ below Qc XC args s mc ms free) (F0 m pc ls rest) := by
  intro T hT X
  have htr : e.platform.stackTraces = false := (show e.platform.stackTraces = l.stackTraces by rw [X.admits.platform]).trans hl
  have Y := vx_rebase X (R' := { frames := R.frames, locals := R.locals, cells := 1, slots := 6 }) (Nat.le_refl _) (Nat.le_refl _) hRcells hRslots
  obtain ⟨s', hA⟩ : ∃ z, z = (T.setVm s.vm).setFrames (.invoking m args :: below) := ⟨_, rfl⟩
  rw [← hA] at Y
  have hvm : s'.vm = s.vm := by rw [hA]; rfl
  have hhp : s'.heap = H := by rw [hA]; exact hT
  have hW0 : s.WarmedH s'.vm := by rw [hvm]; exact State.WarmedH.refl s
  have hat' : ∀ w ∈ vx_atS own ic cls names, w.before args s' = true := fun w hw => vx_ot_at hW0 hvm.symm (hgood w (List.mem_cons_of_mem _ (List.mem_cons_of_mem _ hw))) (hat w hw)
  have hk' : (Cond.classLink own ik cls).before args s' = true := vx_ot_at hW0 hvm.symm (hgood _ List.mem_cons_self) hk
  have hini' : (Cond.initialized cls).before args s' = true := vx_ot_at hW0 hvm.symm (hgood _ (List.mem_cons_of_mem _ List.mem_cons_self)) hini
  have hU' : vx_Zq Bundle.tN "UNASSIGNED_STACK" Bundle.steD A s' s'.heap := by rw [hhp]; exact vx_Zq.moved hW0.alike (hU.kept hS.2.1)
  have hN' : vx_Zq Bundle.tN "SUPPRESSED_SENTINEL" Bundle.listD A s' s'.heap := by rw [hhp]; exact vx_Zq.moved hW0.alike (hN.kept hS.2.1)
  have h : ∀ w ∈ Bundle.ownAtoms own ic cls names, w.before args s' = true := vx_own hat' (vx_isRefq hU'.1) (vx_isRefq hN'.1) hU'.2.word hN'.2.word
  have hown' : s'.vm.findClass own = some m.cls := by rw [hvm]; exact hown
  have hins : (Cond.instantiable cls 6).before args s' = true := h _ (by simp [Bundle.ownAtoms])
  obtain ⟨vm₁, cX, kX, hfX, hkX, -, -, X₁, st1⟩ := Y.newCold hexec (own := own) (C := cls) (index := ik) (n := 6) hown' hk' hins hini'
    (g := F0 m pc ls rest) rfl (by rw [hb]; exact d0) (Nat.le_refl _) (Nat.le_refl _)
  generalize hT1 : (T.setVm vm₁).pushCell { cls := cX, slots := kX.instanceTypes.map defaultValue, vm := .none } = T1 at X₁ st1
  have hcat : (Value.ref T.heap.size).category = 1 := rfl
  have hcellA : T1.heap[T.heap.size]? = some (freshCell cX kX) := by rw [← hT1]; exact State.heap_pushCell_size _ _
  have d3' : decode c.code (pc + 3) = .ok (.dup, 1) := by rw [hb]; exact d3
  have d4' : decode c.code (pc + 4) = .ok (.ldc_w is, 3) := by rw [hb]; exact d4
  have hstr' : vk_R own is text sa s' := vk_R.warm hW0 hstr
  obtain ⟨U, hsteps, hrun, hend, hW, hsame, ce, hce, hO⟩ := X₁.ctorThrowS hexec htr (own := own) (cls := cls) (names := names) (ic := ic) hown' hcls hnames h (fun x hx => nomatch hx) hfX hkX hcellA (by rw [hhp, hT]; exact Nat.le_refl _) (msg := .ref sa) rfl
    (g := { method := m, pc := pc + 7, locals := ls, stack := .ref sa :: .ref T.heap.size :: .ref T.heap.size :: rest, locked := none }) rfl hsize rfl rfl (rest := rest) rfl
    (by rw [hb]; exact d7) (by rw [hb]; exact d10) hout hRframes (by simp only [List.map_cons, List.sum_cons, hcat]; omega) hlocks
  obtain ⟨f1, f2⟩ := vx_frame hsame
  rw [hhp] at f1 f2
  have hWs : s.WarmedH U.vm := State.WarmedH.trans hW0 hW
  have hcl : s.vm.findClass cls = some ce.cls := by
    have h9 := hO.cls
    rw [hvm] at h9
    exact h9
  have hall : s.sameButNew ({ U with vm := s.vm } : State) locs mc ms := by
    subst hA
    obtain ⟨e1, e2⟩ := hsame
    rw [State.setFrames_setFrames] at e1
    have h2 : (T.setVm s.vm).sameButNew ({ U with vm := s.vm } : State) [] (0 + 1) (0 + 6) := ⟨e1, e2⟩
    have h3 := X.same.trans h2
    rw [List.append_nil] at h3
    exact h3.mono hc hs
  refine ⟨U, ?_, .threw T.heap.size, hrun, hend, Or.inr ⟨T.heap.size, rfl, cls, ce, locs, hx U hWs.alike f1 (fun q hq => f2 q hq (fun z hz => nomatch hz)), hce, hO.vm, hcl, hWs, hall, hf⟩⟩
  refine st1 _ ?_
  show Steps p.tables e below (T1.setTop { method := m, pc := pc + 3, locals := ls, stack := .ref T.heap.size :: rest, locked := none }) _
  jvm_step X₁.here [X₁.here.top, hexec, d3', Value.category]
  exact X₁.ldcStringW hexec (own := own) (text := text) (index := is) (a := sa) hown' hstr'.1 hstr'.2
    (g := { method := m, pc := pc + 4, locals := ls, stack := .ref T.heap.size :: .ref T.heap.size :: rest, locked := none }) rfl d4' _ hsteps
end Ends
section Bodies
variable {l : Launch}
theorem vx_ofW {y : MethodName} {ws ws' : List Cond} {rm : Room} {Pc : Array Value → State → Prop} {Qc : Array Value → State → Outcome → State → Prop} {XC : String → State → State → Prop} {mc ms : Nat} {free : Addr → Prop} {cc : ByteArray} {maxL : Nat} {ret : Option FieldType}
    (hy : plainName y.cls = true) (hw : ws = Cond.code y cc maxL ret :: ws')
    (body : ∀ p e s m args below meth c s₁, BodyLoose p l y (headSpec ws rm) cc maxL ret e s m args below meth c s₁ → c.maxLocals = maxL → (∀ x ∈ c.exceptionTable.toList, False) → Pc args s →
      W p l e (headSpec ws rm).room s m args below meth c s.heap [] 0 0 (vx_MQ below Qc XC args s mc ms free) (entryFrame m args maxL)) : vx_Met l y ws rm Pc Qc XC mc ms free := by
  refine MetFree.of_bodyS (code := cc) (maxLocals := maxL) (ret := ret) hy ?_ ?_
  · intro args s m h hn
    obtain ⟨meth, c, h1, h2, h3, h4, h5, h6, -, -⟩ := Cond.code_spec hn (atoms_spec (ws := ws) h _ (by rw [hw]; exact List.mem_cons_self))
    exact ⟨meth, c, h1, h2, h3, h4, h5, h6⟩
  · intro p e s m args below meth c s₁ B hml hP _
    have hh0 : s₁.heap = s.heap := by rw [B.state]; rfl
    have ht : ∀ x ∈ c.exceptionTable.toList, False := by
      obtain ⟨meth9, c9, h1, h2, -, -, -, -, h7, -⟩ := Cond.code_spec B.named (atoms_spec (ws := ws) B.pre _ (by rw [hw]; exact List.mem_cons_self))
      cases Option.some.inj (h1.symm.trans B.method)
      cases Option.some.inj (h2.symm.trans (Stand.of_body B).code)
      intro x hx
      rw [Array.isEmpty_iff.mp h7] at hx
      cases hx
    obtain ⟨t, a1, o, b1, b2, b3⟩ := body p e s m args below meth c s₁ B hml ht hP s₁ hh0 (Stand.of_body B)
    exact ⟨t, o, a1, b1, b2, b3⟩
/-- the table of a body with handlers -/
theorem vx_table {p : Program} {x y : MethodName} {S : Spec} {cc bytes : ByteArray} {maxL maxL' : Nat} {ret ret' : Option FieldType} {e : Env} {s s₁ : State} {m : MethodId} {args : Array Value} {below : List Frame} {meth : Method} {c : Code} {hh : List (Nat × Nat × Nat × Nat)}
    (B : BodyLoose p l y S cc maxL ret e s m args below meth c s₁) (h : (Cond.codeWith y bytes maxL' ret' hh).before args s = true) : c.exceptionTable.toList = tableOf hh := by
  obtain ⟨m9, meth9, c9, hn9, h1, h2, -, -, h6, -⟩ := Cond.codeWith_spec h
  cases Option.some.inj (hn9.symm.trans B.named)
  cases Option.some.inj (h1.symm.trans B.method)
  cases Option.some.inj (h2.symm.trans (Stand.of_body B).code)
  rw [← h6, table_eq]
end Bodies
end VXA
/-! ===== END ===== -/
/-! ===== BEGIN a static call of a method with an exception table ===== -/
section VXS
variable {p : Program} {l : Launch} {e : Env} {R : Room} {s : State} {m : MethodId} {args : Array Value} {below : List Frame} {meth : Method} {c : Code} {T : State} {H : Heap} {locs : List Loc} {cells slots : Nat}
abbrev vx_CSW (R : Room) (s : State) (args : Array Value) (own : String) (index : Nat) (y : MethodName) (bytes : ByteArray) (maxL : Nat) (ret : Option FieldType) (hh : List (Nat × Nat × Nat × Nat)) (ws : List Cond) (rm : Room) (mc ms n : Nat) : Prop :=
  (rm.cells = mc ∧ rm.slots = ms ∧ rm.frames + 1 ≤ R.frames ∧ 8 + (maxL + 11) + rm.locals ≤ R.locals ∧ (∀ w ∈ ws, ∀ (a' : Array Value) (U : State), s.WarmedH U.vm → w.before a' U = true) ∧ Cond.codeWith y bytes maxL ret hh ∈ ws) ∧
  (Cond.codeWith y bytes maxL ret hh).before args s = true ∧ (Cond.initialized y.cls).before args s = true ∧ (y.cls ≠ "java/lang/invoke/MethodHandle" ∧ y.cls ≠ "java/lang/invoke/VarHandle") ∧
  (∀ sig, parseMethodDescriptor y.desc = some sig → n = sig.parameters.length) ∧ (Cond.methodLink own index y).before args s = true ∧ (Cond.static y).before args s = true
theorem vx_cwSW {own : String} {index maxL mc ms : Nat} {y : MethodName} {bytes : ByteArray} {ret : Option FieldType} {hh : List (Nat × Nat × Nat × Nat)} {Ts ws ws' : List Cond} {rm : Room} (n : Nat) (ht : ∀ w ∈ Ts, w.before args s = true) (hT : GoodIn Ts (va_wsS own index y ws)) (hw : ws = Cond.codeWith y bytes maxL ret hh :: ws') (hrc : rm.cells = mc) (hrs : rm.slots = ms)
    (hd : y.cls ≠ "java/lang/invoke/MethodHandle" ∧ y.cls ≠ "java/lang/invoke/VarHandle" ∧ (parseMethodDescriptor y.desc).map (fun d => d.parameters.length) = some n) (hR : rm.frames + 1 ≤ R.frames ∧ 8 + (maxL + 11) + rm.locals ≤ R.locals) :
    vx_CSW R s args own index y bytes maxL ret hh ws rm mc ms n := by
  have ok : ∀ w ∈ va_wsS own index y ws, w.before args s = true := fun w h => ht w (hT w h).1
  have hG : GoodIn Ts ws := fun w h => hT w (by unfold va_wsS; exact List.mem_append_right _ h)
  have hc : Cond.codeWith y bytes maxL ret hh ∈ ws := by rw [hw]; exact List.mem_cons_self
  refine ⟨⟨hrc, hrs, hR.1, hR.2, pay_in ht hG, hc⟩, ht _ (hG _ hc).1, ok _ (by simp [va_wsS]), ⟨hd.1, hd.2.1⟩, fun sig h => ?_, ok _ (by simp [va_wsS]), ok _ (by simp [va_wsS])⟩
  have h2 := hd.2.2
  rw [h] at h2
  exact (Option.some.inj h2).symm
theorem vx_callSW (X : Stand p l e R s m args below meth c T locs cells slots) (hexec : p.tables.exec = Jvm.exec) {own : String} {index : Nat} {y : MethodName} {bytes : ByteArray} {maxL : Nat} {ret : Option FieldType} {hh : List (Nat × Nat × Nat × Nat)}
    (hown : s.vm.findClass own = some m.cls) (hlink : (Cond.methodLink own index y).before args s = true) (hstat : (Cond.static y).before args s = true) (hinit : (Cond.initialized y.cls).before args s = true)
    (hcode : (Cond.codeWith y bytes maxL ret hh).before args s = true) (hy : y.cls ≠ "java/lang/invoke/MethodHandle" ∧ y.cls ≠ "java/lang/invoke/VarHandle")
    {W9 : Nat} {Pre : Pt → Array Value → Prop} {Post : Pt → Array Value → Option Value → Pt → Prop} (hK : Back l R p e below s args y 3 W9 Pre Post)
    {g : JFrame} (hg : g.method = m) (hsize : g.locals.size = c.maxLocals) {argsL rest : List Value} (hlen : ∀ sig, parseMethodDescriptor y.desc = some sig → argsL.length = sig.parameters.length)
    (hstack : g.stack = argsL.reverse ++ rest) (hW : 2 * g.monitorRoom + (rest.map fun v => v.category).sum ≤ W9) (hdg : decode c.code g.pc = .ok (.invokestatic index, 3))
    (hpre : ∀ vm₁, s.WarmedH vm₁ → Pre ⟨T.setVm vm₁, locs, cells, slots⟩ argsL.toArray) :
    ∃ (v : Option Value) (vm₁ : Vm) (B : Pt), s.WarmedH vm₁ ∧ Stand p l e R s m args below meth c B.U B.locs B.cells B.slots ∧ Post ⟨T.setVm vm₁, locs, cells, slots⟩ argsL.toArray v B ∧
      ∀ target, Steps p.tables e below (B.U.setTop { g with pc := g.pc + 3, stack := v.toList ++ rest }) target → Steps p.tables e below (T.setTop g) target := by
  obtain ⟨mk, methM, cM, hnamed, hmethM, -, -, -, -, -, -, hsigM⟩ := Cond.codeWith_spec hcode
  have hstatic : methM.isStatic = true := Cond.static_spec hnamed hmethM hstat
  obtain ⟨kP, hkP, -⟩ := className_of_methodNamed hnamed
  have hinitP : kP.init = .initialized := Cond.initialized_spec (findClass_of_methodNamed hnamed) hkP hinit
  obtain ⟨vm₁, X₁, hstep₁⟩ := X.invokestatic hexec hown hlink hnamed hmethM hstatic hkP hinitP hy (g := g) hg (argsL := argsL) (rest := rest) (hlen _ hsigM) hstack hdg
  obtain ⟨v, B, X', hpost, hsteps⟩ := hK m meth c ⟨T.setVm vm₁, locs, cells, slots⟩ { g with stack := rest } (.invokestatic index) mk argsL.toArray X₁ hg hsize hdg hW (X₁.named hnamed) (hpre vm₁ X₁.warmed)
  exact ⟨v, vm₁, B, X₁.warmed, X', hpost, fun target h => hstep₁ _ fun acts => by rw [doInvoke_state]; exact hsteps.trans h⟩
theorem vx_runSW {y : MethodName} {bytes cc : ByteArray} {maxL nL mc ms n index : Nat} {ret : Option FieldType} {hh : List (Nat × Nat × Nat × Nat)} {ws : List Cond} {rm : Room} {Pc : Array Value → State → Prop} {Qc : Array Value → State → Outcome → State → Prop} {free : Addr → Prop} {Ts : List Cond} {own : String} {As rest : List Value} {g : JFrame}
    (S : CallFix p m c cc nL s args Ts own) (hM : Met l y ws rm Pc Qc mc ms free) (cw : vx_CSW R s args own index y bytes maxL ret hh ws rm mc ms n) (hp : PreS s H Pc As)
    (hg : g.method = m) (hn : As.length = n) (hsize : g.locals.size = nL) (hstack : g.stack = As.reverse ++ rest) (hW : 2 * g.monitorRoom + (rest.map fun v => v.category).sum ≤ 8) (hdg : decode cc g.pc = .ok (.invokestatic index, 3)) (hf : cells + mc ≤ R.cells ∧ slots + ms ≤ R.slots) :
    va_Run p l e R s m args below meth c H locs cells slots mc ms g rest (Qc As.toArray) (free) := by
  obtain ⟨⟨hrc, hrs, hfr, hlo, hws, hcw⟩, hcode, hini, hy, hlen, hl, hstt⟩ := cw
  have hK : Back l R p e below s args y 3 8 (PreOf R mc ms Pc) (PostOf Qc mc ms free) := va_backW (hh := hh) (bytes := bytes) (maxL := maxL) (ret := ret) hM hp.1 hrc hrs hfr hlo hws hcw (fun a' U hW => word_at hW (Or.inl (by first | rfl | simp [Cond.onTables, Cond.keeps, Cond.steady])) hini)
  obtain ⟨hx, hb, hml, ho, -⟩ := S
  intro T hT X
  obtain ⟨v, vm₁, ⟨U', l2, c2, s2⟩, hW₁, X', ⟨g', mk, t, L, e1, e2, hq, h1, hL, h2, h3⟩, st⟩ := vx_callSW X hx (hh := hh) (bytes := bytes) (maxL := maxL) (ret := ret) ho hl hstt hini hcode hy hK hg (hsize.trans hml.symm) (argsL := As) (rest := rest) (fun sig h => hn.trans (hlen sig h)) hstack hW (by rw [hb]; exact hdg)
    (fun vm₁ hW₁ => ⟨hf.1, hf.2, hp.2 (T.setVm vm₁) hT hW₁⟩)
  dsimp only [Pt.U, Pt.locs, Pt.cells, Pt.slots] at X' e1 e2 h1 h2 h3 st
  subst h1; subst h2; subst h3
  exact ⟨v, (T.setVm vm₁).calling g' mk As.toArray, t, U', L, hT, X', hL, e1, e2, hq, st⟩
/-- not caught here, past rows that name other classes: it goes on to the caller -/
theorem vx_outP {p : Program} {l : Launch} {e : Env} {R : Room} {s : State} {m : MethodId} {args : Array Value} {below : List Frame} {meth : Method} {c : Code} {H : Heap} {locs : List Loc} {cells slots : Nat} {free : Addr → Prop} {ls : Array Slot} {rest : List Value} {Qc : Array Value → State → Outcome → State → Prop} {XC : String → State → State → Prop}
    {pc : Nat} {own E : String} {ce : Cell} {q : Addr} {mc ms : Nat} (hown : s.vm.findClass own = some m.cls) (hlocks : meth.locks = false)
    (hpass : ∀ z ∈ c.exceptionTable.toList, covers z pc = false ∨ (z.catchType ≠ 0 ∧ ∃ nm : String, (Cond.classLink own z.catchType nm).before args s = true ∧ va_Nc E nm s)) (hcell : H[q]? = some ce) (hv : ce.vm = .none) (hcl : s.vm.findClass E = some ce.cls)
    (hx : ∀ t : State, t.heap = H → s.vm.Alike t.vm → XC E s t) (hf : ∀ z ∈ locs, free z.base) (hc : cells ≤ mc) (hs : slots ≤ ms) :
    vx_W p l e R s m args below meth c H locs cells slots (vx_MQ below Qc XC args s mc ms free) (F0 m pc ls rest) q := by
  intro T hT X
  have hpl : e.platform.magicAccessors = ({} : Platform).magicAccessors := by rw [X.admits.platform]
  obtain ⟨vm', hW', X', st⟩ := X.outThrough hlocks q (g := F0 m pc ls rest) rfl rfl rfl (cell := ce) (by rw [hT]; exact hcell) (by rw [hv]; rfl)
    (by obtain ⟨k9, h9, -⟩ := Vm.findClass_spec hcl; exact ⟨k9, h9⟩) (fun z hz => by
      rcases hpass z hz with h | ⟨hz0, nm, hl1, hn1⟩
      · exact Or.inl h
      · obtain ⟨c6, hc6, hcl6⟩ := Cond.classLink_spec hown hl1 e.platform hpl
        obtain ⟨a8, b8, h1, h2, h3⟩ := hn1
        cases Option.some.inj (h1.symm.trans hcl)
        cases Option.some.inj (h2.symm.trans hc6)
        exact Or.inr ⟨hz0, _, hcl6, h3⟩)
  obtain ⟨g₀, hfr⟩ := X'.frames_eq
  have hcell9 : ((T.setVm vm').setFrames (.throwing q :: below)).heap[q]? = some ce := by
    show T.heap[q]? = some ce
    rw [hT]; exact hcell
  have hend : Ended ((T.setVm vm').setFrames (.throwing q :: below)) below (.threw q) := State.frames_setFrames _ (State.cur_lt_of_frames hfr)
  refine ⟨(T.setVm vm').setFrames (.throwing q :: below), ?_, .threw q, X'.here.running, hend, Or.inr ⟨q, rfl, E, ce, locs, hx _ hT (X'.ends _).1.alike, hcell9, hv, hcl, (X'.ends _).1, (X'.ends _).2.mono hc hs, hf⟩⟩
  rw [X.pushThrowing_eq]
  exact st
/-- a thing of a world lies in the heap -/
theorem vx_lt {D : va_G} {cl : List vw_C} {ws : va_W} {H1 : Heap} (h : va_P D cl ws H1) {k : Nat} {q : Nat × va_E} (hk : ws[k]? = some q) : q.1 < H1.size := (h k q hk).lt
end VXS
/-! ===== END ===== -/
/-! ===== BEGIN methods with a table of their own: called by a name, returning or throwing ===== -/
section VXH
/-! vx_backW, vx_callVX, vx_callSX, vx_callVW, vx_runVW, vx_runVX, vx_runSX, vx_ofWH follow the same proofs as their sisters above (Free/Laws.lean, Shelf42/LK1.lean); vx_outP calls Shelf42/NT130.lean (outThrough). -/
section
variable {l : Launch} {R : Room} {p : Program} {e : Env} {below : List Frame} {s : State} {sargs : Array Value} {y : MethodName} {len W9 : Nat}
theorem vx_backW {ws : List Cond} {rm : Room} {Pc : Array Value → State → Prop} {Qc : Array Value → State → Outcome → State → Prop} {XC : String → State → State → Prop} {mc ms : Nat} {free : Addr → Prop} {bytes : ByteArray} {maxL : Nat} {ret : Option FieldType} {hh : List (Nat × Nat × Nat × Nat)}
    (hM : vx_Met l y ws rm Pc Qc XC mc ms free) (hblind : FrameBlind Pc) (hrc : rm.cells = mc) (hrs : rm.slots = ms)
    (hframes : rm.frames + 1 ≤ R.frames) (hlocals : W9 + (maxL + 11) + rm.locals ≤ R.locals)
    (hws : ∀ w ∈ ws, ∀ a' U, s.WarmedH U.vm → w.before a' U = true) (hcode : Cond.codeWith y bytes maxL ret hh ∈ ws) (hinit : ∀ a' U, s.WarmedH U.vm → (Cond.initialized y.cls).before a' U = true) :
    vx_Back l R p e below s sargs y len W9 (PreOf R mc ms Pc) (PostOf Qc mc ms free) (vx_Post XC mc ms free) := by
  intro m meth c A g ig mk a X hg hsize hdg hW hn hp
  have h1 : (headSpec ws rm).pre.before a A.U = true := atoms_intro fun w hw => hws w hw _ _ X.warmed
  have h2 : (Cond.codeWith y bytes maxL ret hh).before a A.U = true := hws _ hcode _ _ X.warmed
  have h3 : (Cond.initialized y.cls).before a A.U = true := hinit _ _ X.warmed
  have h4 : A.cells + (headSpec ws rm).room.cells ≤ R.cells := by rw [show (headSpec ws rm).room.cells = mc from hrc]; exact hp.1
  have h5 : A.slots + (headSpec ws rm).room.slots ≤ R.slots := by rw [show (headSpec ws rm).room.slots = ms from hrs]; exact hp.2.1
  have hPc : Pc a (A.U.calling g mk a) := hblind _ _ _ _ hp.2.2
  obtain ⟨U, Ls, c0, s0⟩ := A
  dsimp only [Pt.U, Pt.locs, Pt.cells, Pt.slots] at h1 h2 h3 h4 h5 X hn hPc ⊢
  obtain ⟨m9, methY, cY, hn9, hmY, hcY, -, hlY, -⟩ := Cond.codeWith_spec h2
  cases Option.some.inj (hn9.symm.trans hn)
  obtain ⟨kY, hkY, -⟩ := className_of_methodNamed hn
  have hinitY : kY.init = .initialized := Cond.initialized_spec (findClass_of_methodNamed hn) hkY h3
  have h : At U g.method c below := by rw [hg]; exact X.here
  have hlocals9 : W9 + (maxL + 11) + (headSpec ws rm).room.locals ≤ R.locals := hlocals
  have happ : (headSpec ws rm).appliesLoose y e.platform (U.calling g mk a) = true :=
    Spec.appliesLoose_calling (g := g) h hdg hn hkY hinitY
      (X.room_calling (g := g) (R' := (headSpec ws rm).room) hsize hmY hcY hframes (by rw [hlY]; omega) h4 h5) h1
  obtain ⟨mid, hmid⟩ := h.above
  have hfr : (U.setTop g).frames = (.java g :: mid) ++ below := by rw [State.frames_setTop' g h.top, hmid]; rfl
  obtain ⟨o, s₂, hsteps, -, hend, hq⟩ := Steps.callFree hM p X.admits X.cas X.clock (acts := []) hfr happ hPc trivial
  have hq' : vx_Q Qc XC mc ms free a (U.calling g mk a) o s₂ := hq
  rw [State.frames_setTop' g h.top] at hend
  obtain ⟨g₀, hg0⟩ := Option.isSome_iff_exists.mp h.top
  obtain ⟨r, hr⟩ := State.topJava?_eq_some.mp hg0
  have hr' : (({ U with heap := s₂.heap, slotsUsed := s₂.slotsUsed } : State).setVm s₂.vm).frames = .java g₀ :: r := hr
  rcases hq' with ⟨hqc, L, hfe, hL⟩ | ⟨q, rfl, E, ce, L, hx, hce, hcv, hcl, hW₂, hsm, hL⟩
  · obtain ⟨⟨v, rfl⟩, hW₂, e2, q2, q3, q4, q5, q6⟩ := id hfe
    have e3 : s₂ = ({ (U.calling g mk a).setFrames s₂.frames with heap := s₂.heap, slotsUsed := s₂.slotsUsed } : State).setVm s₂.vm := by
      have : s₂ = ({ s₂ with vm := (U.calling g mk a).vm } : State).setVm s₂.vm := rfl
      rw [e2] at this
      exact this
    obtain ⟨c₂, i₂, len₂, hc₂, hd₂, hf₂⟩ := hend
    have hW' : U.WarmedH s₂.vm := hW₂
    have hcc : c₂ = c := by
      have h1 : s₂.code? g.method = U.code? g.method := by
        rw [State.code?_eq, State.code?_eq, hW'.alike.method?]
      exact Option.some.inj (hc₂.symm.trans (h1.trans h.code))
    subst hcc
    have hlen : len₂ = len := by rw [hdg] at hd₂; cases hd₂; rfl
    subst hlen
    have hs₂ : s₂ = (({ U with heap := s₂.heap, slotsUsed := s₂.slotsUsed } : State).setVm s₂.vm).setTop { g with pc := g.pc + len₂, stack := v.toList ++ g.stack } := by
      refine e3.trans ?_
      rw [hf₂, State.calling_eq h.top, State.setFrames_setFrames, State.setTop_of_frames _ hr', hr]
      rfl
    have hsame : U.sameButNew ({ U with heap := s₂.heap, slotsUsed := s₂.slotsUsed } : State) L mc ms := by
      refine ⟨?_, q2, q3, q4, q5, q6⟩
      obtain ⟨t, ht, -⟩ := State.frames_cons hr
      show ({ U with heap := s₂.heap, slotsUsed := s₂.slotsUsed } : State) = { U.setFrames U.frames with heap := s₂.heap, slotsUsed := s₂.slotsUsed }
      rw [State.setFrames_self ht]
    subst hg
    refine Or.inl ⟨v, ⟨(({ U with heap := s₂.heap, slotsUsed := s₂.slotsUsed } : State).setVm s₂.vm), Ls ++ L, c0 + mc, s0 + ms⟩,
      ⟨X.admits, X.cas, X.clock, X.frames, X.room, X.hears, X.method, X.code, (X.here.setHeapUsed s₂.heap s₂.slotsUsed).setVm hW'.alike, X.tail, State.WarmedH.trans X.warmed hW', X.limits, X.bytes, X.same.trans (hsame.setVm s.vm)⟩,
      ⟨g, mk, s₂, L, rfl, rfl, hqc, rfl, hL, rfl, rfl⟩, ?_⟩
    show Steps p.tables e below _ ((({ U with heap := s₂.heap, slotsUsed := s₂.slotsUsed } : State).setVm s₂.vm).setTop { g with pc := g.pc + len₂, stack := v.toList ++ g.stack })
    rw [← hs₂]
    exact hsteps
  · obtain ⟨e2, q2, q3, q4, q5, q6⟩ := id hsm
    have e3 : s₂ = ({ (U.calling g mk a).setFrames s₂.frames with heap := s₂.heap, slotsUsed := s₂.slotsUsed } : State).setVm s₂.vm := by
      have : s₂ = ({ s₂ with vm := (U.calling g mk a).vm } : State).setVm s₂.vm := rfl
      rw [e2] at this
      exact this
    have hf₂ : s₂.frames = .throwing q :: .java g :: U.frames.tail := hend
    have hW' : U.WarmedH s₂.vm := hW₂
    have hs₂ : s₂ = ((({ U with heap := s₂.heap, slotsUsed := s₂.slotsUsed } : State).setVm s₂.vm).setTop g).pushFrame (.throwing q) := by
      refine e3.trans ?_
      rw [hf₂, State.calling_eq h.top, State.setFrames_setFrames, State.pushFrame, State.frames_setTop _ hr', State.setTop_of_frames _ hr', State.setFrames_setFrames, hr]
      rfl
    have hsame : U.sameButNew ({ U with heap := s₂.heap, slotsUsed := s₂.slotsUsed } : State) L mc ms := by
      refine ⟨?_, q2, q3, q4, q5, q6⟩
      obtain ⟨t, ht, -⟩ := State.frames_cons hr
      show ({ U with heap := s₂.heap, slotsUsed := s₂.slotsUsed } : State) = { U.setFrames U.frames with heap := s₂.heap, slotsUsed := s₂.slotsUsed }
      rw [State.setFrames_self ht]
    subst hg
    refine Or.inr ⟨q, ⟨(({ U with heap := s₂.heap, slotsUsed := s₂.slotsUsed } : State).setVm s₂.vm), Ls ++ L, c0 + mc, s0 + ms⟩,
      ⟨X.admits, X.cas, X.clock, X.frames, X.room, X.hears, X.method, X.code, (X.here.setHeapUsed s₂.heap s₂.slotsUsed).setVm hW'.alike, X.tail, State.WarmedH.trans X.warmed hW', X.limits, X.bytes, X.same.trans (hsame.setVm s.vm)⟩,
      ⟨g, mk, s₂, L, E, ce, rfl, rfl, hx, hce, hcv, hcl, rfl, hL, rfl, rfl⟩, ?_⟩
    show Steps p.tables e below _ (((({ U with heap := s₂.heap, slotsUsed := s₂.slotsUsed } : State).setVm s₂.vm).setTop g).pushFrame (.throwing q))
    rw [← hs₂]
    exact hsteps
end
variable {p : Program} {l : Launch} {e : Env} {R : Room} {s : State} {m : MethodId} {args : Array Value} {below : List Frame} {meth : Method} {c : Code} {T : State} {H : Heap} {locs : List Loc} {cells slots : Nat}
theorem vx_callVX (X : Stand p l e R s m args below meth c T locs cells slots) (hexec : p.tables.exec = Jvm.exec) {own C : String} {index : Nat} {y : MethodName} {bytes : ByteArray} {maxL : Nat} {ret : Option FieldType} {hh : List (Nat × Nat × Nat × Nat)}
    (hown : s.vm.findClass own = some m.cls) (hlink : (Cond.methodLink own index y).before args s = true) (hinst : (Cond.instanceMethod y).before args s = true) (hsel : (Cond.selects C y y).before args s = true)
    (hcode : (Cond.codeWith y bytes maxL ret hh).before args s = true) (hy : y.cls ≠ "java/lang/invoke/MethodHandle" ∧ y.cls ≠ "java/lang/invoke/VarHandle")
    {W9 : Nat} {Pre : Pt → Array Value → Prop} {Post : Pt → Array Value → Option Value → Pt → Prop} {PostX : Pt → Array Value → Addr → Pt → Prop} (hK : vx_Back l R p e below s args y 3 W9 Pre Post PostX)
    {b : Addr} {cellB : Cell} (hcell : T.heap[b]? = some cellB) (hobj : cellB.vm.isStatics = false) (hcls : s.vm.findClass C = some cellB.cls)
    {g : JFrame} (hg : g.method = m) (hsize : g.locals.size = c.maxLocals) {argsL rest : List Value} (hlen : ∀ sig, parseMethodDescriptor y.desc = some sig → argsL.length = sig.parameters.length)
    (hstack : g.stack = argsL.reverse ++ .ref b :: rest) (hW : 2 * g.monitorRoom + (rest.map fun v => v.category).sum ≤ W9) (hdg : decode c.code g.pc = .ok (.invokevirtual index, 3))
    (hpre : ∀ vm₁, s.WarmedH vm₁ → Pre ⟨T.setVm vm₁, locs, cells, slots⟩ (Value.ref b :: argsL).toArray) :
    (∃ (v : Option Value) (vm₁ : Vm) (B : Pt), s.WarmedH vm₁ ∧ Stand p l e R s m args below meth c B.U B.locs B.cells B.slots ∧ Post ⟨T.setVm vm₁, locs, cells, slots⟩ (Value.ref b :: argsL).toArray v B ∧
      ∀ target, Steps p.tables e below (B.U.setTop { g with pc := g.pc + 3, stack := v.toList ++ rest }) target → Steps p.tables e below (T.setTop g) target) ∨
    (∃ (q : Addr) (vm₁ : Vm) (B : Pt), s.WarmedH vm₁ ∧ Stand p l e R s m args below meth c B.U B.locs B.cells B.slots ∧ PostX ⟨T.setVm vm₁, locs, cells, slots⟩ (Value.ref b :: argsL).toArray q B ∧
      Steps p.tables e below (T.setTop g) ((B.U.setTop { g with stack := rest }).pushFrame (.throwing q))) := by
  obtain ⟨mk, methM, hnamed, hmethM, hstM, habM⟩ := Cond.instanceMethod_spec hinst
  obtain ⟨m8, methM', cM, hn8, hmethM', -, -, -, -, -, -, hsigM⟩ := Cond.codeWith_spec hcode
  cases Option.some.inj (hn8.symm.trans hnamed)
  cases hmethM.symm.trans hmethM'
  obtain ⟨c2, r2, m2, q1, q2, q3, q4, kP, hkP, hkPi⟩ := Cond.selects_spec hsel
  cases hcls.symm.trans q1
  cases (State.methodFound?_of_named hnamed hy).symm.trans q2
  cases hnamed.symm.trans q3
  have hselP : selectMethod e.platform s.vm cellB.cls mk = .method mk := by rw [Launch.admits_selectMethod X.admits]; exact q4
  obtain ⟨vm₁, X₁, hstep₁⟩ := X.invokevirtual hexec hown hlink hnamed hmethM hstM hkP hkPi hy (a := b) (cell := cellB) hcell
    (fun z h => by rw [h] at hobj; cases hobj) hselP hmethM habM hkP hkPi (g := g) hg (argsL := argsL) (rest := rest) (hlen _ hsigM) hstack hdg
  rcases hK m meth c ⟨T.setVm vm₁, locs, cells, slots⟩ { g with stack := rest } (.invokevirtual index) mk (Value.ref b :: argsL).toArray X₁ hg hsize hdg hW (X₁.named hnamed) (hpre vm₁ X₁.warmed) with ⟨v, B, X', hpost, hsteps⟩ | ⟨q, B, X', hpost, hsteps⟩
  · exact Or.inl ⟨v, vm₁, B, X₁.warmed, X', hpost, fun target h => hstep₁ _ fun acts => by rw [doInvoke_state]; exact hsteps.trans h⟩
  · exact Or.inr ⟨q, vm₁, B, X₁.warmed, X', hpost, hstep₁ _ fun acts => by rw [doInvoke_state]; exact hsteps⟩
theorem vx_callSX (X : Stand p l e R s m args below meth c T locs cells slots) (hexec : p.tables.exec = Jvm.exec) {own : String} {index : Nat} {y : MethodName} {bytes : ByteArray} {maxL : Nat} {ret : Option FieldType} {hh : List (Nat × Nat × Nat × Nat)}
    (hown : s.vm.findClass own = some m.cls) (hlink : (Cond.methodLink own index y).before args s = true) (hstat : (Cond.static y).before args s = true) (hinit : (Cond.initialized y.cls).before args s = true)
    (hcode : (Cond.codeWith y bytes maxL ret hh).before args s = true) (hy : y.cls ≠ "java/lang/invoke/MethodHandle" ∧ y.cls ≠ "java/lang/invoke/VarHandle")
    {W9 : Nat} {Pre : Pt → Array Value → Prop} {Post : Pt → Array Value → Option Value → Pt → Prop} {PostX : Pt → Array Value → Addr → Pt → Prop} (hK : vx_Back l R p e below s args y 3 W9 Pre Post PostX)
    {g : JFrame} (hg : g.method = m) (hsize : g.locals.size = c.maxLocals) {argsL rest : List Value} (hlen : ∀ sig, parseMethodDescriptor y.desc = some sig → argsL.length = sig.parameters.length)
    (hstack : g.stack = argsL.reverse ++ rest) (hW : 2 * g.monitorRoom + (rest.map fun v => v.category).sum ≤ W9) (hdg : decode c.code g.pc = .ok (.invokestatic index, 3))
    (hpre : ∀ vm₁, s.WarmedH vm₁ → Pre ⟨T.setVm vm₁, locs, cells, slots⟩ argsL.toArray) :
    (∃ (v : Option Value) (vm₁ : Vm) (B : Pt), s.WarmedH vm₁ ∧ Stand p l e R s m args below meth c B.U B.locs B.cells B.slots ∧ Post ⟨T.setVm vm₁, locs, cells, slots⟩ argsL.toArray v B ∧
      ∀ target, Steps p.tables e below (B.U.setTop { g with pc := g.pc + 3, stack := v.toList ++ rest }) target → Steps p.tables e below (T.setTop g) target) ∨
    (∃ (q : Addr) (vm₁ : Vm) (B : Pt), s.WarmedH vm₁ ∧ Stand p l e R s m args below meth c B.U B.locs B.cells B.slots ∧ PostX ⟨T.setVm vm₁, locs, cells, slots⟩ argsL.toArray q B ∧
      Steps p.tables e below (T.setTop g) ((B.U.setTop { g with stack := rest }).pushFrame (.throwing q))) := by
  obtain ⟨mk, methM, cM, hnamed, hmethM, -, -, -, -, -, -, hsigM⟩ := Cond.codeWith_spec hcode
  have hstatic : methM.isStatic = true := Cond.static_spec hnamed hmethM hstat
  obtain ⟨kP, hkP, -⟩ := className_of_methodNamed hnamed
  have hinitP : kP.init = .initialized := Cond.initialized_spec (findClass_of_methodNamed hnamed) hkP hinit
  obtain ⟨vm₁, X₁, hstep₁⟩ := X.invokestatic hexec hown hlink hnamed hmethM hstatic hkP hinitP hy (g := g) hg (argsL := argsL) (rest := rest) (hlen _ hsigM) hstack hdg
  rcases hK m meth c ⟨T.setVm vm₁, locs, cells, slots⟩ { g with stack := rest } (.invokestatic index) mk argsL.toArray X₁ hg hsize hdg hW (X₁.named hnamed) (hpre vm₁ X₁.warmed) with ⟨v, B, X', hpost, hsteps⟩ | ⟨q, B, X', hpost, hsteps⟩
  · exact Or.inl ⟨v, vm₁, B, X₁.warmed, X', hpost, fun target h => hstep₁ _ fun acts => by rw [doInvoke_state]; exact hsteps.trans h⟩
  · exact Or.inr ⟨q, vm₁, B, X₁.warmed, X', hpost, hstep₁ _ fun acts => by rw [doInvoke_state]; exact hsteps⟩
theorem vx_callVW (X : Stand p l e R s m args below meth c T locs cells slots) (hexec : p.tables.exec = Jvm.exec) {own C : String} {index : Nat} {y : MethodName} {bytes : ByteArray} {maxL : Nat} {ret : Option FieldType} {hh : List (Nat × Nat × Nat × Nat)}
    (hown : s.vm.findClass own = some m.cls) (hlink : (Cond.methodLink own index y).before args s = true) (hinst : (Cond.instanceMethod y).before args s = true) (hsel : (Cond.selects C y y).before args s = true)
    (hcode : (Cond.codeWith y bytes maxL ret hh).before args s = true) (hy : y.cls ≠ "java/lang/invoke/MethodHandle" ∧ y.cls ≠ "java/lang/invoke/VarHandle")
    {W9 : Nat} {Pre : Pt → Array Value → Prop} {Post : Pt → Array Value → Option Value → Pt → Prop} (hK : Back l R p e below s args y 3 W9 Pre Post)
    {b : Addr} {cellB : Cell} (hcell : T.heap[b]? = some cellB) (hobj : cellB.vm.isStatics = false) (hcls : s.vm.findClass C = some cellB.cls)
    {g : JFrame} (hg : g.method = m) (hsize : g.locals.size = c.maxLocals) {argsL rest : List Value} (hlen : ∀ sig, parseMethodDescriptor y.desc = some sig → argsL.length = sig.parameters.length)
    (hstack : g.stack = argsL.reverse ++ .ref b :: rest) (hW : 2 * g.monitorRoom + (rest.map fun v => v.category).sum ≤ W9) (hdg : decode c.code g.pc = .ok (.invokevirtual index, 3))
    (hpre : ∀ vm₁, s.WarmedH vm₁ → Pre ⟨T.setVm vm₁, locs, cells, slots⟩ (Value.ref b :: argsL).toArray) :
    ∃ (v : Option Value) (vm₁ : Vm) (B : Pt), s.WarmedH vm₁ ∧ Stand p l e R s m args below meth c B.U B.locs B.cells B.slots ∧ Post ⟨T.setVm vm₁, locs, cells, slots⟩ (Value.ref b :: argsL).toArray v B ∧
      ∀ target, Steps p.tables e below (B.U.setTop { g with pc := g.pc + 3, stack := v.toList ++ rest }) target → Steps p.tables e below (T.setTop g) target := by
  obtain ⟨mk, methM, hnamed, hmethM, hstM, habM⟩ := Cond.instanceMethod_spec hinst
  obtain ⟨m8, methM', cM, hn8, hmethM', -, -, -, -, -, -, hsigM⟩ := Cond.codeWith_spec hcode
  cases Option.some.inj (hn8.symm.trans hnamed)
  cases hmethM.symm.trans hmethM'
  obtain ⟨c2, r2, m2, q1, q2, q3, q4, kP, hkP, hkPi⟩ := Cond.selects_spec hsel
  cases hcls.symm.trans q1
  cases (State.methodFound?_of_named hnamed hy).symm.trans q2
  cases hnamed.symm.trans q3
  have hselP : selectMethod e.platform s.vm cellB.cls mk = .method mk := by rw [Launch.admits_selectMethod X.admits]; exact q4
  obtain ⟨vm₁, X₁, hstep₁⟩ := X.invokevirtual hexec hown hlink hnamed hmethM hstM hkP hkPi hy (a := b) (cell := cellB) hcell
    (fun z h => by rw [h] at hobj; cases hobj) hselP hmethM habM hkP hkPi (g := g) hg (argsL := argsL) (rest := rest) (hlen _ hsigM) hstack hdg
  obtain ⟨v, B, X', hpost, hsteps⟩ := hK m meth c ⟨T.setVm vm₁, locs, cells, slots⟩ { g with stack := rest } (.invokevirtual index) mk (Value.ref b :: argsL).toArray X₁ hg hsize hdg hW (X₁.named hnamed) (hpre vm₁ X₁.warmed)
  exact ⟨v, vm₁, B, X₁.warmed, X', hpost, fun target h => hstep₁ _ fun acts => by rw [doInvoke_state]; exact hsteps.trans h⟩
abbrev vx_CVW (R : Room) (s : State) (args : Array Value) (own C : String) (index : Nat) (y : MethodName) (bytes : ByteArray) (maxL : Nat) (ret : Option FieldType) (hh : List (Nat × Nat × Nat × Nat)) (ws : List Cond) (rm : Room) (mc ms n : Nat) : Prop :=
  (rm.cells = mc ∧ rm.slots = ms ∧ rm.frames + 1 ≤ R.frames ∧ 8 + (maxL + 11) + rm.locals ≤ R.locals ∧ (∀ w ∈ ws, ∀ (a' : Array Value) (U : State), s.WarmedH U.vm → w.before a' U = true) ∧ Cond.codeWith y bytes maxL ret hh ∈ ws) ∧
  (Cond.codeWith y bytes maxL ret hh).before args s = true ∧ (Cond.initialized y.cls).before args s = true ∧ (y.cls ≠ "java/lang/invoke/MethodHandle" ∧ y.cls ≠ "java/lang/invoke/VarHandle") ∧
  (∀ sig, parseMethodDescriptor y.desc = some sig → n = sig.parameters.length) ∧ (Cond.methodLink own index y).before args s = true ∧ (Cond.instanceMethod y).before args s = true ∧ (Cond.selects C y y).before args s = true
theorem vx_cwVW {own C : String} {index maxL mc ms : Nat} {y : MethodName} {bytes : ByteArray} {ret : Option FieldType} {hh : List (Nat × Nat × Nat × Nat)} {Ts ws ws' : List Cond} {rm : Room} (n : Nat) (ht : ∀ w ∈ Ts, w.before args s = true) (hT : GoodIn Ts (wsV own index C y ws)) (hw : ws = Cond.codeWith y bytes maxL ret hh :: ws') (hrc : rm.cells = mc) (hrs : rm.slots = ms)
    (hd : y.cls = C ∧ y.cls ≠ "java/lang/invoke/MethodHandle" ∧ y.cls ≠ "java/lang/invoke/VarHandle" ∧ (parseMethodDescriptor y.desc).map (fun d => d.parameters.length) = some n) (hR : rm.frames + 1 ≤ R.frames ∧ 8 + (maxL + 11) + rm.locals ≤ R.locals) :
    vx_CVW R s args own C index y bytes maxL ret hh ws rm mc ms n := by
  obtain ⟨hC, hd⟩ := hd
  subst hC
  have ok : ∀ w ∈ wsV own index y.cls y ws, w.before args s = true := fun w h => ht w (hT w h).1
  have hG : GoodIn Ts ws := fun w h => hT w (by unfold wsV; exact List.mem_append_right _ h)
  have hc : Cond.codeWith y bytes maxL ret hh ∈ ws := by rw [hw]; exact List.mem_cons_self
  refine ⟨⟨hrc, hrs, hR.1, hR.2, pay_in ht hG, hc⟩, ht _ (hG _ hc).1, ok _ (by simp [wsV]), ⟨hd.1, hd.2.1⟩, fun sig h => ?_, ok _ (by simp [wsV]), ok _ (by simp [wsV]), ok _ (by simp [wsV])⟩
  have h2 := hd.2.2
  rw [h] at h2
  exact (Option.some.inj h2).symm
theorem vx_runVW {y : MethodName} {bytes cc : ByteArray} {maxL nL mc ms n index : Nat} {ret : Option FieldType} {hh : List (Nat × Nat × Nat × Nat)} {ws : List Cond} {rm : Room} {Pc : Array Value → State → Prop} {Qc : Array Value → State → Outcome → State → Prop} {free : Addr → Prop} {Ts : List Cond} {own C : String} {b : Addr} {As rest : List Value} {g : JFrame}
    (S : CallFix p m c cc nL s args Ts own) (hM : Met l y ws rm Pc Qc mc ms free) (cw : vx_CVW R s args own C index y bytes maxL ret hh ws rm mc ms n) (hp : PreV s H C b Pc As)
    (hg : g.method = m) (hn : As.length = n) (hsize : g.locals.size = nL) (hstack : g.stack = As.reverse ++ .ref b :: rest) (hW : 2 * g.monitorRoom + (rest.map fun v => v.category).sum ≤ 8) (hdg : decode cc g.pc = .ok (.invokevirtual index, 3)) (hf : cells + mc ≤ R.cells ∧ slots + ms ≤ R.slots) :
    va_Run p l e R s m args below meth c H locs cells slots mc ms g rest (Qc (Value.ref b :: As).toArray) free := by
  obtain ⟨⟨hrc, hrs, hfr, hlo, hws, hcw⟩, hcode, hini, hy, hlen, hl, hin, hse⟩ := cw
  have hK : Back l R p e below s args y 3 8 (PreOf R mc ms Pc) (PostOf Qc mc ms free) := va_backW (hh := hh) (bytes := bytes) (maxL := maxL) (ret := ret) hM hp.1 hrc hrs hfr hlo hws hcw (fun a' U hW => word_at hW (Or.inl (by first | rfl | simp [Cond.onTables, Cond.keeps, Cond.steady])) hini)
  obtain ⟨hx, hb, hml, ho, -⟩ := S
  obtain ⟨-, ⟨cellB, hcB, hoB, hclB⟩, hPc⟩ := hp
  intro T hT X
  obtain ⟨v, vm₁, ⟨U', l2, c2, s2⟩, hW₁, X', ⟨g', mk, t, L, e1, e2, hq, h1, hL, h2, h3⟩, st⟩ := vx_callVW X hx (C := C) (hh := hh) (bytes := bytes) (maxL := maxL) (ret := ret) ho hl hin hse hcode hy hK (by rw [hT]; exact hcB) hoB hclB hg (hsize.trans hml.symm) (argsL := As) (rest := rest) (fun sig h => hn.trans (hlen sig h)) hstack hW (by rw [hb]; exact hdg)
    (fun vm₁ hW₁ => ⟨hf.1, hf.2, hPc (T.setVm vm₁) hT hW₁⟩)
  dsimp only [Pt.U, Pt.locs, Pt.cells, Pt.slots] at X' e1 e2 h1 h2 h3 st
  subst h1; subst h2; subst h3
  exact ⟨v, (T.setVm vm₁).calling g' mk (Value.ref b :: As).toArray, t, U', L, hT, X', hL, e1, e2, hq, st⟩
section
variable {y : MethodName} {bytes cc : ByteArray} {maxL nL mc ms n index : Nat} {ret : Option FieldType} {ws : List Cond} {rm : Room} {Pc : Array Value → State → Prop} {Qc : Array Value → State → Outcome → State → Prop} {XC : String → State → State → Prop} {free : Addr → Prop} {Ts : List Cond} {own C : String} {b : Addr} {As rest : List Value} {g : JFrame}
theorem vx_runVX {hh : List (Nat × Nat × Nat × Nat)} (S : CallFix p m c cc nL s args Ts own) (hM : vx_Met l y ws rm Pc Qc XC mc ms free) (cw : vx_CVW R s args own C index y bytes maxL ret hh ws rm mc ms n) (hp : PreV s H C b Pc As)
    (hg : g.method = m) (hn : As.length = n) (hsize : g.locals.size = nL) (hstack : g.stack = As.reverse ++ .ref b :: rest) (hW : 2 * g.monitorRoom + (rest.map fun v => v.category).sum ≤ 8) (hdg : decode cc g.pc = .ok (.invokevirtual index, 3)) (hf : cells + mc ≤ R.cells ∧ slots + ms ≤ R.slots) :
    vx_Run p l e R s m args below meth c H locs cells slots mc ms g rest (Qc (Value.ref b :: As).toArray) XC free := by
  obtain ⟨⟨hrc, hrs, hfr, hlo, hws, hcw⟩, hcode, hini, hy, hlen, hl, hin, hse⟩ := cw
  have hK : vx_Back l R p e below s args y 3 8 (PreOf R mc ms Pc) (PostOf Qc mc ms free) (vx_Post XC mc ms free) := vx_backW (hh := hh) (bytes := bytes) (maxL := maxL) (ret := ret) hM hp.1 hrc hrs hfr hlo hws hcw (fun a' U hW => word_at hW (Or.inl (by first | rfl | simp [Cond.onTables, Cond.keeps, Cond.steady])) hini)
  obtain ⟨hx, hb, hml, ho, -⟩ := S
  obtain ⟨-, ⟨cellB, hcB, hoB, hclB⟩, hPc⟩ := hp
  intro T hT X
  rcases vx_callVX X hx (C := C) (hh := hh) (bytes := bytes) (maxL := maxL) (ret := ret) ho hl hin hse hcode hy hK (by rw [hT]; exact hcB) hoB hclB hg (hsize.trans hml.symm) (argsL := As) (rest := rest) (fun sig h => hn.trans (hlen sig h)) hstack hW (by rw [hb]; exact hdg)
    (fun vm₁ hW₁ => ⟨hf.1, hf.2, hPc (T.setVm vm₁) hT hW₁⟩) with ⟨v, vm₁, ⟨U', l2, c2, s2⟩, hW₁, X', ⟨g', mk, t, L, e1, e2, hq, h1, hL, h2, h3⟩, st⟩ | ⟨q, vm₁, ⟨U', l2, c2, s2⟩, hW₁, X', ⟨g', mk, t, L, E, ce, e1, e2, hq, hce, hcv, hcl, h1, hL, h2, h3⟩, st⟩
  · dsimp only [Pt.U, Pt.locs, Pt.cells, Pt.slots] at X' e1 e2 h1 h2 h3 st
    subst h1; subst h2; subst h3
    exact Or.inl ⟨v, (T.setVm vm₁).calling g' mk (Value.ref b :: As).toArray, t, U', L, hT, X', hL, e1, e2, hq, st⟩
  · dsimp only [Pt.U, Pt.locs, Pt.cells, Pt.slots] at X' e1 e2 h1 h2 h3 st hcl
    subst h1; subst h2; subst h3
    exact Or.inr ⟨q, (T.setVm vm₁).calling g' mk (Value.ref b :: As).toArray, t, U', L, E, ce, hT, X', hL, e1, e2, hq, hce, hcv, vx_cls hW₁ hcl, st⟩
theorem vx_runSX {hh : List (Nat × Nat × Nat × Nat)} (S : CallFix p m c cc nL s args Ts own) (hM : vx_Met l y ws rm Pc Qc XC mc ms free) (cw : vx_CSW R s args own index y bytes maxL ret hh ws rm mc ms n) (hp : PreS s H Pc As)
    (hg : g.method = m) (hn : As.length = n) (hsize : g.locals.size = nL) (hstack : g.stack = As.reverse ++ rest) (hW : 2 * g.monitorRoom + (rest.map fun v => v.category).sum ≤ 8) (hdg : decode cc g.pc = .ok (.invokestatic index, 3)) (hf : cells + mc ≤ R.cells ∧ slots + ms ≤ R.slots) :
    vx_Run p l e R s m args below meth c H locs cells slots mc ms g rest (Qc As.toArray) XC free := by
  obtain ⟨⟨hrc, hrs, hfr, hlo, hws, hcw⟩, hcode, hini, hy, hlen, hl, hstt⟩ := cw
  have hK : vx_Back l R p e below s args y 3 8 (PreOf R mc ms Pc) (PostOf Qc mc ms free) (vx_Post XC mc ms free) := vx_backW (hh := hh) (bytes := bytes) (maxL := maxL) (ret := ret) hM hp.1 hrc hrs hfr hlo hws hcw (fun a' U hW => word_at hW (Or.inl (by first | rfl | simp [Cond.onTables, Cond.keeps, Cond.steady])) hini)
  obtain ⟨hx, hb, hml, ho, -⟩ := S
  intro T hT X
  rcases vx_callSX X hx (hh := hh) (bytes := bytes) (maxL := maxL) (ret := ret) ho hl hstt hini hcode hy hK hg (hsize.trans hml.symm) (argsL := As) (rest := rest) (fun sig h => hn.trans (hlen sig h)) hstack hW (by rw [hb]; exact hdg)
    (fun vm₁ hW₁ => ⟨hf.1, hf.2, hp.2 (T.setVm vm₁) hT hW₁⟩) with ⟨v, vm₁, ⟨U', l2, c2, s2⟩, hW₁, X', ⟨g', mk, t, L, e1, e2, hq, h1, hL, h2, h3⟩, st⟩ | ⟨q, vm₁, ⟨U', l2, c2, s2⟩, hW₁, X', ⟨g', mk, t, L, E, ce, e1, e2, hq, hce, hcv, hcl, h1, hL, h2, h3⟩, st⟩
  · dsimp only [Pt.U, Pt.locs, Pt.cells, Pt.slots] at X' e1 e2 h1 h2 h3 st
    subst h1; subst h2; subst h3
    exact Or.inl ⟨v, (T.setVm vm₁).calling g' mk As.toArray, t, U', L, hT, X', hL, e1, e2, hq, st⟩
  · dsimp only [Pt.U, Pt.locs, Pt.cells, Pt.slots] at X' e1 e2 h1 h2 h3 st hcl
    subst h1; subst h2; subst h3
    exact Or.inr ⟨q, (T.setVm vm₁).calling g' mk As.toArray, t, U', L, E, ce, hT, X', hL, e1, e2, hq, hce, hcv, vx_cls hW₁ hcl, st⟩
end
end VXH
theorem vx_ofWH {l : Launch} {y : MethodName} {ws ws' : List Cond} {rm : Room} {Pc : Array Value → State → Prop} {Qc : Array Value → State → Outcome → State → Prop} {XC : String → State → State → Prop} {mc ms : Nat} {free : Addr → Prop} {cc : ByteArray} {maxL : Nat} {ret : Option FieldType} {hh : List (Nat × Nat × Nat × Nat)}
    (hy : plainName y.cls = true) (hw : ws = Cond.codeWith y cc maxL ret hh :: ws')
    (body : ∀ p e s m args below meth c s₁, BodyLoose p l y (headSpec ws rm) cc maxL ret e s m args below meth c s₁ → c.maxLocals = maxL → Pc args s →
      W p l e (headSpec ws rm).room s m args below meth c s.heap [] 0 0 (vx_MQ below Qc XC args s mc ms free) (entryFrame m args maxL)) : vx_Met l y ws rm Pc Qc XC mc ms free := by
  refine MetFree.of_bodyS (code := cc) (maxLocals := maxL) (ret := ret) hy ?_ ?_
  · intro args s m h hn
    obtain ⟨m9, meth, c, hn9, h1, h2, h3, h4, -, h5, h6, -⟩ := Cond.codeWith_spec (atoms_spec (ws := ws) h _ (by rw [hw]; exact List.mem_cons_self))
    cases hn.symm.trans hn9
    exact ⟨meth, c, h1, h2, h3, h4, h5, h6⟩
  · intro p e s m args below meth c s₁ B hml hP _
    have hh0 : s₁.heap = s.heap := by rw [B.state]; rfl
    obtain ⟨t, a1, o, b1, b2, b3⟩ := body p e s m args below meth c s₁ B hml hP s₁ hh0 (Stand.of_body B)
    exact ⟨t, o, a1, b1, b2, b3⟩
/-! ===== END ===== -/
end
section
/-! ABSTRACT RUNS. A heap of abstract cells (a list: an abstract address is a place in it), the judgement se_W (from this frame, with this abstract heap, the method comes to an end that Φ describes), and a row for each instruction. Nothing here speaks of one program. -/
abbrev se_E : Type := (FieldType × vp_A) ⊕ (Nat × List Value)
abbrev se_H : Type := List se_E
abbrev se_O : Type := Option Value ⊕ String
/-- a method: name, bytes, locals, answer's type, handlers -/
abbrev se_M : Type := MethodName × ByteArray × Nat × Option FieldType × List (Nat × Nat × Nat × Nat)
/-- .ref: a place of the abstract heap; .retAddr: a cell outside of it (the script, a caught exception) -/
def se_v (θ : Nat → Nat) : Value → Value
  | .ref k => .ref (θ k)
  | .retAddr a => .ref a
  | v => v
def se_a (θ : Nat → Nat) : vp_A → vp_A
  | (n, .inr (.inr (.inr (.inr f)))) => (n, .inr (.inr (.inr (.inr (fun j => (f j).map θ)))))
  | a => a
def se_e (dA : FieldType → ClassId) (θ : Nat → Nat) : se_E → va_E
  | .inl q => .inl (dA q.1, se_a θ q.2)
  | .inr q => .inr (q.1, q.2.map (se_v θ))
def se_w (dA : FieldType → ClassId) (θ : Nat → Nat) (h : se_H) : va_W := h.mapIdx (fun k e => (θ k, se_e dA θ e))
/-- references point below n -/
def se_wv (n : Nat) (v : Value) : Prop := ∀ k, v = .ref k → k < n
def se_we (n : Nat) : se_E → Prop
  | .inl q => ∀ (m : Nat) (f : Nat → Option Nat), q.2 = (m, .inr (.inr (.inr (.inr f)))) → ∀ j k, f j = some k → k < n
  | .inr q => ∀ v ∈ q.2, se_wv n v
def se_wh (h : se_H) : Prop := ∀ (k : Nat) (e : se_E), h[k]? = some e → se_we h.length e
theorem se_wv_mono {n m : Nat} {v : Value} (h : se_wv n v) (hm : n ≤ m) : se_wv m v := fun k hk => Nat.lt_of_lt_of_le (h k hk) hm
theorem se_we_mono {n m : Nat} {e : se_E} (h : se_we n e) (hm : n ≤ m) : se_we m e := by
  cases e with
  | inl q => exact fun a f hq j k hk => Nat.lt_of_lt_of_le (h a f hq j k hk) hm
  | inr q => exact fun v hv => se_wv_mono (h v hv) hm
theorem se_v_congr {n : Nat} {θ θ' : Nat → Nat} {v : Value} (hv : se_wv n v) (hθ : ∀ k, k < n → θ' k = θ k) : se_v θ' v = se_v θ v := by
  cases v with
  | ref k => show Value.ref (θ' k) = Value.ref (θ k); rw [hθ k (hv k rfl)]
  | _ => rfl
theorem se_vs_congr {n : Nat} {θ θ' : Nat → Nat} {vs : List Value} (hv : ∀ v ∈ vs, se_wv n v) (hθ : ∀ k, k < n → θ' k = θ k) : vs.map (se_v θ') = vs.map (se_v θ) :=
  List.map_congr_left fun v h => se_v_congr (hv v h) hθ
theorem se_e_congr {n : Nat} {dA : FieldType → ClassId} {θ θ' : Nat → Nat} {e : se_E} (he : se_we n e) (hθ : ∀ k, k < n → θ' k = θ k) : se_e dA θ' e = se_e dA θ e := by
  cases e with
  | inl q =>
    obtain ⟨ty, a, x⟩ := q
    show Sum.inl (dA ty, se_a θ' (a, x)) = Sum.inl (dA ty, se_a θ (a, x))
    rcases x with f | f | f | f | f
    · rfl
    · rfl
    · rfl
    · rfl
    · have hf : (fun j => (f j).map θ') = (fun j => (f j).map θ) := by
        funext j
        cases hj : f j with
        | none => rfl
        | some k => exact congrArg some (hθ k (he a f rfl j k hj))
      show Sum.inl (dA ty, (a, Sum.inr (Sum.inr (Sum.inr (Sum.inr (fun j => (f j).map θ')))))) = _
      rw [hf]
      rfl
  | inr q =>
    show Sum.inr (q.1, q.2.map (se_v θ')) = Sum.inr (q.1, q.2.map (se_v θ))
    rw [se_vs_congr he hθ]
theorem se_w_at {dA : FieldType → ClassId} {θ : Nat → Nat} {h : se_H} {k : Nat} {e : se_E} (hk : h[k]? = some e) : (se_w dA θ h)[k]? = some (θ k, se_e dA θ e) := by
  simp [se_w, List.getElem?_mapIdx, hk]
theorem se_w_of {dA : FieldType → ClassId} {θ : Nat → Nat} {h : se_H} {k : Nat} {q : Nat × va_E} (hk : (se_w dA θ h)[k]? = some q) : ∃ e, h[k]? = some e ∧ q = (θ k, se_e dA θ e) := by
  simp only [se_w, List.getElem?_mapIdx] at hk
  cases hh : h[k]? with
  | none => rw [hh] at hk; cases hk
  | some e => rw [hh] at hk; exact ⟨e, rfl, (Option.some.inj hk).symm⟩
theorem se_w_set {dA : FieldType → ClassId} {θ : Nat → Nat} {h : se_H} (k : Nat) (e : se_E) : se_w dA θ (h.set k e) = (se_w dA θ h).set k (θ k, se_e dA θ e) := by
  apply List.ext_getElem?
  intro i
  simp only [se_w, List.getElem?_mapIdx, List.getElem?_set, List.length_mapIdx]
  by_cases hi : k = i
  · subst hi
    by_cases hl : k < h.length
    · simp [hl]
    · simp [hl]
  · simp [hi]
theorem se_w_push {dA : FieldType → ClassId} {θ θ' : Nat → Nat} {h : se_H} {e : se_E} {q : Nat} (hw : se_wh h) (hθ : ∀ k, k < h.length → θ' k = θ k) (hq : θ' h.length = q) : se_w dA θ' (h ++ [e]) = se_w dA θ h ++ [(q, se_e dA θ' e)] := by
  apply List.ext_getElem?
  intro i
  by_cases hi : i < h.length
  · obtain ⟨x, hx⟩ : ∃ x, h[i]? = some x := ⟨h[i], List.getElem?_eq_getElem hi⟩
    rw [List.getElem?_append_left (by simpa [se_w] using hi), se_w_at hx, se_w_at (by rw [List.getElem?_append_left hi]; exact hx), hθ i hi, se_e_congr (hw i x hx) hθ]
  · have hl : (se_w dA θ h).length = h.length := by simp [se_w]
    rw [List.getElem?_append_right (by omega), hl]
    by_cases h2 : i = h.length
    · subst h2
      rw [se_w_at (e := e) (by simp), hq]
      simp
    · have : ¬ i - h.length < 1 := by omega
      rw [List.getElem?_eq_none (by simp [se_w]; omega), List.getElem?_eq_none (by simp; omega)]
theorem se_wh_set {h : se_H} {k : Nat} {e : se_E} (hw : se_wh h) (he : se_we h.length e) : se_wh (h.set k e) := by
  intro i x hx
  rw [List.length_set]
  rw [List.getElem?_set] at hx
  split at hx
  · split at hx
    · cases hx; exact he
    · cases hx
  · exact hw i x hx
theorem se_wh_push {h : se_H} {e : se_E} (hw : se_wh h) (he : se_we (h.length + 1) e) : se_wh (h ++ [e]) := by
  intro i x hx
  rw [List.length_append]
  by_cases hi : i < h.length
  · rw [List.getElem?_append_left hi] at hx
    exact se_we_mono (hw i x hx) (by simp)
  · rw [List.getElem?_append_right (by omega)] at hx
    have h0 : i - h.length = 0 := by
      rcases Nat.eq_zero_or_pos (i - h.length) with q | q
      · exact q
      · rw [List.getElem?_eq_none (by simp; omega)] at hx; cases hx
    rw [h0] at hx
    cases hx
    exact he
/-! locals -/
def se_L (θ : Nat → Nat) (L : List (Option Value)) (ls : Array Slot) (nL : Nat) : Prop := ls.size = nL ∧ lv_wf ls ∧ L.length = nL ∧ ∀ (i : Nat) (v : Value), L[i]? = some (some v) → ls[i]? = some (.val (se_v θ v))
/-- a long below i goes -/
def se_cl (L : List (Option Value)) : Nat → List (Option Value)
  | 0 => L
  | j + 1 => match L[j]? with
    | some (some (.long _)) => L.set j none
    | some (some (.double _)) => L.set j none
    | _ => L
def se_s1 (L : List (Option Value)) (i : Nat) (v : Value) : List (Option Value) := (se_cl L i).set i (some v)
def se_s2 (L : List (Option Value)) (i : Nat) (v : Value) : List (Option Value) := ((se_cl L i).set (i + 1) none).set i (some v)
theorem se_cl_len (L : List (Option Value)) (i : Nat) : (se_cl L i).length = L.length := by
  cases i with
  | zero => rfl
  | succ j => simp only [se_cl]; split <;> simp
theorem se_cl_at {L : List (Option Value)} {i j : Nat} {v : Value} (h : (se_cl L i)[j]? = some (some v)) : L[j]? = some (some v) ∧ ¬ (j + 1 = i ∧ v.category = 2) := by
  cases i with
  | zero => exact ⟨h, fun q => by omega⟩
  | succ k =>
    simp only [se_cl] at h
    split at h
    · rename_i y hy
      rw [List.getElem?_set] at h
      split at h
      · split at h <;> cases h
      · rename_i hne
        exact ⟨h, fun q => hne (by omega)⟩
    · rename_i y hy
      rw [List.getElem?_set] at h
      split at h
      · split at h <;> cases h
      · rename_i hne
        exact ⟨h, fun q => hne (by omega)⟩
    · rename_i h1 h2
      refine ⟨h, fun q => ?_⟩
      obtain ⟨q1, q2⟩ := q
      have hk : j = k := by omega
      subst hk
      cases v with
      | long x => exact h1 x h
      | double x => exact h2 x h
      | _ => simp [Value.category] at q2
theorem se_cat (θ : Nat → Nat) (v : Value) : (se_v θ v).category = v.category := by cases v <;> rfl
theorem se_store1 {θ : Nat → Nat} {L : List (Option Value)} {ls : Array Slot} {nL i : Nat} {v : Value} (h : se_L θ L ls nL) (hi : i < nL) (hc : v.category = 1) : ∃ ls', storeLocals ls i (se_v θ v) = some ls' ∧ se_L θ (se_s1 L i v) ls' nL := by
  obtain ⟨h1, h2, h3, h4⟩ := h
  obtain ⟨ls', e', h'⟩ := lv_store1 (ls := ls) (nL := nL) (l := []) (i := i) (v := se_v θ v) ⟨h1, h2, fun q hq => by cases hq⟩ hi (by rw [se_cat]; exact hc)
  refine ⟨ls', e', h'.1, h'.2.1, by simp [se_s1, se_cl_len, h3], fun j w hj => ?_⟩
  simp only [se_s1] at hj
  rw [List.getElem?_set] at hj
  split at hj
  · rename_i hij
    split at hj
    · cases hj
      subst hij
      exact h'.2.2 (i, se_v θ v) List.mem_cons_self
    · cases hj
  · rename_i hij
    obtain ⟨q1, q2⟩ := se_cl_at hj
    obtain ⟨ls2, e2, g2⟩ := lv_store1 (ls := ls) (nL := nL) (l := [(j, se_v θ w)]) (i := i) (v := se_v θ v) ⟨h1, h2, fun q hq => by rw [List.mem_singleton.mp hq]; exact h4 j w q1⟩ hi (by rw [se_cat]; exact hc)
    cases Option.some.inj (e2.symm.trans e')
    refine g2.2.2 (j, se_v θ w) (List.mem_cons_of_mem _ (List.mem_filter.mpr ⟨List.mem_singleton.mpr rfl, ?_⟩))
    have n1 : ¬ j = i := fun q => hij q.symm
    by_cases n2 : j + 1 = i
    · have n3 : ¬ w.category = 2 := fun q => q2 ⟨n2, q⟩
      simp [n1, n3, se_cat]
    · simp [n1, n2]
theorem se_store2 {θ : Nat → Nat} {L : List (Option Value)} {ls : Array Slot} {nL i : Nat} {v : Value} (h : se_L θ L ls nL) (hi : i + 1 < nL) (hc : v.category = 2) : ∃ ls', storeLocals ls i (se_v θ v) = some ls' ∧ se_L θ (se_s2 L i v) ls' nL := by
  obtain ⟨h1, h2, h3, h4⟩ := h
  obtain ⟨ls', e', h'⟩ := lv_store2 (ls := ls) (nL := nL) (l := []) (i := i) (v := se_v θ v) ⟨h1, h2, fun q hq => by cases hq⟩ hi (by rw [se_cat]; exact hc)
  refine ⟨ls', e', h'.1, h'.2.1, by simp [se_s2, se_cl_len, h3], fun j w hj => ?_⟩
  simp only [se_s2] at hj
  rw [List.getElem?_set] at hj
  split at hj
  · rename_i hij
    split at hj
    · cases hj
      subst hij
      exact h'.2.2 (i, se_v θ v) List.mem_cons_self
    · cases hj
  · rename_i hij
    rw [List.getElem?_set] at hj
    split at hj
    · split at hj <;> cases hj
    · rename_i hij2
      obtain ⟨q1, q2⟩ := se_cl_at hj
      obtain ⟨ls2, e2, g2⟩ := lv_store2 (ls := ls) (nL := nL) (l := [(j, se_v θ w)]) (i := i) (v := se_v θ v) ⟨h1, h2, fun q hq => by rw [List.mem_singleton.mp hq]; exact h4 j w q1⟩ hi (by rw [se_cat]; exact hc)
      cases Option.some.inj (e2.symm.trans e')
      refine g2.2.2 (j, se_v θ w) (List.mem_cons_of_mem _ (List.mem_filter.mpr ⟨List.mem_singleton.mpr rfl, ?_⟩))
      have n1 : ¬ j = i := fun q => hij q.symm
      have n4 : ¬ j = i + 1 := fun q => hij2 q.symm
      by_cases n2 : j + 1 = i
      · have n3 : ¬ w.category = 2 := fun q => q2 ⟨n2, q⟩
        simp [n1, n3, n4, se_cat]
      · simp [n1, n2, n4]
theorem se_L_congr {n : Nat} {θ θ' : Nat → Nat} {L : List (Option Value)} {ls : Array Slot} {nL : Nat} (h : se_L θ L ls nL) (hL : ∀ (i : Nat) (v : Value), L[i]? = some (some v) → se_wv n v) (hθ : ∀ k, k < n → θ' k = θ k) : se_L θ' L ls nL :=
  ⟨h.1, h.2.1, h.2.2.1, fun i v hv => by rw [se_v_congr (hL i v hv) hθ]; exact h.2.2.2 i v hv⟩
def se_wL (n : Nat) (L : List (Option Value)) : Prop := ∀ (i : Nat) (v : Value), L[i]? = some (some v) → se_wv n v
theorem se_wL_s1 {n : Nat} {L : List (Option Value)} {i : Nat} {v : Value} (h : se_wL n L) (hv : se_wv n v) : se_wL n (se_s1 L i v) := by
  intro j w hj
  simp only [se_s1] at hj
  rw [List.getElem?_set] at hj
  split at hj
  · split at hj
    · cases hj; exact hv
    · cases hj
  · exact h j w (se_cl_at hj).1
theorem se_wL_s2 {n : Nat} {L : List (Option Value)} {i : Nat} {v : Value} (h : se_wL n L) (hv : se_wv n v) : se_wL n (se_s2 L i v) := by
  intro j w hj
  simp only [se_s2] at hj
  rw [List.getElem?_set] at hj
  split at hj
  · split at hj
    · cases hj; exact hv
    · cases hj
  · rw [List.getElem?_set] at hj
    split at hj
    · split at hj <;> cases hj
    · exact h j w (se_cl_at hj).1
/-! locals at a method's start -/
def se_sl : List Value → List (Option Value)
  | [] => []
  | v :: vs => if v.category = 2 then some v :: none :: se_sl vs else some v :: se_sl vs
def se_ent (n : Nat) (vs : List Value) : List (Option Value) := se_sl vs ++ List.replicate (n - (se_sl vs).length) none
theorem se_sl_len (θ : Nat → Nat) : ∀ vs : List Value, (lg_sl (vs.map (se_v θ))).length = (se_sl vs).length := by
  intro vs
  induction vs with
  | nil => rfl
  | cons v vs ih =>
    cases v <;> simp [lg_sl, se_sl, se_v, Value.category] at ih ⊢ <;> omega
theorem se_sl_args (θ : Nat → Nat) : ∀ (vs : List Value) (b i : Nat) (v : Value), (se_sl vs)[i]? = some (some v) → (b + i, se_v θ v) ∈ lv_args b (vs.map (se_v θ)) := by
  intro vs
  induction vs with
  | nil => intro b i v h; simp [se_sl] at h
  | cons w vs ih =>
    intro b i v h
    simp only [List.map_cons, lv_args, se_cat]
    simp only [se_sl] at h
    by_cases hc : w.category = 2
    · rw [if_pos hc] at h ⊢
      match i, h with
      | 0, h => cases h; exact List.mem_cons_self
      | 1, h => cases h
      | i + 2, h =>
        refine List.mem_cons_of_mem _ ?_
        have := ih (b + 2) i v (by simpa using h)
        rwa [show b + (i + 2) = b + 2 + i by omega]
    · rw [if_neg hc] at h ⊢
      match i, h with
      | 0, h => cases h; exact List.mem_cons_self
      | i + 1, h =>
        refine List.mem_cons_of_mem _ ?_
        have := ih (b + 1) i v (by simpa using h)
        rwa [show b + (i + 1) = b + 1 + i by omega]
theorem se_ent_at {n : Nat} {vs : List Value} {i : Nat} {v : Value} (h : (se_ent n vs)[i]? = some (some v)) : (se_sl vs)[i]? = some (some v) := by
  simp only [se_ent] at h
  by_cases hi : i < (se_sl vs).length
  · rwa [List.getElem?_append_left hi] at h
  · rw [List.getElem?_append_right (by omega), List.getElem?_replicate] at h
    split at h <;> cases h
theorem se_ent_L {θ : Nat → Nat} {n : Nat} {vs : List Value} (h : (se_sl vs).length ≤ n) : se_L θ (se_ent n vs) ((lg_sl (vs.map (se_v θ)) ++ List.replicate (n - (lg_sl (vs.map (se_v θ))).length) Slot.unset).toArray) n := by
  have hl := lv_entry (vs.map (se_v θ)) (n := n) (by rw [se_sl_len]; exact h)
  refine ⟨hl.1, hl.2.1, by simp [se_ent]; omega, fun i v hv => ?_⟩
  have h2 := se_sl_args θ vs 0 i v (se_ent_at hv)
  rw [Nat.zero_add] at h2
  exact hl.2.2 _ h2
theorem se_sl_mem : ∀ {vs : List Value} {i : Nat} {v : Value}, (se_sl vs)[i]? = some (some v) → v ∈ vs := by
  intro vs
  induction vs with
  | nil => intro i v h; simp [se_sl] at h
  | cons w vs ih =>
    intro i v h
    simp only [se_sl] at h
    by_cases hc : w.category = 2
    · rw [if_pos hc] at h
      match i, h with
      | 0, h => cases h; exact List.mem_cons_self
      | 1, h => cases h
      | i + 2, h => exact List.mem_cons_of_mem _ (ih (i := i) (by simpa using h))
    · rw [if_neg hc] at h
      match i, h with
      | 0, h => cases h; exact List.mem_cons_self
      | i + 1, h => exact List.mem_cons_of_mem _ (ih (i := i) (by simpa using h))
end
section
/-! ===== the judgement. G: the classes; the words that every method has; the types of arrays; the texts that are thrown; words that are no good words but stay; the script ===== -/
abbrev se_G : Type := List vw_C × List Cond × List FieldType × List (String × Nat × String) × List Cond × List (Nat × Nat × (Nat → Int32))
def se_ok (G : se_G) : Prop := (∀ w ∈ G.2.1, goodWord w = true) ∧ ∀ w ∈ G.2.2.2.2.1, ∀ s U : State, s.WarmedH U.vm → va_Nw w s → va_Nw w U
section SE
variable {G : se_G} {l : Launch}
def se_tys (G : se_G) (dA : FieldType → ClassId) : List (ClassId × FieldType) := G.2.2.1.map (fun ty => (dA ty, ty))
/-- what holds of the heap's other cells and of the tables, beside the words -/
def se_Z (G : se_G) (A : Nat → Prop) (U : State) : Prop :=
  vx_Zq Bundle.tN "UNASSIGNED_STACK" Bundle.steD A U U.heap ∧ vx_Zq Bundle.tN "SUPPRESSED_SENTINEL" Bundle.listD A U U.heap ∧ (∀ q ∈ G.2.2.2.1, ∃ a, vk_R q.1 q.2.1 q.2.2 a U) ∧ (∀ w ∈ G.2.2.2.2.1, va_Nw w U) ∧ ∀ q ∈ G.2.2.2.2.2, va_X q.1 q.2.1 q.2.2 U U.heap ∧ ¬ A q.1
def se_St (G : se_G) (l : Launch) (d : Nat) (M : se_M) (p : Program) (R : Room) (s : State) (m : MethodId) (args : Array Value) (meth : Method) (c : Code) (D : va_G) (dA : FieldType → ClassId) (A : Nat → Prop) : Prop :=
  p.tables.exec = Jvm.exec ∧ c.code = M.2.1 ∧ c.maxLocals = M.2.2.1 ∧ meth.sig.returnType = M.2.2.2.1 ∧ s.vm.findClass M.1.cls = some m.cls ∧ (∀ w ∈ G.2.1, w.before args s = true) ∧ meth.locks = false ∧ c.exceptionTable.toList = tableOf M.2.2.2.2 ∧ va_K D G.1 (se_tys G dA) s ∧ (∀ q, s.heap.size ≤ q → A q) ∧ se_Z G A s ∧ (d ≤ R.frames ∧ 32 * d + 50 ≤ R.locals) ∧ meth.name = M.1.name ∧ l.stackTraces = false
def se_Dy (G : se_G) (M : se_M) (D : va_G) (dA : FieldType → ClassId) (A : Nat → Prop) (θ0 : Nat → Nat) (n0 : Nat) (θ : Nat → Nat) (s : State) (h : se_H) (H : Heap) (locs : List Loc) (L : List (Option Value)) (st : List Value) (ls : Array Slot) : Prop :=
  va_P D G.1 (se_w dA θ h) H ∧ va_D A (se_w dA θ h) ∧ va_S A s.heap H locs ∧ se_wh h ∧ (∀ v ∈ st, se_wv h.length v) ∧ se_L θ L ls M.2.2.1 ∧ se_wL h.length L ∧ n0 ≤ h.length ∧ ∀ k, k < n0 → θ k = θ0 k
/-- a world at the end -/
def se_B (G : se_G) (D : va_G) (dA : FieldType → ClassId) (A : Nat → Prop) (θ0 : Nat → Nat) (n0 : Nat) (h : se_H) (θ : Nat → Nat) (t : State) : Prop :=
  va_P D G.1 (se_w dA θ h) t.heap ∧ va_D A (se_w dA θ h) ∧ se_wh h ∧ n0 ≤ h.length ∧ ∀ k, k < n0 → θ k = θ0 k
def se_Q (G : se_G) (D : va_G) (dA : FieldType → ClassId) (A : Nat → Prop) (θ0 : Nat → Nat) (n0 : Nat) (Φ : se_O → se_H → Prop) : Array Value → State → Outcome → State → Prop := fun _ st o t =>
  (∃ (v : Option Value) (h : se_H) (θ : Nat → Nat), Φ (.inl v) h ∧ o = .returned (v.map (se_v θ)) ∧ (∀ x, v = some x → se_wv h.length x) ∧ se_B G D dA A θ0 n0 h θ t) ∧ va_F A st t
def se_X (G : se_G) (D : va_G) (dA : FieldType → ClassId) (A : Nat → Prop) (θ0 : Nat → Nat) (n0 : Nat) (Φ : se_O → se_H → Prop) : String → State → State → Prop := fun E st t =>
  (∃ (h : se_H) (θ : Nat → Nat), Φ (.inr E) h ∧ se_B G D dA A θ0 n0 h θ t) ∧ va_F A st t
/-- FROM HERE THE METHOD ENDS AS Φ SAYS, with at most C new cells of S slots: at pc, locals L, operands st, abstract heap h; d calls may nest below it -/
def se_W (G : se_G) (l : Launch) (d : Nat) (M : se_M) (pc : Nat) (L : List (Option Value)) (st : List Value) (h : se_H) (C S : Nat) (Φ : se_O → se_H → Prop) : Prop :=
  ∀ (p : Program) (e : Env) (R : Room) (s : State) (m : MethodId) (args : Array Value) (below : List Frame) (meth : Method) (c : Code) (D : va_G) (dA : FieldType → ClassId) (A : Nat → Prop) (θ0 : Nat → Nat) (n0 mc ms : Nat) (θ : Nat → Nat) (H : Heap) (locs : List Loc) (cells slots : Nat) (ls : Array Slot),
    se_St G l d M p R s m args meth c D dA A → se_Dy G M D dA A θ0 n0 θ s h H locs L st ls →
    cells + C ≤ mc → slots + S ≤ ms → mc ≤ R.cells → ms ≤ R.slots →
    W p l e R s m args below meth c H locs cells slots (vx_MQ below (se_Q G D dA A θ0 n0 Φ) (se_X G D dA A θ0 n0 Φ) args s mc ms A) (F0 m pc ls (st.map (se_v θ)))
variable {d : Nat} {M : se_M} {pc : Nat} {L : List (Option Value)} {st : List Value} {h : se_H} {C S : Nat} {Φ : se_O → se_H → Prop}
theorem se_mono {C' S' : Nat} {Ψ : se_O → se_H → Prop} (k : se_W G l d M pc L st h C' S' Ψ) (hC : C' ≤ C) (hS : S' ≤ S) (hΦ : ∀ o h', Ψ o h' → Φ o h') : se_W G l d M pc L st h C S Φ := by
  intro p e R s m args below meth c D dA A θ0 n0 mc ms θ H locs cells slots ls hs hd h1 h2 h3 h4 T hT X
  obtain ⟨t, a1, o, b1, b2, b3⟩ := k p e R s m args below meth c D dA A θ0 n0 mc ms θ H locs cells slots ls hs hd (by omega) (by omega) h3 h4 T hT X
  refine ⟨t, a1, o, b1, b2, ?_⟩
  rcases b3 with ⟨⟨⟨v, h', θ', g1, g2, g3, g4⟩, g5⟩, g6⟩ | ⟨q, g0, E, ce, L', ⟨⟨h', θ', g1, g2⟩, g3⟩, g4⟩
  · exact Or.inl ⟨⟨⟨v, h', θ', hΦ _ _ g1, g2, g3, g4⟩, g5⟩, g6⟩
  · exact Or.inr ⟨q, g0, E, ce, L', ⟨⟨h', θ', hΦ _ _ g1, g2⟩, g3⟩, g4⟩
/-- operands are numbers, or point into the heap -/
theorem se_i (n : Nat) (x : Int32) : se_wv n (.int x) := fun k hk => by cases hk
theorem se_j (n : Nat) (x : Int64) : se_wv n (.long x) := fun k hk => by cases hk
theorem se_n (n : Nat) : se_wv n .null := fun k hk => by cases hk
theorem se_r {n k : Nat} (hk : k < n) : se_wv n (.ref k) := fun j hj => by cases hj; exact hk
theorem se_push {n : Nat} {v : Value} {vs : List Value} (hv : se_wv n v) (h : ∀ w ∈ vs, se_wv n w) : ∀ w ∈ v :: vs, se_wv n w := fun w hw => (List.mem_cons.mp hw).elim (fun e => by rw [e]; exact hv) (h w)
theorem se_pop {n : Nat} {v : Value} {vs : List Value} (h : ∀ w ∈ v :: vs, se_wv n w) : ∀ w ∈ vs, se_wv n w := fun w hw => h w (List.mem_cons_of_mem _ hw)
/-- operands change alone -/
theorem se_Dy.stk {D : va_G} {dA : FieldType → ClassId} {A : Nat → Prop} {θ0 : Nat → Nat} {n0 : Nat} {θ : Nat → Nat} {s : State} {H : Heap} {locs : List Loc} {ls : Array Slot} {st' : List Value} (hd : se_Dy G M D dA A θ0 n0 θ s h H locs L st ls) (hw : ∀ v ∈ st', se_wv h.length v) : se_Dy G M D dA A θ0 n0 θ s h H locs L st' ls := by
  obtain ⟨a1, a2, a3, a4, -, a6, a7⟩ := hd
  exact ⟨a1, a2, a3, a4, hw, a6, a7⟩
theorem se_Dy.loc {D : va_G} {dA : FieldType → ClassId} {A : Nat → Prop} {θ0 : Nat → Nat} {n0 : Nat} {θ : Nat → Nat} {s : State} {H : Heap} {locs : List Loc} {ls ls' : Array Slot} {L' : List (Option Value)} {st' : List Value} (hd : se_Dy G M D dA A θ0 n0 θ s h H locs L st ls) (hL : se_L θ L' ls' M.2.2.1) (hwL : se_wL h.length L') (hw : ∀ v ∈ st', se_wv h.length v) : se_Dy G M D dA A θ0 n0 θ s h H locs L' st' ls' := by
  obtain ⟨a1, a2, a3, a4, -, -, -, a8⟩ := hd
  exact ⟨a1, a2, a3, a4, hw, hL, hwL, a8⟩
theorem se_Dy.wst {D : va_G} {dA : FieldType → ClassId} {A : Nat → Prop} {θ0 : Nat → Nat} {n0 : Nat} {θ : Nat → Nat} {s : State} {H : Heap} {locs : List Loc} {ls : Array Slot} (hd : se_Dy G M D dA A θ0 n0 θ s h H locs L st ls) : ∀ v ∈ st, se_wv h.length v := hd.2.2.2.2.1
theorem se_iconst {n : Int} (v : Int32) (hv : Int32.ofInt n = v) (hg : decode M.2.1 pc = .ok (.iconst n, 1)) (k : se_W G l d M (pc + 1) L (.int v :: st) h C S Φ) : se_W G l d M pc L (st) h C S Φ := by
  intro p e R s m args below meth c D dA A θ0 n0 mc ms θ H locs cells slots ls hs hd h1 h2 h3 h4
  exact lv_iconst hs.1 hs.2.1 hg hv (k p e R s m args below meth c D dA A θ0 n0 mc ms θ H locs cells slots ls hs (hd.stk (se_push (se_i _ _) hd.wst)) h1 h2 h3 h4)
theorem se_bipush {n : Int} (v : Int32) (hv : (Int8.ofInt n).toInt32 = v) (hg : decode M.2.1 pc = .ok (.bipush n, 2)) (k : se_W G l d M (pc + 2) L (.int v :: st) h C S Φ) : se_W G l d M pc L (st) h C S Φ := by
  intro p e R s m args below meth c D dA A θ0 n0 mc ms θ H locs cells slots ls hs hd h1 h2 h3 h4
  exact lv_bipush hs.1 hs.2.1 hg hv (k p e R s m args below meth c D dA A θ0 n0 mc ms θ H locs cells slots ls hs (hd.stk (se_push (se_i _ _) hd.wst)) h1 h2 h3 h4)
theorem se_sipush {n : Int} (v : Int32) (hv : (Int16.ofInt n).toInt32 = v) (hg : decode M.2.1 pc = .ok (.sipush n, 3)) (k : se_W G l d M (pc + 3) L (.int v :: st) h C S Φ) : se_W G l d M pc L (st) h C S Φ := by
  intro p e R s m args below meth c D dA A θ0 n0 mc ms θ H locs cells slots ls hs hd h1 h2 h3 h4
  exact lv_sipush hs.1 hs.2.1 hg hv (k p e R s m args below meth c D dA A θ0 n0 mc ms θ H locs cells slots ls hs (hd.stk (se_push (se_i _ _) hd.wst)) h1 h2 h3 h4)
theorem se_lconst {n : Fin 2} (v : Int64) (hv : Int64.ofNat (n : Nat) = v) (hg : decode M.2.1 pc = .ok (.lconst n, 1)) (k : se_W G l d M (pc + 1) L (.long v :: st) h C S Φ) : se_W G l d M pc L (st) h C S Φ := by
  intro p e R s m args below meth c D dA A θ0 n0 mc ms θ H locs cells slots ls hs hd h1 h2 h3 h4
  exact lv_lconst hs.1 hs.2.1 hg hv (k p e R s m args below meth c D dA A θ0 n0 mc ms θ H locs cells slots ls hs (hd.stk (se_push (se_j _ _) hd.wst)) h1 h2 h3 h4)
theorem se_null  (hg : decode M.2.1 pc = .ok (.aconst_null, 1)) (k : se_W G l d M (pc + 1) L (.null :: st) h C S Φ) : se_W G l d M pc L (st) h C S Φ := by
  intro p e R s m args below meth c D dA A θ0 n0 mc ms θ H locs cells slots ls hs hd h1 h2 h3 h4
  exact lv_null hs.1 hs.2.1 hg (k p e R s m args below meth c D dA A θ0 n0 mc ms θ H locs cells slots ls hs (hd.stk (se_push (se_n _) hd.wst)) h1 h2 h3 h4)
theorem se_iadd {x y : Int32} (hg : decode M.2.1 pc = .ok (.iadd, 1)) (k : se_W G l d M (pc + 1) L (.int (x + y) :: st) h C S Φ) : se_W G l d M pc L (.int y :: .int x :: st) h C S Φ := by
  intro p e R s m args below meth c D dA A θ0 n0 mc ms θ H locs cells slots ls hs hd h1 h2 h3 h4
  exact lv_iadd hs.1 hs.2.1 hg (k p e R s m args below meth c D dA A θ0 n0 mc ms θ H locs cells slots ls hs (hd.stk (se_push (se_i _ _) (se_pop (se_pop hd.wst)))) h1 h2 h3 h4)
theorem se_isub {x y : Int32} (hg : decode M.2.1 pc = .ok (.isub, 1)) (k : se_W G l d M (pc + 1) L (.int (x - y) :: st) h C S Φ) : se_W G l d M pc L (.int y :: .int x :: st) h C S Φ := by
  intro p e R s m args below meth c D dA A θ0 n0 mc ms θ H locs cells slots ls hs hd h1 h2 h3 h4
  exact lv_isub hs.1 hs.2.1 hg (k p e R s m args below meth c D dA A θ0 n0 mc ms θ H locs cells slots ls hs (hd.stk (se_push (se_i _ _) (se_pop (se_pop hd.wst)))) h1 h2 h3 h4)
theorem se_imul {x y : Int32} (hg : decode M.2.1 pc = .ok (.imul, 1)) (k : se_W G l d M (pc + 1) L (.int (x * y) :: st) h C S Φ) : se_W G l d M pc L (.int y :: .int x :: st) h C S Φ := by
  intro p e R s m args below meth c D dA A θ0 n0 mc ms θ H locs cells slots ls hs hd h1 h2 h3 h4
  exact lv_imul hs.1 hs.2.1 hg (k p e R s m args below meth c D dA A θ0 n0 mc ms θ H locs cells slots ls hs (hd.stk (se_push (se_i _ _) (se_pop (se_pop hd.wst)))) h1 h2 h3 h4)
theorem se_idiv {x y : Int32} (hne : ¬ y = 0) (hg : decode M.2.1 pc = .ok (.idiv, 1)) (k : se_W G l d M (pc + 1) L (.int (x / y) :: st) h C S Φ) : se_W G l d M pc L (.int y :: .int x :: st) h C S Φ := by
  intro p e R s m args below meth c D dA A θ0 n0 mc ms θ H locs cells slots ls hs hd h1 h2 h3 h4
  exact lv_idiv hs.1 hs.2.1 hg hne (k p e R s m args below meth c D dA A θ0 n0 mc ms θ H locs cells slots ls hs (hd.stk (se_push (se_i _ _) (se_pop (se_pop hd.wst)))) h1 h2 h3 h4)
theorem se_irem {x y : Int32} (hne : ¬ y = 0) (hg : decode M.2.1 pc = .ok (.irem, 1)) (k : se_W G l d M (pc + 1) L (.int (x - x / y * y) :: st) h C S Φ) : se_W G l d M pc L (.int y :: .int x :: st) h C S Φ := by
  intro p e R s m args below meth c D dA A θ0 n0 mc ms θ H locs cells slots ls hs hd h1 h2 h3 h4
  exact lv_irem hs.1 hs.2.1 hg hne (k p e R s m args below meth c D dA A θ0 n0 mc ms θ H locs cells slots ls hs (hd.stk (se_push (se_i _ _) (se_pop (se_pop hd.wst)))) h1 h2 h3 h4)
theorem se_iand {x y : Int32} (hg : decode M.2.1 pc = .ok (.iand, 1)) (k : se_W G l d M (pc + 1) L (.int (x &&& y) :: st) h C S Φ) : se_W G l d M pc L (.int y :: .int x :: st) h C S Φ := by
  intro p e R s m args below meth c D dA A θ0 n0 mc ms θ H locs cells slots ls hs hd h1 h2 h3 h4
  exact lv_iand hs.1 hs.2.1 hg (k p e R s m args below meth c D dA A θ0 n0 mc ms θ H locs cells slots ls hs (hd.stk (se_push (se_i _ _) (se_pop (se_pop hd.wst)))) h1 h2 h3 h4)
theorem se_ior {x y : Int32} (hg : decode M.2.1 pc = .ok (.ior, 1)) (k : se_W G l d M (pc + 1) L (.int (x ||| y) :: st) h C S Φ) : se_W G l d M pc L (.int y :: .int x :: st) h C S Φ := by
  intro p e R s m args below meth c D dA A θ0 n0 mc ms θ H locs cells slots ls hs hd h1 h2 h3 h4
  exact lv_ior hs.1 hs.2.1 hg (k p e R s m args below meth c D dA A θ0 n0 mc ms θ H locs cells slots ls hs (hd.stk (se_push (se_i _ _) (se_pop (se_pop hd.wst)))) h1 h2 h3 h4)
theorem se_ineg {x : Int32} (hg : decode M.2.1 pc = .ok (.ineg, 1)) (k : se_W G l d M (pc + 1) L (.int (-x) :: st) h C S Φ) : se_W G l d M pc L (.int x :: st) h C S Φ := by
  intro p e R s m args below meth c D dA A θ0 n0 mc ms θ H locs cells slots ls hs hd h1 h2 h3 h4
  exact lv_ineg hs.1 hs.2.1 hg (k p e R s m args below meth c D dA A θ0 n0 mc ms θ H locs cells slots ls hs (hd.stk (se_push (se_i _ _) (se_pop hd.wst))) h1 h2 h3 h4)
theorem se_ladd {x y : Int64} (hg : decode M.2.1 pc = .ok (.ladd, 1)) (k : se_W G l d M (pc + 1) L (.long (x + y) :: st) h C S Φ) : se_W G l d M pc L (.long y :: .long x :: st) h C S Φ := by
  intro p e R s m args below meth c D dA A θ0 n0 mc ms θ H locs cells slots ls hs hd h1 h2 h3 h4
  exact lv_ladd hs.1 hs.2.1 hg (k p e R s m args below meth c D dA A θ0 n0 mc ms θ H locs cells slots ls hs (hd.stk (se_push (se_j _ _) (se_pop (se_pop hd.wst)))) h1 h2 h3 h4)
theorem se_lsub {x y : Int64} (hg : decode M.2.1 pc = .ok (.lsub, 1)) (k : se_W G l d M (pc + 1) L (.long (x - y) :: st) h C S Φ) : se_W G l d M pc L (.long y :: .long x :: st) h C S Φ := by
  intro p e R s m args below meth c D dA A θ0 n0 mc ms θ H locs cells slots ls hs hd h1 h2 h3 h4
  exact lv_lsub hs.1 hs.2.1 hg (k p e R s m args below meth c D dA A θ0 n0 mc ms θ H locs cells slots ls hs (hd.stk (se_push (se_j _ _) (se_pop (se_pop hd.wst)))) h1 h2 h3 h4)
theorem se_lmul {x y : Int64} (hg : decode M.2.1 pc = .ok (.lmul, 1)) (k : se_W G l d M (pc + 1) L (.long (x * y) :: st) h C S Φ) : se_W G l d M pc L (.long y :: .long x :: st) h C S Φ := by
  intro p e R s m args below meth c D dA A θ0 n0 mc ms θ H locs cells slots ls hs hd h1 h2 h3 h4
  exact lv_lmul hs.1 hs.2.1 hg (k p e R s m args below meth c D dA A θ0 n0 mc ms θ H locs cells slots ls hs (hd.stk (se_push (se_j _ _) (se_pop (se_pop hd.wst)))) h1 h2 h3 h4)
theorem se_ldiv {x y : Int64} (hne : ¬ y = 0) (hg : decode M.2.1 pc = .ok (.ldiv, 1)) (k : se_W G l d M (pc + 1) L (.long (x / y) :: st) h C S Φ) : se_W G l d M pc L (.long y :: .long x :: st) h C S Φ := by
  intro p e R s m args below meth c D dA A θ0 n0 mc ms θ H locs cells slots ls hs hd h1 h2 h3 h4
  exact lv_ldiv hs.1 hs.2.1 hg hne (k p e R s m args below meth c D dA A θ0 n0 mc ms θ H locs cells slots ls hs (hd.stk (se_push (se_j _ _) (se_pop (se_pop hd.wst)))) h1 h2 h3 h4)
theorem se_lrem {x y : Int64} (hne : ¬ y = 0) (hg : decode M.2.1 pc = .ok (.lrem, 1)) (k : se_W G l d M (pc + 1) L (.long (x - x / y * y) :: st) h C S Φ) : se_W G l d M pc L (.long y :: .long x :: st) h C S Φ := by
  intro p e R s m args below meth c D dA A θ0 n0 mc ms θ H locs cells slots ls hs hd h1 h2 h3 h4
  exact lv_lrem hs.1 hs.2.1 hg hne (k p e R s m args below meth c D dA A θ0 n0 mc ms θ H locs cells slots ls hs (hd.stk (se_push (se_j _ _) (se_pop (se_pop hd.wst)))) h1 h2 h3 h4)
theorem se_i2l {x : Int32} (hg : decode M.2.1 pc = .ok (.i2l, 1)) (k : se_W G l d M (pc + 1) L (.long x.toInt64 :: st) h C S Φ) : se_W G l d M pc L (.int x :: st) h C S Φ := by
  intro p e R s m args below meth c D dA A θ0 n0 mc ms θ H locs cells slots ls hs hd h1 h2 h3 h4
  exact lv_i2l hs.1 hs.2.1 hg rfl (k p e R s m args below meth c D dA A θ0 n0 mc ms θ H locs cells slots ls hs (hd.stk (se_push (se_j _ _) (se_pop hd.wst))) h1 h2 h3 h4)
theorem se_l2i {x : Int64} (hg : decode M.2.1 pc = .ok (.l2i, 1)) (k : se_W G l d M (pc + 1) L (.int x.toInt32 :: st) h C S Φ) : se_W G l d M pc L (.long x :: st) h C S Φ := by
  intro p e R s m args below meth c D dA A θ0 n0 mc ms θ H locs cells slots ls hs hd h1 h2 h3 h4
  exact lv_l2i hs.1 hs.2.1 hg rfl (k p e R s m args below meth c D dA A θ0 n0 mc ms θ H locs cells slots ls hs (hd.stk (se_push (se_i _ _) (se_pop hd.wst))) h1 h2 h3 h4)
theorem se_lcmp {x y : Int64} (hg : decode M.2.1 pc = .ok (.lcmp, 1)) (k : se_W G l d M (pc + 1) L (.int (lg_cmp x y) :: st) h C S Φ) : se_W G l d M pc L (.long y :: .long x :: st) h C S Φ := by
  intro p e R s m args below meth c D dA A θ0 n0 mc ms θ H locs cells slots ls hs hd h1 h2 h3 h4
  exact W.lcmp hs.1 hs.2.1 hg (k p e R s m args below meth c D dA A θ0 n0 mc ms θ H locs cells slots ls hs (hd.stk (se_push (se_i _ _) (se_pop (se_pop hd.wst)))) h1 h2 h3 h4)
theorem se_dup {v : Value} (hc : v.category = 1) (hg : decode M.2.1 pc = .ok (.dup, 1)) (k : se_W G l d M (pc + 1) L (v :: v :: st) h C S Φ) : se_W G l d M pc L (v :: st) h C S Φ := by
  intro p e R s m args below meth c D dA A θ0 n0 mc ms θ H locs cells slots ls hs hd h1 h2 h3 h4
  exact lv_dup hs.1 hs.2.1 hg (by rw [se_cat]; exact hc) (k p e R s m args below meth c D dA A θ0 n0 mc ms θ H locs cells slots ls hs (hd.stk (se_push (hd.wst _ List.mem_cons_self) hd.wst)) h1 h2 h3 h4)
theorem se_pop1 {v : Value} (hc : v.category = 1) (hg : decode M.2.1 pc = .ok (.pop, 1)) (k : se_W G l d M (pc + 1) L (st) h C S Φ) : se_W G l d M pc L (v :: st) h C S Φ := by
  intro p e R s m args below meth c D dA A θ0 n0 mc ms θ H locs cells slots ls hs hd h1 h2 h3 h4
  exact lv_pop hs.1 hs.2.1 hg (by rw [se_cat]; exact hc) (k p e R s m args below meth c D dA A θ0 n0 mc ms θ H locs cells slots ls hs (hd.stk (se_pop hd.wst)) h1 h2 h3 h4)
theorem se_dup_x1 {v w : Value} (hc : v.category = 1) (hc2 : w.category = 1) (hg : decode M.2.1 pc = .ok (.dup_x1, 1)) (k : se_W G l d M (pc + 1) L (v :: w :: v :: st) h C S Φ) : se_W G l d M pc L (v :: w :: st) h C S Φ := by
  intro p e R s m args below meth c D dA A θ0 n0 mc ms θ H locs cells slots ls hs hd h1 h2 h3 h4
  exact lv_dup_x1 hs.1 hs.2.1 hg (by rw [se_cat]; exact hc) (by rw [se_cat]; exact hc2) (k p e R s m args below meth c D dA A θ0 n0 mc ms θ H locs cells slots ls hs (hd.stk (se_push (hd.wst _ List.mem_cons_self) (se_push (hd.wst _ (List.mem_cons_of_mem _ List.mem_cons_self)) (se_push (hd.wst _ List.mem_cons_self) (se_pop (se_pop hd.wst)))))) h1 h2 h3 h4)
theorem se_dup2 {v w : Value} (hc : v.category = 1) (hc2 : w.category = 1) (hg : decode M.2.1 pc = .ok (.dup2, 1)) (k : se_W G l d M (pc + 1) L (v :: w :: v :: w :: st) h C S Φ) : se_W G l d M pc L (v :: w :: st) h C S Φ := by
  intro p e R s m args below meth c D dA A θ0 n0 mc ms θ H locs cells slots ls hs hd h1 h2 h3 h4
  exact lv_dup2_11 hs.1 hs.2.1 hg (by rw [se_cat]; exact hc) (by rw [se_cat]; exact hc2) (k p e R s m args below meth c D dA A θ0 n0 mc ms θ H locs cells slots ls hs (hd.stk (se_push (hd.wst _ List.mem_cons_self) (se_push (hd.wst _ (List.mem_cons_of_mem _ List.mem_cons_self)) hd.wst))) h1 h2 h3 h4)
theorem se_dup_x2 {v w u : Value} (hc : v.category = 1) (hc2 : w.category = 1) (hc3 : u.category = 1) (hg : decode M.2.1 pc = .ok (.dup_x2, 1)) (k : se_W G l d M (pc + 1) L (v :: w :: u :: v :: st) h C S Φ) : se_W G l d M pc L (v :: w :: u :: st) h C S Φ := by
  intro p e R s m args below meth c D dA A θ0 n0 mc ms θ H locs cells slots ls hs hd h1 h2 h3 h4
  exact lv_dup_x2 hs.1 hs.2.1 hg (by rw [se_cat]; exact hc) (by rw [se_cat]; exact hc2) (by rw [se_cat]; exact hc3) (k p e R s m args below meth c D dA A θ0 n0 mc ms θ H locs cells slots ls hs (hd.stk (se_push (hd.wst _ List.mem_cons_self) (se_push (hd.wst _ (List.mem_cons_of_mem _ List.mem_cons_self)) (se_push (hd.wst _ (List.mem_cons_of_mem _ (List.mem_cons_of_mem _ List.mem_cons_self))) (se_push (hd.wst _ List.mem_cons_self) (se_pop (se_pop (se_pop hd.wst)))))))) h1 h2 h3 h4)
theorem se_iload_n {i : Fin 4} {x : Int32} (hl : L[(i : Nat)]? = some (some (.int x))) (hg : decode M.2.1 pc = .ok (.iload_n i, 1)) (k : se_W G l d M (pc + 1) L (.int x :: st) h C S Φ) : se_W G l d M pc L (st) h C S Φ := by
  intro p e R s m args below meth c D dA A θ0 n0 mc ms θ H locs cells slots ls hs hd h1 h2 h3 h4
  exact lv_iload_n hs.1 hs.2.1 hg rfl (hd.2.2.2.2.2.1.2.2.2 _ _ hl) (k p e R s m args below meth c D dA A θ0 n0 mc ms θ H locs cells slots ls hs (hd.stk (se_push (se_i _ _) hd.wst)) h1 h2 h3 h4)
theorem se_iload {i : Nat} {x : Int32} (hl : L[i]? = some (some (.int x))) (hg : decode M.2.1 pc = .ok (.iload i, 2)) (k : se_W G l d M (pc + 2) L (.int x :: st) h C S Φ) : se_W G l d M pc L (st) h C S Φ := by
  intro p e R s m args below meth c D dA A θ0 n0 mc ms θ H locs cells slots ls hs hd h1 h2 h3 h4
  exact lv_iload hs.1 hs.2.1 hg (hd.2.2.2.2.2.1.2.2.2 _ _ hl) (k p e R s m args below meth c D dA A θ0 n0 mc ms θ H locs cells slots ls hs (hd.stk (se_push (se_i _ _) hd.wst)) h1 h2 h3 h4)
theorem se_lload_n {i : Fin 4} {x : Int64} (hl : L[(i : Nat)]? = some (some (.long x))) (hg : decode M.2.1 pc = .ok (.lload_n i, 1)) (k : se_W G l d M (pc + 1) L (.long x :: st) h C S Φ) : se_W G l d M pc L (st) h C S Φ := by
  intro p e R s m args below meth c D dA A θ0 n0 mc ms θ H locs cells slots ls hs hd h1 h2 h3 h4
  exact lv_lload_n hs.1 hs.2.1 hg rfl (hd.2.2.2.2.2.1.2.2.2 _ _ hl) (k p e R s m args below meth c D dA A θ0 n0 mc ms θ H locs cells slots ls hs (hd.stk (se_push (se_j _ _) hd.wst)) h1 h2 h3 h4)
theorem se_lload {i : Nat} {x : Int64} (hl : L[i]? = some (some (.long x))) (hg : decode M.2.1 pc = .ok (.lload i, 2)) (k : se_W G l d M (pc + 2) L (.long x :: st) h C S Φ) : se_W G l d M pc L (st) h C S Φ := by
  intro p e R s m args below meth c D dA A θ0 n0 mc ms θ H locs cells slots ls hs hd h1 h2 h3 h4
  exact lv_lload hs.1 hs.2.1 hg (hd.2.2.2.2.2.1.2.2.2 _ _ hl) (k p e R s m args below meth c D dA A θ0 n0 mc ms θ H locs cells slots ls hs (hd.stk (se_push (se_j _ _) hd.wst)) h1 h2 h3 h4)
theorem se_aload_n {i : Fin 4} {x : Nat} (hl : L[(i : Nat)]? = some (some (.ref x))) (hg : decode M.2.1 pc = .ok (.aload_n i, 1)) (k : se_W G l d M (pc + 1) L (.ref x :: st) h C S Φ) : se_W G l d M pc L (st) h C S Φ := by
  intro p e R s m args below meth c D dA A θ0 n0 mc ms θ H locs cells slots ls hs hd h1 h2 h3 h4
  exact lv_aload_n hs.1 hs.2.1 hg rfl (hd.2.2.2.2.2.1.2.2.2 _ _ hl) (k p e R s m args below meth c D dA A θ0 n0 mc ms θ H locs cells slots ls hs (hd.stk (se_push (hd.2.2.2.2.2.2.1 _ _ hl) hd.wst)) h1 h2 h3 h4)
theorem se_aload {i : Nat} {x : Nat} (hl : L[i]? = some (some (.ref x))) (hg : decode M.2.1 pc = .ok (.aload i, 2)) (k : se_W G l d M (pc + 2) L (.ref x :: st) h C S Φ) : se_W G l d M pc L (st) h C S Φ := by
  intro p e R s m args below meth c D dA A θ0 n0 mc ms θ H locs cells slots ls hs hd h1 h2 h3 h4
  exact lv_aload hs.1 hs.2.1 hg (hd.2.2.2.2.2.1.2.2.2 _ _ hl) (k p e R s m args below meth c D dA A θ0 n0 mc ms θ H locs cells slots ls hs (hd.stk (se_push (hd.2.2.2.2.2.2.1 _ _ hl) hd.wst)) h1 h2 h3 h4)
theorem se_aload_nN {i : Fin 4} (hl : L[(i : Nat)]? = some (some .null)) (hg : decode M.2.1 pc = .ok (.aload_n i, 1)) (k : se_W G l d M (pc + 1) L (.null :: st) h C S Φ) : se_W G l d M pc L (st) h C S Φ := by
  intro p e R s m args below meth c D dA A θ0 n0 mc ms θ H locs cells slots ls hs hd h1 h2 h3 h4
  exact lv_aload_nN hs.1 hs.2.1 hg rfl (hd.2.2.2.2.2.1.2.2.2 _ _ hl) (k p e R s m args below meth c D dA A θ0 n0 mc ms θ H locs cells slots ls hs (hd.stk (se_push (se_n _) hd.wst)) h1 h2 h3 h4)
theorem se_aloadN {i : Nat} (hl : L[i]? = some (some .null)) (hg : decode M.2.1 pc = .ok (.aload i, 2)) (k : se_W G l d M (pc + 2) L (.null :: st) h C S Φ) : se_W G l d M pc L (st) h C S Φ := by
  intro p e R s m args below meth c D dA A θ0 n0 mc ms θ H locs cells slots ls hs hd h1 h2 h3 h4
  exact lv_aloadN hs.1 hs.2.1 hg (hd.2.2.2.2.2.1.2.2.2 _ _ hl) (k p e R s m args below meth c D dA A θ0 n0 mc ms θ H locs cells slots ls hs (hd.stk (se_push (se_n _) hd.wst)) h1 h2 h3 h4)
theorem se_if_eq {x : Int32} {off : Int} {tgt : Nat} (hg : decode M.2.1 pc = .ok (.ifCond .eq off, 3)) (ht : (pc : Int) + off = (tgt : Int)) (kt : x = 0 → se_W G l d M tgt L st h C S Φ) (kf : ¬ x = 0 → se_W G l d M (pc + 3) L st h C S Φ) : se_W G l d M pc L (.int x :: st) h C S Φ := by
  intro p e R s m args below meth c D dA A θ0 n0 mc ms θ H locs cells slots ls hs hd h1 h2 h3 h4
  exact lv_if_eq hs.1 hs.2.1 hg ht (fun q => kt q p e R s m args below meth c D dA A θ0 n0 mc ms θ H locs cells slots ls hs (hd.stk (se_pop hd.wst)) h1 h2 h3 h4) (fun q => kf q p e R s m args below meth c D dA A θ0 n0 mc ms θ H locs cells slots ls hs (hd.stk (se_pop hd.wst)) h1 h2 h3 h4)
theorem se_icmp_eq {x y : Int32} {off : Int} {tgt : Nat} (hg : decode M.2.1 pc = .ok (.if_icmp .eq off, 3)) (ht : (pc : Int) + off = (tgt : Int)) (kt : x = y → se_W G l d M tgt L st h C S Φ) (kf : ¬ x = y → se_W G l d M (pc + 3) L st h C S Φ) : se_W G l d M pc L (.int y :: .int x :: st) h C S Φ := by
  intro p e R s m args below meth c D dA A θ0 n0 mc ms θ H locs cells slots ls hs hd h1 h2 h3 h4
  exact lv_icmp_eq hs.1 hs.2.1 hg ht (fun q => kt q p e R s m args below meth c D dA A θ0 n0 mc ms θ H locs cells slots ls hs (hd.stk (se_pop (se_pop hd.wst))) h1 h2 h3 h4) (fun q => kf q p e R s m args below meth c D dA A θ0 n0 mc ms θ H locs cells slots ls hs (hd.stk (se_pop (se_pop hd.wst))) h1 h2 h3 h4)
theorem se_if_ne {x : Int32} {off : Int} {tgt : Nat} (hg : decode M.2.1 pc = .ok (.ifCond .ne off, 3)) (ht : (pc : Int) + off = (tgt : Int)) (kt : ¬ x = 0 → se_W G l d M tgt L st h C S Φ) (kf : x = 0 → se_W G l d M (pc + 3) L st h C S Φ) : se_W G l d M pc L (.int x :: st) h C S Φ := by
  intro p e R s m args below meth c D dA A θ0 n0 mc ms θ H locs cells slots ls hs hd h1 h2 h3 h4
  exact lv_if_ne hs.1 hs.2.1 hg ht (fun q => kt q p e R s m args below meth c D dA A θ0 n0 mc ms θ H locs cells slots ls hs (hd.stk (se_pop hd.wst)) h1 h2 h3 h4) (fun q => kf q p e R s m args below meth c D dA A θ0 n0 mc ms θ H locs cells slots ls hs (hd.stk (se_pop hd.wst)) h1 h2 h3 h4)
theorem se_icmp_ne {x y : Int32} {off : Int} {tgt : Nat} (hg : decode M.2.1 pc = .ok (.if_icmp .ne off, 3)) (ht : (pc : Int) + off = (tgt : Int)) (kt : ¬ x = y → se_W G l d M tgt L st h C S Φ) (kf : x = y → se_W G l d M (pc + 3) L st h C S Φ) : se_W G l d M pc L (.int y :: .int x :: st) h C S Φ := by
  intro p e R s m args below meth c D dA A θ0 n0 mc ms θ H locs cells slots ls hs hd h1 h2 h3 h4
  exact lv_icmp_ne hs.1 hs.2.1 hg ht (fun q => kt q p e R s m args below meth c D dA A θ0 n0 mc ms θ H locs cells slots ls hs (hd.stk (se_pop (se_pop hd.wst))) h1 h2 h3 h4) (fun q => kf q p e R s m args below meth c D dA A θ0 n0 mc ms θ H locs cells slots ls hs (hd.stk (se_pop (se_pop hd.wst))) h1 h2 h3 h4)
theorem se_if_lt {x : Int32} {off : Int} {tgt : Nat} (hg : decode M.2.1 pc = .ok (.ifCond .lt off, 3)) (ht : (pc : Int) + off = (tgt : Int)) (kt : x < 0 → se_W G l d M tgt L st h C S Φ) (kf : ¬ x < 0 → se_W G l d M (pc + 3) L st h C S Φ) : se_W G l d M pc L (.int x :: st) h C S Φ := by
  intro p e R s m args below meth c D dA A θ0 n0 mc ms θ H locs cells slots ls hs hd h1 h2 h3 h4
  exact lv_if_lt hs.1 hs.2.1 hg ht (fun q => kt q p e R s m args below meth c D dA A θ0 n0 mc ms θ H locs cells slots ls hs (hd.stk (se_pop hd.wst)) h1 h2 h3 h4) (fun q => kf q p e R s m args below meth c D dA A θ0 n0 mc ms θ H locs cells slots ls hs (hd.stk (se_pop hd.wst)) h1 h2 h3 h4)
theorem se_icmp_lt {x y : Int32} {off : Int} {tgt : Nat} (hg : decode M.2.1 pc = .ok (.if_icmp .lt off, 3)) (ht : (pc : Int) + off = (tgt : Int)) (kt : x < y → se_W G l d M tgt L st h C S Φ) (kf : ¬ x < y → se_W G l d M (pc + 3) L st h C S Φ) : se_W G l d M pc L (.int y :: .int x :: st) h C S Φ := by
  intro p e R s m args below meth c D dA A θ0 n0 mc ms θ H locs cells slots ls hs hd h1 h2 h3 h4
  exact lv_icmp_lt hs.1 hs.2.1 hg ht (fun q => kt q p e R s m args below meth c D dA A θ0 n0 mc ms θ H locs cells slots ls hs (hd.stk (se_pop (se_pop hd.wst))) h1 h2 h3 h4) (fun q => kf q p e R s m args below meth c D dA A θ0 n0 mc ms θ H locs cells slots ls hs (hd.stk (se_pop (se_pop hd.wst))) h1 h2 h3 h4)
theorem se_if_ge {x : Int32} {off : Int} {tgt : Nat} (hg : decode M.2.1 pc = .ok (.ifCond .ge off, 3)) (ht : (pc : Int) + off = (tgt : Int)) (kt : 0 ≤ x → se_W G l d M tgt L st h C S Φ) (kf : ¬ 0 ≤ x → se_W G l d M (pc + 3) L st h C S Φ) : se_W G l d M pc L (.int x :: st) h C S Φ := by
  intro p e R s m args below meth c D dA A θ0 n0 mc ms θ H locs cells slots ls hs hd h1 h2 h3 h4
  exact lv_if_ge hs.1 hs.2.1 hg ht (fun q => kt q p e R s m args below meth c D dA A θ0 n0 mc ms θ H locs cells slots ls hs (hd.stk (se_pop hd.wst)) h1 h2 h3 h4) (fun q => kf q p e R s m args below meth c D dA A θ0 n0 mc ms θ H locs cells slots ls hs (hd.stk (se_pop hd.wst)) h1 h2 h3 h4)
theorem se_icmp_ge {x y : Int32} {off : Int} {tgt : Nat} (hg : decode M.2.1 pc = .ok (.if_icmp .ge off, 3)) (ht : (pc : Int) + off = (tgt : Int)) (kt : y ≤ x → se_W G l d M tgt L st h C S Φ) (kf : ¬ y ≤ x → se_W G l d M (pc + 3) L st h C S Φ) : se_W G l d M pc L (.int y :: .int x :: st) h C S Φ := by
  intro p e R s m args below meth c D dA A θ0 n0 mc ms θ H locs cells slots ls hs hd h1 h2 h3 h4
  exact lv_icmp_ge hs.1 hs.2.1 hg ht (fun q => kt q p e R s m args below meth c D dA A θ0 n0 mc ms θ H locs cells slots ls hs (hd.stk (se_pop (se_pop hd.wst))) h1 h2 h3 h4) (fun q => kf q p e R s m args below meth c D dA A θ0 n0 mc ms θ H locs cells slots ls hs (hd.stk (se_pop (se_pop hd.wst))) h1 h2 h3 h4)
theorem se_if_gt {x : Int32} {off : Int} {tgt : Nat} (hg : decode M.2.1 pc = .ok (.ifCond .gt off, 3)) (ht : (pc : Int) + off = (tgt : Int)) (kt : 0 < x → se_W G l d M tgt L st h C S Φ) (kf : ¬ 0 < x → se_W G l d M (pc + 3) L st h C S Φ) : se_W G l d M pc L (.int x :: st) h C S Φ := by
  intro p e R s m args below meth c D dA A θ0 n0 mc ms θ H locs cells slots ls hs hd h1 h2 h3 h4
  exact lv_if_gt hs.1 hs.2.1 hg ht (fun q => kt q p e R s m args below meth c D dA A θ0 n0 mc ms θ H locs cells slots ls hs (hd.stk (se_pop hd.wst)) h1 h2 h3 h4) (fun q => kf q p e R s m args below meth c D dA A θ0 n0 mc ms θ H locs cells slots ls hs (hd.stk (se_pop hd.wst)) h1 h2 h3 h4)
theorem se_icmp_gt {x y : Int32} {off : Int} {tgt : Nat} (hg : decode M.2.1 pc = .ok (.if_icmp .gt off, 3)) (ht : (pc : Int) + off = (tgt : Int)) (kt : y < x → se_W G l d M tgt L st h C S Φ) (kf : ¬ y < x → se_W G l d M (pc + 3) L st h C S Φ) : se_W G l d M pc L (.int y :: .int x :: st) h C S Φ := by
  intro p e R s m args below meth c D dA A θ0 n0 mc ms θ H locs cells slots ls hs hd h1 h2 h3 h4
  exact lv_icmp_gt hs.1 hs.2.1 hg ht (fun q => kt q p e R s m args below meth c D dA A θ0 n0 mc ms θ H locs cells slots ls hs (hd.stk (se_pop (se_pop hd.wst))) h1 h2 h3 h4) (fun q => kf q p e R s m args below meth c D dA A θ0 n0 mc ms θ H locs cells slots ls hs (hd.stk (se_pop (se_pop hd.wst))) h1 h2 h3 h4)
theorem se_if_le {x : Int32} {off : Int} {tgt : Nat} (hg : decode M.2.1 pc = .ok (.ifCond .le off, 3)) (ht : (pc : Int) + off = (tgt : Int)) (kt : x ≤ 0 → se_W G l d M tgt L st h C S Φ) (kf : ¬ x ≤ 0 → se_W G l d M (pc + 3) L st h C S Φ) : se_W G l d M pc L (.int x :: st) h C S Φ := by
  intro p e R s m args below meth c D dA A θ0 n0 mc ms θ H locs cells slots ls hs hd h1 h2 h3 h4
  exact lv_if_le hs.1 hs.2.1 hg ht (fun q => kt q p e R s m args below meth c D dA A θ0 n0 mc ms θ H locs cells slots ls hs (hd.stk (se_pop hd.wst)) h1 h2 h3 h4) (fun q => kf q p e R s m args below meth c D dA A θ0 n0 mc ms θ H locs cells slots ls hs (hd.stk (se_pop hd.wst)) h1 h2 h3 h4)
theorem se_icmp_le {x y : Int32} {off : Int} {tgt : Nat} (hg : decode M.2.1 pc = .ok (.if_icmp .le off, 3)) (ht : (pc : Int) + off = (tgt : Int)) (kt : x ≤ y → se_W G l d M tgt L st h C S Φ) (kf : ¬ x ≤ y → se_W G l d M (pc + 3) L st h C S Φ) : se_W G l d M pc L (.int y :: .int x :: st) h C S Φ := by
  intro p e R s m args below meth c D dA A θ0 n0 mc ms θ H locs cells slots ls hs hd h1 h2 h3 h4
  exact lv_icmp_le hs.1 hs.2.1 hg ht (fun q => kt q p e R s m args below meth c D dA A θ0 n0 mc ms θ H locs cells slots ls hs (hd.stk (se_pop (se_pop hd.wst))) h1 h2 h3 h4) (fun q => kf q p e R s m args below meth c D dA A θ0 n0 mc ms θ H locs cells slots ls hs (hd.stk (se_pop (se_pop hd.wst))) h1 h2 h3 h4)
theorem se_goto {off : Int} {tgt : Nat} (hg : decode M.2.1 pc = .ok (.goto off, 3)) (ht : (pc : Int) + off = (tgt : Int)) (k : se_W G l d M tgt L st h C S Φ) : se_W G l d M pc L st h C S Φ := by
  intro p e R s m args below meth c D dA A θ0 n0 mc ms θ H locs cells slots ls hs hd h1 h2 h3 h4
  exact lv_goto hs.1 hs.2.1 hg ht (k p e R s m args below meth c D dA A θ0 n0 mc ms θ H locs cells slots ls hs hd h1 h2 h3 h4)
theorem se_ifnonnull {x : Nat} {off : Int} {tgt : Nat} (hg : decode M.2.1 pc = .ok (.ifnonnull off, 3)) (ht : (pc : Int) + off = (tgt : Int)) (k : se_W G l d M tgt L st h C S Φ) : se_W G l d M pc L (.ref x :: st) h C S Φ := by
  intro p e R s m args below meth c D dA A θ0 n0 mc ms θ H locs cells slots ls hs hd h1 h2 h3 h4
  exact lv_ifnonnull hs.1 hs.2.1 hg ht (k p e R s m args below meth c D dA A θ0 n0 mc ms θ H locs cells slots ls hs (hd.stk (se_pop hd.wst)) h1 h2 h3 h4)
theorem se_ifnull {x : Nat} {off : Int} (hg : decode M.2.1 pc = .ok (.ifnull off, 3)) (k : se_W G l d M (pc + 3) L st h C S Φ) : se_W G l d M pc L (.ref x :: st) h C S Φ := by
  intro p e R s m args below meth c D dA A θ0 n0 mc ms θ H locs cells slots ls hs hd h1 h2 h3 h4
  exact lv_ifnull hs.1 hs.2.1 hg (k p e R s m args below meth c D dA A θ0 n0 mc ms θ H locs cells slots ls hs (hd.stk (se_pop hd.wst)) h1 h2 h3 h4)
theorem se_ifnullN {off : Int} {tgt : Nat} (hg : decode M.2.1 pc = .ok (.ifnull off, 3)) (ht : (pc : Int) + off = (tgt : Int)) (k : se_W G l d M tgt L st h C S Φ) : se_W G l d M pc L (.null :: st) h C S Φ := by
  intro p e R s m args below meth c D dA A θ0 n0 mc ms θ H locs cells slots ls hs hd h1 h2 h3 h4
  exact lv_ifnullN hs.1 hs.2.1 hg ht (k p e R s m args below meth c D dA A θ0 n0 mc ms θ H locs cells slots ls hs (hd.stk (se_pop hd.wst)) h1 h2 h3 h4)
theorem se_ifnonnullN {off : Int} (hg : decode M.2.1 pc = .ok (.ifnonnull off, 3)) (k : se_W G l d M (pc + 3) L st h C S Φ) : se_W G l d M pc L (.null :: st) h C S Φ := by
  intro p e R s m args below meth c D dA A θ0 n0 mc ms θ H locs cells slots ls hs hd h1 h2 h3 h4
  exact lv_ifnonnullN hs.1 hs.2.1 hg (k p e R s m args below meth c D dA A θ0 n0 mc ms θ H locs cells slots ls hs (hd.stk (se_pop hd.wst)) h1 h2 h3 h4)
theorem se_istore_n {i : Fin 4} {x : Int32} (hg : decode M.2.1 pc = .ok (.istore_n i, 1)) (hi : (i : Nat) < M.2.2.1) (L' : List (Option Value)) (hL : se_s1 L (i : Nat) (.int x) = L') (k : se_W G l d M (pc + 1) L' st h C S Φ) : se_W G l d M pc L (.int x :: st) h C S Φ := by
  subst hL
  intro p e R s m args below meth c D dA A θ0 n0 mc ms θ H locs cells slots ls hs hd h1 h2 h3 h4 T hT X
  obtain ⟨ls', e', g'⟩ := se_store1 (v := .int x) hd.2.2.2.2.2.1 hi rfl
  obtain ⟨t, a, b⟩ := k p e R s m args below meth c D dA A θ0 n0 mc ms θ H locs cells slots ls' hs (hd.loc g' (se_wL_s1 hd.2.2.2.2.2.2.1 (hd.wst _ List.mem_cons_self)) (se_pop hd.wst)) h1 h2 h3 h4 T hT X
  refine ⟨t, ?_, b⟩
  have hexec := hs.1
  have hb := hs.2.1
  simp only [List.map_cons, se_v] at e' ⊢
  jvm_step X.here [X.here.top, ↓top_set X.here.top, hexec, hb, hg, e']
  exact a
theorem se_lstore_n {i : Fin 4} {x : Int64} (hg : decode M.2.1 pc = .ok (.lstore_n i, 1)) (hi : (i : Nat) + 1 < M.2.2.1) (L' : List (Option Value)) (hL : se_s2 L (i : Nat) (.long x) = L') (k : se_W G l d M (pc + 1) L' st h C S Φ) : se_W G l d M pc L (.long x :: st) h C S Φ := by
  subst hL
  intro p e R s m args below meth c D dA A θ0 n0 mc ms θ H locs cells slots ls hs hd h1 h2 h3 h4 T hT X
  obtain ⟨ls', e', g'⟩ := se_store2 (v := .long x) hd.2.2.2.2.2.1 hi rfl
  obtain ⟨t, a, b⟩ := k p e R s m args below meth c D dA A θ0 n0 mc ms θ H locs cells slots ls' hs (hd.loc g' (se_wL_s2 hd.2.2.2.2.2.2.1 (hd.wst _ List.mem_cons_self)) (se_pop hd.wst)) h1 h2 h3 h4 T hT X
  refine ⟨t, ?_, b⟩
  have hexec := hs.1
  have hb := hs.2.1
  simp only [List.map_cons, se_v] at e' ⊢
  jvm_step X.here [X.here.top, ↓top_set X.here.top, hexec, hb, hg, e']
  exact a
theorem se_astore_n {i : Fin 4} {x : Nat} (hg : decode M.2.1 pc = .ok (.astore_n i, 1)) (hi : (i : Nat) < M.2.2.1) (L' : List (Option Value)) (hL : se_s1 L (i : Nat) (.ref x) = L') (k : se_W G l d M (pc + 1) L' st h C S Φ) : se_W G l d M pc L (.ref x :: st) h C S Φ := by
  subst hL
  intro p e R s m args below meth c D dA A θ0 n0 mc ms θ H locs cells slots ls hs hd h1 h2 h3 h4 T hT X
  obtain ⟨ls', e', g'⟩ := se_store1 (v := .ref x) hd.2.2.2.2.2.1 hi rfl
  obtain ⟨t, a, b⟩ := k p e R s m args below meth c D dA A θ0 n0 mc ms θ H locs cells slots ls' hs (hd.loc g' (se_wL_s1 hd.2.2.2.2.2.2.1 (hd.wst _ List.mem_cons_self)) (se_pop hd.wst)) h1 h2 h3 h4 T hT X
  refine ⟨t, ?_, b⟩
  have hexec := hs.1
  have hb := hs.2.1
  simp only [List.map_cons, se_v] at e' ⊢
  jvm_step X.here [X.here.top, ↓top_set X.here.top, hexec, hb, hg, e', Value.isRef]
  exact a
theorem se_astore_nN {i : Fin 4}  (hg : decode M.2.1 pc = .ok (.astore_n i, 1)) (hi : (i : Nat) < M.2.2.1) (L' : List (Option Value)) (hL : se_s1 L (i : Nat) (.null) = L') (k : se_W G l d M (pc + 1) L' st h C S Φ) : se_W G l d M pc L (.null :: st) h C S Φ := by
  subst hL
  intro p e R s m args below meth c D dA A θ0 n0 mc ms θ H locs cells slots ls hs hd h1 h2 h3 h4 T hT X
  obtain ⟨ls', e', g'⟩ := se_store1 (v := .null) hd.2.2.2.2.2.1 hi rfl
  obtain ⟨t, a, b⟩ := k p e R s m args below meth c D dA A θ0 n0 mc ms θ H locs cells slots ls' hs (hd.loc g' (se_wL_s1 hd.2.2.2.2.2.2.1 (hd.wst _ List.mem_cons_self)) (se_pop hd.wst)) h1 h2 h3 h4 T hT X
  refine ⟨t, ?_, b⟩
  have hexec := hs.1
  have hb := hs.2.1
  simp only [List.map_cons, se_v] at e' ⊢
  jvm_step X.here [X.here.top, ↓top_set X.here.top, hexec, hb, hg, e', Value.isRef]
  exact a
theorem se_istore {i : Nat} {x : Int32} (hg : decode M.2.1 pc = .ok (.istore i, 2)) (hi : i < M.2.2.1) (L' : List (Option Value)) (hL : se_s1 L i (.int x) = L') (k : se_W G l d M (pc + 2) L' st h C S Φ) : se_W G l d M pc L (.int x :: st) h C S Φ := by
  subst hL
  intro p e R s m args below meth c D dA A θ0 n0 mc ms θ H locs cells slots ls hs hd h1 h2 h3 h4 T hT X
  obtain ⟨ls', e', g'⟩ := se_store1 (v := .int x) hd.2.2.2.2.2.1 hi rfl
  obtain ⟨t, a, b⟩ := k p e R s m args below meth c D dA A θ0 n0 mc ms θ H locs cells slots ls' hs (hd.loc g' (se_wL_s1 hd.2.2.2.2.2.2.1 (hd.wst _ List.mem_cons_self)) (se_pop hd.wst)) h1 h2 h3 h4 T hT X
  refine ⟨t, ?_, b⟩
  have hexec := hs.1
  have hb := hs.2.1
  simp only [List.map_cons, se_v] at e' ⊢
  jvm_step X.here [X.here.top, ↓top_set X.here.top, hexec, hb, hg, e']
  exact a
theorem se_lstore {i : Nat} {x : Int64} (hg : decode M.2.1 pc = .ok (.lstore i, 2)) (hi : i + 1 < M.2.2.1) (L' : List (Option Value)) (hL : se_s2 L i (.long x) = L') (k : se_W G l d M (pc + 2) L' st h C S Φ) : se_W G l d M pc L (.long x :: st) h C S Φ := by
  subst hL
  intro p e R s m args below meth c D dA A θ0 n0 mc ms θ H locs cells slots ls hs hd h1 h2 h3 h4 T hT X
  obtain ⟨ls', e', g'⟩ := se_store2 (v := .long x) hd.2.2.2.2.2.1 hi rfl
  obtain ⟨t, a, b⟩ := k p e R s m args below meth c D dA A θ0 n0 mc ms θ H locs cells slots ls' hs (hd.loc g' (se_wL_s2 hd.2.2.2.2.2.2.1 (hd.wst _ List.mem_cons_self)) (se_pop hd.wst)) h1 h2 h3 h4 T hT X
  refine ⟨t, ?_, b⟩
  have hexec := hs.1
  have hb := hs.2.1
  simp only [List.map_cons, se_v] at e' ⊢
  jvm_step X.here [X.here.top, ↓top_set X.here.top, hexec, hb, hg, e']
  exact a
theorem se_astore {i : Nat} {x : Nat} (hg : decode M.2.1 pc = .ok (.astore i, 2)) (hi : i < M.2.2.1) (L' : List (Option Value)) (hL : se_s1 L i (.ref x) = L') (k : se_W G l d M (pc + 2) L' st h C S Φ) : se_W G l d M pc L (.ref x :: st) h C S Φ := by
  subst hL
  intro p e R s m args below meth c D dA A θ0 n0 mc ms θ H locs cells slots ls hs hd h1 h2 h3 h4 T hT X
  obtain ⟨ls', e', g'⟩ := se_store1 (v := .ref x) hd.2.2.2.2.2.1 hi rfl
  obtain ⟨t, a, b⟩ := k p e R s m args below meth c D dA A θ0 n0 mc ms θ H locs cells slots ls' hs (hd.loc g' (se_wL_s1 hd.2.2.2.2.2.2.1 (hd.wst _ List.mem_cons_self)) (se_pop hd.wst)) h1 h2 h3 h4 T hT X
  refine ⟨t, ?_, b⟩
  have hexec := hs.1
  have hb := hs.2.1
  simp only [List.map_cons, se_v] at e' ⊢
  jvm_step X.here [X.here.top, ↓top_set X.here.top, hexec, hb, hg, e', Value.isRef]
  exact a
theorem se_astoreN {i : Nat}  (hg : decode M.2.1 pc = .ok (.astore i, 2)) (hi : i < M.2.2.1) (L' : List (Option Value)) (hL : se_s1 L i (.null) = L') (k : se_W G l d M (pc + 2) L' st h C S Φ) : se_W G l d M pc L (.null :: st) h C S Φ := by
  subst hL
  intro p e R s m args below meth c D dA A θ0 n0 mc ms θ H locs cells slots ls hs hd h1 h2 h3 h4 T hT X
  obtain ⟨ls', e', g'⟩ := se_store1 (v := .null) hd.2.2.2.2.2.1 hi rfl
  obtain ⟨t, a, b⟩ := k p e R s m args below meth c D dA A θ0 n0 mc ms θ H locs cells slots ls' hs (hd.loc g' (se_wL_s1 hd.2.2.2.2.2.2.1 (hd.wst _ List.mem_cons_self)) (se_pop hd.wst)) h1 h2 h3 h4 T hT X
  refine ⟨t, ?_, b⟩
  have hexec := hs.1
  have hb := hs.2.1
  simp only [List.map_cons, se_v] at e' ⊢
  jvm_step X.here [X.here.top, ↓top_set X.here.top, hexec, hb, hg, e', Value.isRef]
  exact a
theorem se_iinc {i : Nat} {n : Int} {x : Int32} (v : Int32) (hv : Int32.ofInt n = v) (hl : L[i]? = some (some (.int x))) (hg : decode M.2.1 pc = .ok (.iinc i n, 3)) (L' : List (Option Value)) (hL : se_s1 L i (.int (x + v)) = L') (k : se_W G l d M (pc + 3) L' st h C S Φ) : se_W G l d M pc L st h C S Φ := by
  intro p e R s m args below meth c D dA A θ0 n0 mc ms θ H locs cells slots ls hs hd h1 h2 h3 h4 T hT X
  subst hv
  subst hL
  have hi : i < M.2.2.1 := by rw [← hd.2.2.2.2.2.1.2.2.1]; exact (List.getElem?_eq_some_iff.mp hl).1
  obtain ⟨ls', e', g'⟩ := se_store1 (v := .int (x + Int32.ofInt n)) hd.2.2.2.2.2.1 hi rfl
  have hl9 : ls[i]? = some (.val (.int x)) := hd.2.2.2.2.2.1.2.2.2 _ _ hl
  obtain ⟨t, a, b⟩ := k p e R s m args below meth c D dA A θ0 n0 mc ms θ H locs cells slots ls' hs (hd.loc g' (se_wL_s1 hd.2.2.2.2.2.2.1 (se_i _ _)) hd.wst) h1 h2 h3 h4 T hT X
  refine ⟨t, ?_, b⟩
  have hexec := hs.1
  have hb := hs.2.1
  simp only [se_v] at e'
  jvm_step X.here [X.here.top, ↓top_set X.here.top, hexec, hb, hg, hl9, e']
  exact a
/-! ===== cells ===== -/
theorem se_Dy.P {D : va_G} {dA : FieldType → ClassId} {A : Nat → Prop} {θ0 : Nat → Nat} {n0 : Nat} {θ : Nat → Nat} {s : State} {H : Heap} {locs : List Loc} {ls : Array Slot} (hd : se_Dy G M D dA A θ0 n0 θ s h H locs L st ls) : va_P D G.1 (se_w dA θ h) H := hd.1
/-- one cell is another -/
theorem se_Dy.set {D : va_G} {dA : FieldType → ClassId} {A : Nat → Prop} {θ0 : Nat → Nat} {n0 : Nat} {θ : Nat → Nat} {s : State} {H H1 : Heap} {locs locs1 : List Loc} {ls : Array Slot} {st' : List Value} {a : Nat} {x : se_E} (hd : se_Dy G M D dA A θ0 n0 θ s h H locs L st ls) (hx : se_we h.length x) (hw : ∀ v ∈ st', se_wv h.length v)
    (hP : va_P D G.1 ((se_w dA θ h).set a (θ a, se_e dA θ x)) H1) (hD : va_D A ((se_w dA θ h).set a (θ a, se_e dA θ x))) (hS : va_S A s.heap H1 locs1) : se_Dy G M D dA A θ0 n0 θ s (h.set a x) H1 locs1 L st' ls := by
  obtain ⟨a1, a2, a3, a4, a5, a6, a7, a8, a9⟩ := hd
  rw [← se_w_set] at hP hD
  exact ⟨hP, hD, hS, se_wh_set a4 hx, by rw [List.length_set]; exact hw, a6, by rw [List.length_set]; exact a7, by rw [List.length_set]; exact a8, a9⟩
/-- one cell more -/
theorem se_Dy.grow {D : va_G} {dA : FieldType → ClassId} {A : Nat → Prop} {θ0 : Nat → Nat} {n0 : Nat} {θ : Nat → Nat} {s : State} {H H1 : Heap} {locs locs1 : List Loc} {ls : Array Slot} {st' : List Value} {q : Nat} {x : se_E} {y : va_E} (hd : se_Dy G M D dA A θ0 n0 θ s h H locs L st ls) (hx : ∀ n, se_we n x) (hy : ∀ θ, se_e dA θ x = y) (hw : ∀ v ∈ st', se_wv h.length v)
    (hP : va_P D G.1 (se_w dA θ h ++ [(q, y)]) H1) (hD : va_D A (se_w dA θ h ++ [(q, y)])) (hS : va_S A s.heap H1 locs1) : se_Dy G M D dA A θ0 n0 (va_up θ h.length q) s (h ++ [x]) H1 locs1 L (.ref h.length :: st') ls ∧ (Value.ref h.length :: st').map (se_v (va_up θ h.length q)) = .ref q :: st'.map (se_v θ) := by
  obtain ⟨a1, a2, a3, a4, a5, a6, a7, a8, a9⟩ := hd
  have hθ : ∀ k, k < h.length → va_up θ h.length q k = θ k := fun k hk => if_neg (Nat.ne_of_lt hk)
  have hq : va_up θ h.length q h.length = q := if_pos rfl
  have hl : (h ++ [x]).length = h.length + 1 := by simp
  have e := se_w_push (dA := dA) (e := x) a4 hθ hq
  rw [hy] at e
  rw [← e] at hP hD
  refine ⟨⟨hP, hD, hS, se_wh_push a4 (hx _), ?_, se_L_congr a6 a7 hθ, ?_, by omega, fun k hk => by rw [hθ k (by omega)]; exact a9 k hk⟩, ?_⟩
  · rw [hl]; exact se_push (se_r (by omega)) (fun v hv => se_wv_mono (hw v hv) (by omega))
  · rw [hl]; exact fun i v hv => se_wv_mono (a7 i v hv) (by omega)
  · show Value.ref (va_up θ h.length q h.length) :: st'.map (se_v (va_up θ h.length q)) = _
    rw [hq, se_vs_congr hw hθ]
/-- what is known of a class of ours -/
def se_cls (G : se_G) (ci : Nat) (C : String) (T : u_T) (N : Nat) (ty : Nat → FieldType) : Prop := G.1[ci]? = some (C, T, N) ∧ (∀ w ∈ u_ws C T N, w ∈ G.2.1) ∧ (∀ k, k < N → parseFieldDescriptor (T k).2.2.1 = some (ty k)) ∧ ∀ a, a < N → ∀ b, b < N → a ≠ b → (T a).2.1 ≠ (T b).2.1
theorem se_getf {C0 : String} {T : u_T} {N ci index : Nat} {ty : Nat → FieldType} (hc : se_cls G ci C0 T N ty) (k : Nat) {a : Nat} {fs : List Value} {v : Value} (hg : decode M.2.1 pc = .ok (.getfield index, 3)) (hl : Cond.fieldLink M.1.cls index C0 (T k).2.1 (T k).2.2.1 ∈ G.2.1) (hT : (T k).1 = C0) (hk : k < N) (ha : h[a]? = some (.inr (ci, fs))) (hv : fs[k]? = some v)
    (kk : se_W G l d M (pc + 3) L (v :: st) h C S Φ) : se_W G l d M pc L (.ref a :: st) h C S Φ := by
  intro p e R s m args below meth c D dA A θ0 n0 mc ms θ H locs cells slots ls hs hd h1 h2 h3 h4
  refine va_get (D := D) (ci := ci) (v := se_v θ v) (C := C0) (T := T) (N := N) hs.1 hs.2.1 hs.2.2.2.2.2.1 hc.2.1 hs.2.2.2.2.1 hs.2.2.2.2.2.2.2.2.1 hd.1 a (se_w_at ha) hc.1 k hk (hs.2.2.2.2.2.1 _ hl) (fun x h9 => by rwa [hT] at h9) (by rw [List.getElem?_map, hv]; rfl) hg ?_
  exact kk p e R s m args below meth c D dA A θ0 n0 mc ms θ H locs cells slots ls hs (hd.stk (se_push (hd.2.2.2.1 a _ ha v (List.mem_of_getElem? hv)) (se_pop hd.wst))) h1 h2 h3 h4
theorem se_map_set (θ : Nat → Nat) (fs : List Value) (k : Nat) (v : Value) : (fs.map (se_v θ)).set k (se_v θ v) = (fs.set k v).map (se_v θ) := List.map_set.symm
theorem se_we_set {n ci : Nat} {fs : List Value} {k : Nat} {v : Value} (h : se_we n (.inr (ci, fs))) (hv : se_wv n v) : se_we n (.inr (ci, fs.set k v)) := fun w hw => (List.mem_or_eq_of_mem_set hw).elim (h w) (fun e => by rw [e]; exact hv)
theorem se_putf {C0 : String} {T : u_T} {N ci index : Nat} {ty : Nat → FieldType} (hc : se_cls G ci C0 T N ty) (k : Nat) {a : Nat} {fs : List Value} {v : Value} (hg : decode M.2.1 pc = .ok (.putfield index, 3)) (hl : Cond.fieldLink M.1.cls index C0 (T k).2.1 (T k).2.2.1 ∈ G.2.1) (hT : (T k).1 = C0) (hk : k < N) (hfin : (T k).2.2.2 = false) (hn : ∀ θ, narrow (ty k) (se_v θ v) = se_v θ v ∧ fits (ty k) (se_v θ v) = true) (ha : h[a]? = some (.inr (ci, fs))) (hkl : k < fs.length)
    (kk : se_W G l d M (pc + 3) L st (h.set a (.inr (ci, fs.set k v))) C S Φ) : se_W G l d M pc L (v :: .ref a :: st) h C S Φ := by
  intro p e R s m args below meth c D dA A θ0 n0 mc ms θ H locs cells slots ls hs hd h1 h2 h3 h4
  refine va_put (D := D) (ci := ci) (v := se_v θ v) (ty := ty k) (C := C0) (T := T) (N := N) hs.1 hs.2.1 hs.2.2.2.2.2.1 hc.2.1 ty hc.2.2.1 hc.2.2.2 hs.2.2.2.2.1 hs.2.2.2.2.2.2.2.2.1 hd.1 hd.2.1 hd.2.2.1 a (se_w_at ha) hc.1 k hk (hs.2.2.2.2.2.1 _ hl) (fun x h9 => by rwa [hT] at h9) hfin (hc.2.2.1 k hk) (hn θ).1 (hn θ).2 (by rw [List.length_map]; exact hkl) hg (fun H1 locs1 hP hD hS => ?_)
  rw [se_map_set] at hP hD
  exact kk p e R s m args below meth c D dA A θ0 n0 mc ms θ H1 locs1 cells slots ls hs (hd.set (x := .inr (ci, fs.set k v)) (se_we_set (hd.2.2.2.1 a _ ha) (hd.wst v List.mem_cons_self)) (se_pop (se_pop hd.wst)) hP hD hS) h1 h2 h3 h4
theorem se_putF {C0 : String} {T : u_T} {N ci index : Nat} {ty : Nat → FieldType} (hc : se_cls G ci C0 T N ty) (k : Nat) {a : Nat} {fs : List Value} {v : Value} (hg : decode M.2.1 pc = .ok (.putfield index, 3)) (hl : Cond.fieldLink M.1.cls index C0 (T k).2.1 (T k).2.2.1 ∈ G.2.1) (hT : (T k).1 = C0) (hk : k < N) (hfin : (T k).2.2.2 = true) (hMi : M.1.name = "<init>") (hMc : M.1.cls = C0) (hn : ∀ θ, narrow (ty k) (se_v θ v) = se_v θ v ∧ fits (ty k) (se_v θ v) = true) (ha : h[a]? = some (.inr (ci, fs))) (hkl : k < fs.length)
    (kk : se_W G l d M (pc + 3) L st (h.set a (.inr (ci, fs.set k v))) C S Φ) : se_W G l d M pc L (v :: .ref a :: st) h C S Φ := by
  intro p e R s m args below meth c D dA A θ0 n0 mc ms θ H locs cells slots ls hs hd h1 h2 h3 h4
  have hin : meth.name = "<init>" := by rw [hs.2.2.2.2.2.2.2.2.2.2.2.2.1]; exact hMi
  refine va_putF (D := D) (ci := ci) (v := se_v θ v) (ty := ty k) (C := C0) (T := T) (N := N) hs.1 hs.2.1 hs.2.2.2.2.2.1 hc.2.1 ty hc.2.2.1 hc.2.2.2 hs.2.2.2.2.1 hs.2.2.2.2.2.2.2.2.1 hd.1 hd.2.1 hd.2.2.1 a (se_w_at ha) hc.1 k hk (hs.2.2.2.2.2.1 _ hl) (fun x h9 => by rwa [hT] at h9) hfin hin (by rw [hT]; exact hMc.symm) (hc.2.2.1 k hk) (hn θ).1 (hn θ).2 (by rw [List.length_map]; exact hkl) hg (fun H1 locs1 hP hD hS => ?_)
  rw [se_map_set] at hP hD
  exact kk p e R s m args below meth c D dA A θ0 n0 mc ms θ H1 locs1 cells slots ls hs (hd.set (x := .inr (ci, fs.set k v)) (se_we_set (hd.2.2.2.1 a _ ha) (hd.wst v List.mem_cons_self)) (se_pop (se_pop hd.wst)) hP hD hS) h1 h2 h3 h4
/-- a value that isn't a cell -/
def se_nr : Value → Bool
  | .ref _ => false
  | .retAddr _ => false
  | _ => true
theorem se_new {C0 : String} {T : u_T} {N ci index : Nat} {ty : Nat → FieldType} (hc : se_cls G ci C0 T N ty) (fs : List Value) {C' S' : Nat} (hg : decode M.2.1 pc = .ok (.new index, 3)) (hl : Cond.classLink M.1.cls index C0 ∈ G.2.1) (hin : Cond.instantiable C0 N ∈ G.2.1) (hini : Cond.initialized C0 ∈ G.2.1) (hfs : ∀ j, j < N → defaultValue (ty j) = vp_V fs j) (hnr : fs.all se_nr = true) (hC : C' + 1 ≤ C) (hS : S' + N ≤ S)
    (kk : se_W G l d M (pc + 3) L (.ref h.length :: st) (h ++ [.inr (ci, fs)]) C' S' Φ) : se_W G l d M pc L st h C S Φ := by
  intro p e R s m args below meth c D dA A θ0 n0 mc ms θ H locs cells slots ls hs hd h1 h2 h3 h4
  refine va_new (ci := ci) (fs := fs) (C := C0) (T := T) (N := N) hs.1 hs.2.1 hs.2.2.2.2.2.1 hc.2.1 ty hc.2.2.1 hs.2.2.2.2.1 (hs.2.2.2.2.2.1 _ hl) (hs.2.2.2.2.2.1 _ hin) (hs.2.2.2.2.2.1 _ hini) hs.2.2.2.2.2.2.2.2.1 hd.1 hd.2.1 hd.2.2.1 hs.2.2.2.2.2.2.2.2.2.1 hc.1 hfs (by omega) (by omega) hg (fun q H1 hP hD hS1 => ?_)
  have hmap : ∀ θ, fs.map (se_v θ) = fs := fun θ => by
    rw [List.map_congr_left (g := id) (fun v hv => ?_), List.map_id]
    have h9 := List.all_eq_true.mp hnr v hv
    cases v with
    | ref k => cases h9
    | retAddr k => cases h9
    | _ => rfl
  obtain ⟨g1, g2⟩ := hd.grow (x := .inr (ci, fs)) (fun n v hv k hk => by have h9 := List.all_eq_true.mp hnr v hv; rw [hk] at h9; cases h9) (fun θ => by show Sum.inr (ci, fs.map (se_v θ)) = _; rw [hmap]) hd.wst hP hD hS1
  rw [← g2]
  exact kk p e R s m args below meth c D dA A θ0 n0 mc ms _ H1 locs (cells + 1) (slots + N) ls hs g1 (by omega) (by omega) h3 h4
theorem se_tys_at {dA : FieldType → ClassId} {t0 : Nat} {ty : FieldType} (ht : G.2.2.1[t0]? = some ty) : (se_tys G dA)[t0]? = some (dA ty, ty) := by
  rw [se_tys, List.getElem?_map, ht]; rfl
/-- the array types that we make: ints, longs, booleans -/
def se_a0 (ty : FieldType) (N : Nat) : vp_A := match ty with
  | .long => (N, .inr (.inl (fun _ => 0)))
  | _ => (N, .inl (fun _ => 0))
theorem se_newa {atype : ArrayType} {ty : FieldType} (t0 : Nat) {n : Int32} {N C' S' : Nat} (hg : decode M.2.1 pc = .ok (.newarray atype, 2)) (hty : newarray.typeOf atype = ty) (hp : ty = .int ∨ ty = .long ∨ ty = .boolean) (ht : G.2.2.1[t0]? = some ty) (hl : Cond.arrayClass ty ∈ G.2.1) (hn : ¬ n < 0) (hN : n.toNatClampNeg = N) (hb : N ≤ 1000000) (hC : C' + 1 ≤ C) (hS : S' + N ≤ S)
    (kk : se_W G l d M (pc + 2) L (.ref h.length :: st) (h ++ [.inl (ty, se_a0 ty N)]) C' S' Φ) : se_W G l d M pc L (.int n :: st) h C S Φ := by
  intro p e R s m args below meth c D dA A θ0 n0 mc ms θ H locs cells slots ls hs hd h1 h2 h3 h4
  have hcell : ∀ cA : ClassId, vp_cell cA (se_a0 ty N) = arrV cA N (fun _ => defaultValue ty) := by
    rcases hp with rfl | rfl | rfl <;> exact fun cA => rfl
  have hbytes : N * componentBytes ty ≤ 536870912 := by
    rcases hp with rfl | rfl | rfl <;> simp [componentBytes] <;> omega
  refine va_newa (a0 := se_a0 ty N) hs.1 hs.2.1 (by rw [hty]; exact hs.2.2.2.2.2.1 _ hl) hty hs.2.2.2.2.2.2.2.2.1 hd.1 hd.2.1 hd.2.2.1 hs.2.2.2.2.2.2.2.2.2.1 hcell hn hN hbytes (by omega) (by omega) hg (fun q cA H1 hK hP hD hS1 => ?_)
  have e1 : va_RA s cA ty := (hK.2 (se_tys G dA).length (cA, ty) (by rw [List.getElem?_append_right (Nat.le_refl _)]; simp)).2
  have e2 : va_RA s (dA ty) ty := (hs.2.2.2.2.2.2.2.2.1.2 t0 _ (se_tys_at ht)).2
  have e3 : cA = dA ty := by
    rcases hp with rfl | rfl | rfl <;> exact Option.some.inj (Eq.trans (Eq.symm e1) e2)
  subst e3
  obtain ⟨g1, g2⟩ := hd.grow (x := .inl (ty, se_a0 ty N)) (fun n m f hf => by rcases hp with rfl | rfl | rfl <;> cases hf) (fun θ => by rcases hp with rfl | rfl | rfl <;> rfl) (se_pop hd.wst) hP hD hS1
  rw [← g2]
  exact kk p e R s m args below meth c D dA A θ0 n0 mc ms _ H1 locs (cells + 1) (slots + N) ls hs g1 (by omega) (by omega) h3 h4
theorem se_newq {C0 : String} {index : Nat} (t0 : Nat) {n : Int32} {N C' S' : Nat} (hg : decode M.2.1 pc = .ok (.anewarray index, 3)) (ht : G.2.2.1[t0]? = some (.object C0)) (hl : Cond.classLink M.1.cls index C0 ∈ G.2.1) (ho : Cond.arrayOver (.object C0) ∈ G.2.2.2.2.1) (hn : ¬ n < 0) (hN : n.toNatClampNeg = N) (hb : N ≤ 1000000) (hC : C' + 1 ≤ C) (hS : S' + N ≤ S)
    (kk : se_W G l d M (pc + 3) L (.ref h.length :: st) (h ++ [.inl (.object C0, (N, .inr (.inr (.inr (.inr (fun _ => none))))))]) C' S' Φ) : se_W G l d M pc L (.int n :: st) h C S Φ := by
  intro p e R s m args below meth c D dA A θ0 n0 mc ms θ H locs cells slots ls hs hd h1 h2 h3 h4
  refine va_newq (C := C0) hs.1 hs.2.1 hs.2.2.2.2.1 (hs.2.2.2.2.2.1 _ hl) (hs.2.2.2.2.2.2.2.2.2.2.1.2.2.2.1 _ ho) hs.2.2.2.2.2.2.2.2.1 hd.1 hd.2.1 hd.2.2.1 hs.2.2.2.2.2.2.2.2.2.1 hn hN (by omega) (by omega) (by omega) hg (fun q cA H1 hK hP hD hS1 => ?_)
  have e1 : va_RA s cA (.object C0) := (hK.2 (se_tys G dA).length (cA, .object C0) (by rw [List.getElem?_append_right (Nat.le_refl _)]; simp)).2
  have e2 : va_RA s (dA (.object C0)) (.object C0) := (hs.2.2.2.2.2.2.2.2.1.2 t0 _ (se_tys_at ht)).2
  have e3 : cA = dA (.object C0) := by
    obtain ⟨_, _, -, -, -, x1⟩ := e1
    obtain ⟨_, _, -, -, -, x2⟩ := e2
    exact Option.some.inj (x1.symm.trans x2)
  subst e3
  obtain ⟨g1, g2⟩ := hd.grow (x := .inl (.object C0, (N, .inr (.inr (.inr (.inr (fun _ => none))))))) (fun n m f hf j k hk => by cases hf; cases hk) (fun θ => rfl) (se_pop hd.wst) hP hD hS1
  rw [← g2]
  exact kk p e R s m args below meth c D dA A θ0 n0 mc ms _ H1 locs (cells + 1) (slots + N) ls hs g1 (by omega) (by omega) h3 h4
theorem se_iald (t0 : Nat) {a n : Nat} {f : Nat → Int32} {i : Int32} (hg : decode M.2.1 pc = .ok (.iaload, 1)) (ht : G.2.2.1[t0]? = some .int) (ha : h[a]? = some (.inl (.int, (n, .inl f)))) (hin : vp_in i n) (kk : se_W G l d M (pc + 1) L (.int (f i.toNatClampNeg) :: st) h C S Φ) : se_W G l d M pc L (.int i :: .ref a :: st) h C S Φ := by
  intro p e R s m args below meth c D dA A θ0 n0 mc ms θ H locs cells slots ls hs hd h1 h2 h3 h4
  exact va_iald hs.1 hs.2.1 hs.2.2.2.2.2.2.2.2.1 hd.1 a t0 (se_w_at ha) (se_tys_at ht) hin hg (kk p e R s m args below meth c D dA A θ0 n0 mc ms θ H locs cells slots ls hs (hd.stk (se_push (se_i _ _) (se_pop (se_pop hd.wst)))) h1 h2 h3 h4)
theorem se_zald (t0 : Nat) {a n : Nat} {f : Nat → Int32} {i : Int32} (hg : decode M.2.1 pc = .ok (.baload, 1)) (ht : G.2.2.1[t0]? = some .boolean) (ha : h[a]? = some (.inl (.boolean, (n, .inl f)))) (hin : vp_in i n) (kk : se_W G l d M (pc + 1) L (.int (f i.toNatClampNeg) :: st) h C S Φ) : se_W G l d M pc L (.int i :: .ref a :: st) h C S Φ := by
  intro p e R s m args below meth c D dA A θ0 n0 mc ms θ H locs cells slots ls hs hd h1 h2 h3 h4
  exact va_zald hs.1 hs.2.1 hs.2.2.2.2.2.2.2.2.1 hd.1 a t0 (se_w_at ha) (se_tys_at ht) hin hg (kk p e R s m args below meth c D dA A θ0 n0 mc ms θ H locs cells slots ls hs (hd.stk (se_push (se_i _ _) (se_pop (se_pop hd.wst)))) h1 h2 h3 h4)
theorem se_lald (t0 : Nat) {a n : Nat} {f : Nat → Int64} {i : Int32} (hg : decode M.2.1 pc = .ok (.laload, 1)) (ht : G.2.2.1[t0]? = some .long) (ha : h[a]? = some (.inl (.long, (n, .inr (.inl f))))) (hin : vp_in i n) (kk : se_W G l d M (pc + 1) L (.long (f i.toNatClampNeg) :: st) h C S Φ) : se_W G l d M pc L (.int i :: .ref a :: st) h C S Φ := by
  intro p e R s m args below meth c D dA A θ0 n0 mc ms θ H locs cells slots ls hs hd h1 h2 h3 h4
  exact va_lald hs.1 hs.2.1 hs.2.2.2.2.2.2.2.2.1 hd.1 a t0 (se_w_at ha) (se_tys_at ht) hin hg (kk p e R s m args below meth c D dA A θ0 n0 mc ms θ H locs cells slots ls hs (hd.stk (se_push (se_j _ _) (se_pop (se_pop hd.wst)))) h1 h2 h3 h4)
theorem se_iast (t0 : Nat) {a n : Nat} {f : Nat → Int32} {i : Int32} {x : Int32} (hg : decode M.2.1 pc = .ok (.iastore, 1)) (ht : G.2.2.1[t0]? = some .int) (ha : h[a]? = some (.inl (.int, (n, .inl f)))) (hin : vp_in i n) (kk : se_W G l d M (pc + 1) L st (h.set a (.inl (.int, (n, .inl (upd f i.toNatClampNeg x))))) C S Φ) : se_W G l d M pc L (.int x :: .int i :: .ref a :: st) h C S Φ := by
  intro p e R s m args below meth c D dA A θ0 n0 mc ms θ H locs cells slots ls hs hd h1 h2 h3 h4
  refine va_iast hs.1 hs.2.1 hs.2.2.2.2.2.2.2.2.1 hd.1 hd.2.1 hd.2.2.1 a t0 (se_w_at ha) (se_tys_at ht) hin hg (fun H1 locs1 hP hD hS => ?_)
  exact kk p e R s m args below meth c D dA A θ0 n0 mc ms θ H1 locs1 cells slots ls hs (hd.set (x := .inl (.int, (n, .inl (upd f i.toNatClampNeg x)))) (fun m f hf => by cases hf) (se_pop (se_pop (se_pop hd.wst))) hP hD hS) h1 h2 h3 h4
theorem se_zast (t0 : Nat) {a n : Nat} {f : Nat → Int32} {i : Int32} {x : Int32} (hg : decode M.2.1 pc = .ok (.bastore, 1)) (ht : G.2.2.1[t0]? = some .boolean) (ha : h[a]? = some (.inl (.boolean, (n, .inl f)))) (hin : vp_in i n) (kk : se_W G l d M (pc + 1) L st (h.set a (.inl (.boolean, (n, .inl (upd f i.toNatClampNeg (vp_nar .boolean x)))))) C S Φ) : se_W G l d M pc L (.int x :: .int i :: .ref a :: st) h C S Φ := by
  intro p e R s m args below meth c D dA A θ0 n0 mc ms θ H locs cells slots ls hs hd h1 h2 h3 h4
  refine va_zast hs.1 hs.2.1 hs.2.2.2.2.2.2.2.2.1 hd.1 hd.2.1 hd.2.2.1 a t0 (se_w_at ha) (se_tys_at ht) hin hg (fun H1 locs1 hP hD hS => ?_)
  exact kk p e R s m args below meth c D dA A θ0 n0 mc ms θ H1 locs1 cells slots ls hs (hd.set (x := .inl (.boolean, (n, .inl (upd f i.toNatClampNeg (vp_nar .boolean x))))) (fun m f hf => by cases hf) (se_pop (se_pop (se_pop hd.wst))) hP hD hS) h1 h2 h3 h4
theorem se_last (t0 : Nat) {a n : Nat} {f : Nat → Int64} {i : Int32} {x : Int64} (hg : decode M.2.1 pc = .ok (.lastore, 1)) (ht : G.2.2.1[t0]? = some .long) (ha : h[a]? = some (.inl (.long, (n, .inr (.inl f))))) (hin : vp_in i n) (kk : se_W G l d M (pc + 1) L st (h.set a (.inl (.long, (n, .inr (.inl (vp_updL f i.toNatClampNeg x)))))) C S Φ) : se_W G l d M pc L (.long x :: .int i :: .ref a :: st) h C S Φ := by
  intro p e R s m args below meth c D dA A θ0 n0 mc ms θ H locs cells slots ls hs hd h1 h2 h3 h4
  refine va_last hs.1 hs.2.1 hs.2.2.2.2.2.2.2.2.1 hd.1 hd.2.1 hd.2.2.1 a t0 (se_w_at ha) (se_tys_at ht) hin hg (fun H1 locs1 hP hD hS => ?_)
  exact kk p e R s m args below meth c D dA A θ0 n0 mc ms θ H1 locs1 cells slots ls hs (hd.set (x := .inl (.long, (n, .inr (.inl (vp_updL f i.toNatClampNeg x))))) (fun m f hf => by cases hf) (se_pop (se_pop (se_pop hd.wst))) hP hD hS) h1 h2 h3 h4
theorem se_rf (θ : Nat → Nat) (r : Option Nat) : va_rf (r.map θ) = se_v θ (va_rf r) := by cases r <;> rfl
theorem se_aald {C0 : String} (t0 : Nat) {a n : Nat} {f : Nat → Option Nat} {i : Int32} (hg : decode M.2.1 pc = .ok (.aaload, 1)) (ht : G.2.2.1[t0]? = some (.object C0)) (ha : h[a]? = some (.inl (.object C0, (n, .inr (.inr (.inr (.inr f))))))) (hin : vp_in i n) (kk : se_W G l d M (pc + 1) L (va_rf (f i.toNatClampNeg) :: st) h C S Φ) : se_W G l d M pc L (.int i :: .ref a :: st) h C S Φ := by
  intro p e R s m args below meth c D dA A θ0 n0 mc ms θ H locs cells slots ls hs hd h1 h2 h3 h4
  refine va_aldq hs.1 hs.2.1 hs.2.2.2.2.2.2.2.2.1 hd.1 a t0 (se_w_at ha) (se_tys_at ht) hin hg ?_
  rw [se_rf]
  refine kk p e R s m args below meth c D dA A θ0 n0 mc ms θ H locs cells slots ls hs (hd.stk (se_push (fun k hk => ?_) (se_pop (se_pop hd.wst)))) h1 h2 h3 h4
  cases hf : f i.toNatClampNeg with
  | none => rw [hf] at hk; cases hk
  | some y => rw [hf] at hk; cases hk; exact hd.2.2.2.1 a _ ha n f rfl _ _ hf
theorem se_a_up (θ : Nat → Nat) (f : Nat → Option Nat) (k v : Nat) : va_up (fun j => (f j).map θ) k (some (θ v)) = fun j => (va_up f k (some v) j).map θ := by
  funext j
  by_cases hj : j = k <;> simp [va_up, hj]
theorem se_aast {C0 : String} {T : u_T} {N ci : Nat} (t0 : Nat) {a n v : Nat} {f : Nat → Option Nat} {i : Int32} {vs : List Value} (hg : decode M.2.1 pc = .ok (.aastore, 1)) (ht : G.2.2.1[t0]? = some (.object C0)) (hc : G.1[ci]? = some (C0, T, N)) (ha : h[a]? = some (.inl (.object C0, (n, .inr (.inr (.inr (.inr f))))))) (hv : h[v]? = some (.inr (ci, vs))) (hin : vp_in i n) (kk : se_W G l d M (pc + 1) L st (h.set a (.inl (.object C0, (n, .inr (.inr (.inr (.inr (va_up f i.toNatClampNeg (some v)))))))))  C S Φ) : se_W G l d M pc L (.ref v :: .int i :: .ref a :: st) h C S Φ := by
  intro p e R s m args below meth c D dA A θ0 n0 mc ms θ H locs cells slots ls hs hd h1 h2 h3 h4
  refine va_astq (r := (C0, T, N)) hs.1 hs.2.1 hs.2.2.2.2.2.2.2.2.1 hd.1 hd.2.1 hd.2.2.1 a t0 v ci (se_w_at ha) (se_tys_at ht) (se_w_at hv) hc hin hg (fun H1 locs1 hP hD hS => ?_)
  rw [se_a_up] at hP hD
  refine kk p e R s m args below meth c D dA A θ0 n0 mc ms θ H1 locs1 cells slots ls hs (hd.set (x := .inl (.object C0, (n, .inr (.inr (.inr (.inr (va_up f i.toNatClampNeg (some v)))))))) (fun m g hf j k hk => ?_) (se_pop (se_pop (se_pop hd.wst))) hP hD hS) h1 h2 h3 h4
  cases hf
  by_cases hj : j = i.toNatClampNeg
  · rw [hj] at hk; simp only [va_up, if_true] at hk; cases hk; exact hd.wst _ List.mem_cons_self v rfl
  · simp only [va_up, if_neg hj] at hk; exact hd.2.2.2.1 a _ ha n f rfl _ _ hk
theorem se_alen {ty : FieldType} (t0 : Nat) {a : Nat} {x : vp_A} (hg : decode M.2.1 pc = .ok (.arraylength, 1)) (ht : G.2.2.1[t0]? = some ty) (ha : h[a]? = some (.inl (ty, x))) (kk : se_W G l d M (pc + 1) L (.int (Int32.ofNat x.1) :: st) h C S Φ) : se_W G l d M pc L (.ref a :: st) h C S Φ := by
  intro p e R s m args below meth c D dA A θ0 n0 mc ms θ H locs cells slots ls hs hd h1 h2 h3 h4
  refine va_alen hs.1 hs.2.1 hs.2.2.2.2.2.2.2.2.1 hd.1 a t0 (se_w_at ha) (se_tys_at ht) (v := Int32.ofNat x.1) ?_ hg (kk p e R s m args below meth c D dA A θ0 n0 mc ms θ H locs cells slots ls hs (hd.stk (se_push (se_i _ _) (se_pop hd.wst))) h1 h2 h3 h4)
  obtain ⟨n, x⟩ := x
  rcases x with f | f | f | f | f <;> rfl
theorem se_acmp_eq {rx ry : Option Nat} {off : Int} {tgt : Nat} (hg : decode M.2.1 pc = .ok (.if_acmp .eq off, 3)) (ht : (pc : Int) + off = (tgt : Int)) (kt : rx = ry → se_W G l d M tgt L st h C S Φ) (kf : ¬ rx = ry → se_W G l d M (pc + 3) L st h C S Φ) : se_W G l d M pc L (va_rf ry :: va_rf rx :: st) h C S Φ := by
  intro p e R s m args below meth c D dA A θ0 n0 mc ms θ H locs cells slots ls hs hd h1 h2 h3 h4
  have inj : rx.map θ = ry.map θ ↔ rx = ry := by
    refine ⟨fun q => ?_, fun q => by rw [q]⟩
    have g : ∀ (r : Option Nat) (k : Nat), va_rf r ∈ va_rf ry :: va_rf rx :: st → r = some k → ∃ e, h[k]? = some e := fun r k hm hr => by
      have := hd.wst _ hm k (by rw [hr]; rfl)
      exact ⟨h[k], List.getElem?_eq_getElem this⟩
    cases hx : rx with
    | none => cases hy : ry with
      | none => rfl
      | some y => rw [hx, hy] at q; cases q
    | some x => cases hy : ry with
      | none => rw [hx, hy] at q; cases q
      | some y =>
        obtain ⟨e1, g1⟩ := g rx x (List.mem_cons_of_mem _ List.mem_cons_self) hx
        obtain ⟨e2, g2⟩ := g ry y List.mem_cons_self hy
        rw [hx, hy] at q
        have q2 : θ x = θ y := Option.some.inj q
        rw [hd.2.1.1 x y _ _ (se_w_at g1) (se_w_at g2) q2]
  have e9 : (va_rf ry :: va_rf rx :: st).map (se_v θ) = va_rf (ry.map θ) :: va_rf (rx.map θ) :: st.map (se_v θ) := by rw [se_rf, se_rf]; rfl
  rw [e9]
  exact lv_acmp_eq hs.1 hs.2.1 hg ht (fun q => kt (inj.mp q) p e R s m args below meth c D dA A θ0 n0 mc ms θ H locs cells slots ls hs (hd.stk (se_pop (se_pop hd.wst))) h1 h2 h3 h4) (fun q => kf (fun z => q (inj.mpr z)) p e R s m args below meth c D dA A θ0 n0 mc ms θ H locs cells slots ls hs (hd.stk (se_pop (se_pop hd.wst))) h1 h2 h3 h4)
theorem se_acmp_ne {rx ry : Option Nat} {off : Int} {tgt : Nat} (hg : decode M.2.1 pc = .ok (.if_acmp .ne off, 3)) (ht : (pc : Int) + off = (tgt : Int)) (kt : ¬ rx = ry → se_W G l d M tgt L st h C S Φ) (kf : rx = ry → se_W G l d M (pc + 3) L st h C S Φ) : se_W G l d M pc L (va_rf ry :: va_rf rx :: st) h C S Φ := by
  intro p e R s m args below meth c D dA A θ0 n0 mc ms θ H locs cells slots ls hs hd h1 h2 h3 h4
  have inj : rx.map θ = ry.map θ ↔ rx = ry := by
    refine ⟨fun q => ?_, fun q => by rw [q]⟩
    have g : ∀ (r : Option Nat) (k : Nat), va_rf r ∈ va_rf ry :: va_rf rx :: st → r = some k → ∃ e, h[k]? = some e := fun r k hm hr => by
      have := hd.wst _ hm k (by rw [hr]; rfl)
      exact ⟨h[k], List.getElem?_eq_getElem this⟩
    cases hx : rx with
    | none => cases hy : ry with
      | none => rfl
      | some y => rw [hx, hy] at q; cases q
    | some x => cases hy : ry with
      | none => rw [hx, hy] at q; cases q
      | some y =>
        obtain ⟨e1, g1⟩ := g rx x (List.mem_cons_of_mem _ List.mem_cons_self) hx
        obtain ⟨e2, g2⟩ := g ry y List.mem_cons_self hy
        rw [hx, hy] at q
        have q2 : θ x = θ y := Option.some.inj q
        rw [hd.2.1.1 x y _ _ (se_w_at g1) (se_w_at g2) q2]
  have e9 : (va_rf ry :: va_rf rx :: st).map (se_v θ) = va_rf (ry.map θ) :: va_rf (rx.map θ) :: st.map (se_v θ) := by rw [se_rf, se_rf]; rfl
  rw [e9]
  exact lv_acmp_ne hs.1 hs.2.1 hg ht (fun q => kt (fun z => q (inj.mpr z)) p e R s m args below meth c D dA A θ0 n0 mc ms θ H locs cells slots ls hs (hd.stk (se_pop (se_pop hd.wst))) h1 h2 h3 h4) (fun q => kf (inj.mp q) p e R s m args below meth c D dA A θ0 n0 mc ms θ H locs cells slots ls hs (hd.stk (se_pop (se_pop hd.wst))) h1 h2 h3 h4)
theorem se_tableIn {dflt lo hi : Int} {offs : Array Int} {len : Nat} {x : Int32} {off : Int} {tgt : Nat} (hg : decode M.2.1 pc = .ok (.tableswitch dflt lo hi offs, len)) (x1 : ¬ x.toInt < lo) (x2 : ¬ hi < x.toInt) (ho : offs[(x.toInt - lo).toNat]? = some off) (ht : (pc : Int) + off = (tgt : Int)) (k : se_W G l d M tgt L st h C S Φ) : se_W G l d M pc L (.int x :: st) h C S Φ := by
  intro p e R s m args below meth c D dA A θ0 n0 mc ms θ H locs cells slots ls hs hd h1 h2 h3 h4
  exact lv_tableIn hs.1 hs.2.1 hg x1 x2 ho ht (k p e R s m args below meth c D dA A θ0 n0 mc ms θ H locs cells slots ls hs (hd.stk (se_pop hd.wst)) h1 h2 h3 h4)
theorem se_tableOut {dflt lo hi : Int} {offs : Array Int} {len : Nat} {x : Int32} {tgt : Nat} (hg : decode M.2.1 pc = .ok (.tableswitch dflt lo hi offs, len)) (x1 : x.toInt < lo ∨ hi < x.toInt) (ht : (pc : Int) + dflt = (tgt : Int)) (k : se_W G l d M tgt L st h C S Φ) : se_W G l d M pc L (.int x :: st) h C S Φ := by
  intro p e R s m args below meth c D dA A θ0 n0 mc ms θ H locs cells slots ls hs hd h1 h2 h3 h4
  exact lv_tableOut hs.1 hs.2.1 hg x1 ht (k p e R s m args below meth c D dA A θ0 n0 mc ms θ H locs cells slots ls hs (hd.stk (se_pop hd.wst)) h1 h2 h3 h4)
theorem se_lookup {dflt : Int} {ps : Array (Int × Int)} {len : Nat} {x : Int32} {off : Int} {tgt : Nat} (hg : decode M.2.1 pc = .ok (.lookupswitch dflt ps, len)) (hp : (ps.toList.zip (ps.toList.drop 1)).all (fun (a, next) => a.1 < next.1) = true) (ho : Op.lookupswitch.offset ps.toList dflt x.toInt = off) (ht : (pc : Int) + off = (tgt : Int)) (k : se_W G l d M tgt L st h C S Φ) : se_W G l d M pc L (.int x :: st) h C S Φ := by
  intro p e R s m args below meth c D dA A θ0 n0 mc ms θ H locs cells slots ls hs hd h1 h2 h3 h4
  exact lv_lookup hs.1 hs.2.1 hg hp ho ht (k p e R s m args below meth c D dA A θ0 n0 mc ms θ H locs cells slots ls hs (hd.stk (se_pop hd.wst)) h1 h2 h3 h4)
theorem se_ldc {index : Nat} (v : Int32) (hg : decode M.2.1 pc = .ok (.ldc index, 2)) (hl : Cond.constant M.1.cls index v ∈ G.2.1) (k : se_W G l d M (pc + 2) L (.int v :: st) h C S Φ) : se_W G l d M pc L st h C S Φ := by
  intro p e R s m args below meth c D dA A θ0 n0 mc ms θ H locs cells slots ls hs hd h1 h2 h3 h4
  exact W.ldc hs.1 hs.2.1 hs.2.2.2.2.1 (hs.2.2.2.2.2.1 _ hl) rfl hg (k p e R s m args below meth c D dA A θ0 n0 mc ms θ H locs cells slots ls hs (hd.stk (se_push (se_i _ _) hd.wst)) h1 h2 h3 h4)
theorem se_ldc2 {index : Nat} (v : Int64) (hg : decode M.2.1 pc = .ok (.ldc2_w index, 3)) (hl : Cond.constantLong M.1.cls index v ∈ G.2.1) (k : se_W G l d M (pc + 3) L (.long v :: st) h C S Φ) : se_W G l d M pc L st h C S Φ := by
  intro p e R s m args below meth c D dA A θ0 n0 mc ms θ H locs cells slots ls hs hd h1 h2 h3 h4
  exact W.ldc2 hs.1 hs.2.1 hs.2.2.2.2.1 (hs.2.2.2.2.2.1 _ hl) rfl hg (k p e R s m args below meth c D dA A θ0 n0 mc ms θ H locs cells slots ls hs (hd.stk (se_push (se_j _ _) hd.wst)) h1 h2 h3 h4)
end SE
end
section
section SE2
variable {G : se_G} {l : Launch} {d : Nat} {M : se_M} {pc : Nat} {L : List (Option Value)} {st : List Value} {h : se_H} {C S : Nat} {Φ : se_O → se_H → Prop}
/-! ===== ends ===== -/
theorem se_vret (hg : decode M.2.1 pc = .ok (.return_, 1)) (hr : M.2.2.2.1 = none) (hΦ : Φ (.inl none) h) : se_W G l d M pc L [] h C S Φ := by
  intro p e R s m args below meth c D dA A θ0 n0 mc ms θ H locs cells slots ls hs hd h1 h2 h3 h4
  refine W.widen (k := mc) (n := ms) (by omega) (by omega) (vx_ret ?_)
  exact W.vret hs.1 hs.2.1 (hs.2.2.2.1.trans hr) (fun t ht hW => ⟨⟨none, h, θ, hΦ, rfl, fun x hx => (by cases hx), by rw [ht]; exact hd.1, hd.2.1, hd.2.2.2.1, hd.2.2.2.2.2.2.2⟩, hd.2.2.1.F ht⟩) hd.2.2.1.2.2 hg hs.2.2.2.2.2.2.1
theorem se_iret {x : Int32} (hg : decode M.2.1 pc = .ok (.ireturn, 1)) (hr : M.2.2.2.1 = some .int) (hΦ : Φ (.inl (some (.int x))) h) : se_W G l d M pc L [.int x] h C S Φ := by
  intro p e R s m args below meth c D dA A θ0 n0 mc ms θ H locs cells slots ls hs hd h1 h2 h3 h4
  refine W.widen (k := mc) (n := ms) (by omega) (by omega) (vx_ret ?_)
  exact W.iret hs.1 hs.2.1 (hs.2.2.2.1.trans hr) (fun t ht hW => ⟨⟨some (.int x), h, θ, hΦ, rfl, fun y hy => by cases hy; exact se_i _ _, by rw [ht]; exact hd.1, hd.2.1, hd.2.2.2.1, hd.2.2.2.2.2.2.2⟩, hd.2.2.1.F ht⟩) hd.2.2.1.2.2 hg hs.2.2.2.2.2.2.1
theorem se_zret {x : Int32} (hg : decode M.2.1 pc = .ok (.ireturn, 1)) (hr : M.2.2.2.1 = some .boolean) (hx : x = 0 ∨ x = 1) (hΦ : Φ (.inl (some (.int x))) h) : se_W G l d M pc L [.int x] h C S Φ := by
  intro p e R s m args below meth c D dA A θ0 n0 mc ms θ H locs cells slots ls hs hd h1 h2 h3 h4
  refine W.widen (k := mc) (n := ms) (by omega) (by omega) (vx_ret ?_)
  have hn : narrow .boolean (.int x) = .int x := by rcases hx with rfl | rfl <;> decide
  exact W.zret hs.1 hs.2.1 (hs.2.2.2.1.trans hr) hn (fun t ht hW => ⟨⟨some (.int x), h, θ, hΦ, rfl, fun y hy => by cases hy; exact se_i _ _, by rw [ht]; exact hd.1, hd.2.1, hd.2.2.2.1, hd.2.2.2.2.2.2.2⟩, hd.2.2.1.F ht⟩) hd.2.2.1.2.2 hg hs.2.2.2.2.2.2.1
theorem se_lret {x : Int64} (hg : decode M.2.1 pc = .ok (.lreturn, 1)) (hr : M.2.2.2.1 = some .long) (hΦ : Φ (.inl (some (.long x))) h) : se_W G l d M pc L [.long x] h C S Φ := by
  intro p e R s m args below meth c D dA A θ0 n0 mc ms θ H locs cells slots ls hs hd h1 h2 h3 h4
  refine W.widen (k := mc) (n := ms) (by omega) (by omega) (vx_ret ?_)
  exact W.lret hs.1 hs.2.1 (hs.2.2.2.1.trans hr) (fun t ht hW => ⟨⟨some (.long x), h, θ, hΦ, rfl, fun y hy => by cases hy; exact se_j _ _, by rw [ht]; exact hd.1, hd.2.1, hd.2.2.2.1, hd.2.2.2.2.2.2.2⟩, hd.2.2.1.F ht⟩) hd.2.2.1.2.2 hg hs.2.2.2.2.2.2.1
theorem se_aret {r : Option Nat} {nm : String} (hg : decode M.2.1 pc = .ok (.areturn, 1)) (hr : M.2.2.2.1 = some (.object nm)) (hΦ : Φ (.inl (some (va_rf r))) h) : se_W G l d M pc L [va_rf r] h C S Φ := by
  intro p e R s m args below meth c D dA A θ0 n0 mc ms θ H locs cells slots ls hs hd h1 h2 h3 h4
  refine W.widen (k := mc) (n := ms) (by omega) (by omega) (vx_ret ?_)
  have hv : se_v θ (va_rf r) = .null ∨ ∃ a, se_v θ (va_rf r) = .ref a := by
    cases r with
    | none => exact Or.inl rfl
    | some a => exact Or.inr ⟨θ a, rfl⟩
  exact W.aret (v := se_v θ (va_rf r)) hs.1 hs.2.1 (hs.2.2.2.1.trans hr) (Or.inl ⟨nm, rfl⟩) hv (fun t ht hW => ⟨⟨some (va_rf r), h, θ, hΦ, rfl, fun y hy => by cases hy; exact hd.wst _ List.mem_cons_self, by rw [ht]; exact hd.1, hd.2.1, hd.2.2.2.1, hd.2.2.2.2.2.2.2⟩, hd.2.2.1.F ht⟩) hd.2.2.1.2.2 hg hs.2.2.2.2.2.2.1
/-! ===== contracts and calls ===== -/
def se_mok (G : se_G) (M : se_M) (n : Nat) : Prop := plainName M.1.cls = true ∧ M.2.2.2.2 = [] ∧ Cond.code M.1 M.2.1 M.2.2.1 M.2.2.2.1 ∈ G.2.1 ∧ (M.1.cls ≠ "java/lang/invoke/MethodHandle" ∧ M.1.cls ≠ "java/lang/invoke/VarHandle" ∧ (parseMethodDescriptor M.1.desc).map (fun d => d.parameters.length) = some n) ∧ M.2.2.1 ≤ 13
def se_ws (G : se_G) (M : se_M) : List Cond := Cond.code M.1 M.2.1 M.2.2.1 M.2.2.2.1 :: G.2.1
abbrev se_rm (d C S : Nat) : Room := { frames := d, cells := C, slots := S, locals := 32 * d + 50 }
def se_Pc (G : se_G) (D : va_G) (dA : FieldType → ClassId) (θ : Nat → Nat) (vs : List Value) (h : se_H) (sz : Nat) : Array Value → State → Prop :=
  va_Pc (vs.map (se_v θ)) (fun U => U.heap.size = sz ∧ va_P D G.1 (se_w dA θ h) U.heap ∧ va_K D G.1 (se_tys G dA) U ∧ va_D (fun _ => True) (se_w dA θ h) ∧ se_Z G (va_A (se_w dA θ h) sz) U)
theorem se_met {n : Nat} {vs : List Value} (hm : se_mok G M n) (hl : l.stackTraces = false) (hlen : (se_sl vs).length ≤ M.2.2.1) (hwv : ∀ v ∈ vs, se_wv h.length v) (hwh : se_wh h) (k : se_W G l d M 0 (se_ent M.2.2.1 vs) [] h C S Φ) (D : va_G) (dA : FieldType → ClassId) (θ : Nat → Nat) (sz : Nat) :
    vx_Met l M.1 (se_ws G M) (se_rm d C S) (se_Pc G D dA θ vs h sz) (se_Q G D dA (va_A (se_w dA θ h) sz) θ h.length Φ) (se_X G D dA (va_A (se_w dA θ h) sz) θ h.length Φ) C S (va_A (se_w dA θ h) sz) := by
  refine vx_ofW (cc := M.2.1) (maxL := M.2.2.1) (ret := M.2.2.2.1) hm.1 rfl ?_
  intro p e s m args below meth c s₁ B hml htab hv
  obtain ⟨rfl, hsz, hP, hK, hD0, hZ⟩ := hv
  subst hsz
  rw [lg_entry_eq]
  have htb : c.exceptionTable.toList = tableOf M.2.2.2.2 := by
    rw [hm.2.1]
    exact List.eq_nil_iff_forall_not_mem.mpr (fun x hx => htab x hx)
  exact k p e _ s m _ below meth c D dA (va_A (se_w dA θ h) s.heap.size) θ h.length C S θ s.heap [] 0 0 _
    ⟨B.exec, B.bytes, hml, B.returns, findClass_of_methodNamed B.named, fun w hw => atoms_spec (ws := se_ws G M) B.pre w (List.mem_cons_of_mem _ hw), B.notSynchronized, htb, hK, fun q hq => Or.inr hq, hZ, ⟨Nat.le_refl _, Nat.le_refl _⟩, (name_of_methodNamed B.named B.method).1, hl⟩
    ⟨hP, hD0.self, va_S.rf, hwh, fun v hv => (by cases hv), se_ent_L hlen, fun i v hv => hwv v (se_sl_mem (se_ent_at hv)), Nat.le_refl _, fun _ _ => rfl⟩ (by omega) (by omega) (Nat.le_refl _) (Nat.le_refl _)
theorem se_good (hok : se_ok G) {ws : List Cond} (hw : ∀ w ∈ ws, w ∈ G.2.1) : GoodIn G.2.1 ws := fun w h => ⟨hw w h, good_of_word (hok.1 w (hw w h))⟩
theorem se_ws_in {n : Nat} (hm : se_mok G M n) : ∀ w ∈ se_ws G M, w ∈ G.2.1 := fun w hw => (List.mem_cons.mp hw).elim (fun e => by rw [e]; exact hm.2.2.1) id
theorem se_sub {D : va_G} {dA : FieldType → ClassId} {A : Nat → Prop} {θ0 : Nat → Nat} {n0 : Nat} {θ : Nat → Nat} {s : State} {H : Heap} {locs : List Loc} {ls : Array Slot} (hA : ∀ q, s.heap.size ≤ q → A q) (hd : se_Dy G M D dA A θ0 n0 θ s h H locs L st ls) : ∀ q, va_A (se_w dA θ h) H.size q → A q := by
  intro q hq
  rcases hq with ⟨k, e, hk⟩ | hq
  · exact hd.2.1.2 k (q, e) hk
  · exact hA q (Nat.le_trans hd.2.2.1.1 hq)
theorem se_Z_at {D : va_G} {dA : FieldType → ClassId} {A : Nat → Prop} {θ0 : Nat → Nat} {n0 : Nat} {θ : Nat → Nat} {s U : State} {H : Heap} {locs : List Loc} {ls : Array Slot} (hok : se_ok G) (hA : ∀ q, s.heap.size ≤ q → A q) (hd : se_Dy G M D dA A θ0 n0 θ s h H locs L st ls) (hZ : se_Z G A s) (hU : U.heap = H) (hW : s.WarmedH U.vm) : se_Z G (va_A (se_w dA θ h) H.size) U := by
  obtain ⟨z1, z2, z3, z4, z5⟩ := hZ
  have hsub := se_sub hA hd
  refine ⟨?_, ?_, fun q hq => ?_, fun w hw => hok.2 w hw s U hW (z4 w hw), fun q hq => ⟨?_, fun z => (z5 q hq).2 (hsub _ z)⟩⟩
  · rw [hU]; exact (vx_Zq.moved hW.alike (z1.kept hd.2.2.1.2.1)).narrow hsub
  · rw [hU]; exact (vx_Zq.moved hW.alike (z2.kept hd.2.2.1.2.1)).narrow hsub
  · obtain ⟨a, ha⟩ := z3 q hq
    exact ⟨a, vk_R.warm hW ha⟩
  · obtain ⟨x1, x2⟩ := z5 q hq
    obtain ⟨scr, y1, -⟩ := id x1
    rw [hU]
    exact va_X.moved hW.alike (x1.kept (hd.2.2.1.2.1 q.1 (Array.getElem?_eq_some_iff.mp y1).1 x2))
theorem se_blind (hok : se_ok G) (D : va_G) (dA : FieldType → ClassId) (θ : Nat → Nat) (vs : List Value) (h : se_H) (sz : Nat) : FrameBlind (se_Pc G D dA θ vs h sz) := by
  intro a U g mk q
  obtain ⟨q0, q1, q2, q3, q4, z1, z2, z3, z4, z5⟩ := q
  refine ⟨q0, q1, q2, va_K.moved (u := U) (U := U.calling g mk a) (Vm.Alike.refl U.vm) q3, q4, vx_Zq.moved (u := U) (U := U.calling g mk a) (Vm.Alike.refl U.vm) z1, vx_Zq.moved (u := U) (U := U.calling g mk a) (Vm.Alike.refl U.vm) z2, fun q hq => ?_, fun w hw => hok.2 w hw U (U.calling g mk a) (State.WarmedH.refl U) (z4 w hw), fun q hq => ⟨va_X.moved (u := U) (U := U.calling g mk a) (Vm.Alike.refl U.vm) (z5 q hq).1, (z5 q hq).2⟩⟩
  obtain ⟨x, hx⟩ := z3 q hq
  exact ⟨x, vk_R.warm (s := U) (U := U.calling g mk a) (State.WarmedH.refl U) hx⟩
theorem se_pre {D : va_G} {dA : FieldType → ClassId} {A : Nat → Prop} {θ0 : Nat → Nat} {n0 : Nat} {θ : Nat → Nat} {p : Program} {R : Room} {s : State} {m : MethodId} {args : Array Value} {meth : Method} {c : Code} {H : Heap} {locs : List Loc} {ls : Array Slot} (hok : se_ok G) (hs : se_St G l d M p R s m args meth c D dA A) (hd : se_Dy G M D dA A θ0 n0 θ s h H locs L st ls) (vs : List Value) : PreS s H (se_Pc G D dA θ vs h H.size) (vs.map (se_v θ)) :=
  ⟨se_blind hok D dA θ vs h H.size, fun U hU hW => ⟨rfl, by rw [hU], by rw [hU]; exact hd.1, va_K.moved hW.alike hs.2.2.2.2.2.2.2.2.1, hd.2.1.weaken (fun _ _ _ _ => trivial), se_Z_at hok hs.2.2.2.2.2.2.2.2.2.1 hd hs.2.2.2.2.2.2.2.2.2.2.1 hU hW⟩⟩
/-- the room under a frame -/
theorem se_room {m : MethodId} {ls : Array Slot} {x : List Value} (θ : Nat → Nat) (h8 : (st.map fun v => v.category).sum ≤ 8) : 2 * (F0 m pc ls x).monitorRoom + ((st.map (se_v θ)).map fun v => v.category).sum ≤ 8 := by
  refine lv_room ?_
  rw [List.map_map, show ((fun v : Value => v.category) ∘ se_v θ) = (fun v : Value => v.category) from funext (se_cat θ)]
  exact h8
/-- behind a call that comes back, or whose throw nobody here catches -/
theorem se_after {D : va_G} {dA : FieldType → ClassId} {A : Nat → Prop} {θ0 : Nat → Nat} {n0 : Nat} {θ : Nat → Nat} {p : Program} {e : Env} {R : Room} {s : State} {m : MethodId} {args : Array Value} {below : List Frame} {meth : Method} {c : Code} {H : Heap} {locs : List Loc} {ls : Array Slot} {cells slots mc ms C1 S1 C2 S2 : Nat} {st0 : List Value} {a : Array Value} {Ψ : se_O → se_H → Prop}
    (hr : vx_Run p l e R s m args below meth c H locs cells slots C1 S1 (F0 m pc ls st0) (st.map (se_v θ)) (se_Q G D dA (va_A (se_w dA θ h) H.size) θ h.length Ψ a) (se_X G D dA (va_A (se_w dA θ h) H.size) θ h.length Ψ) (va_A (se_w dA θ h) H.size))
    (hs : se_St G l d M p R s m args meth c D dA A) (hd : se_Dy G M D dA A θ0 n0 θ s h H locs L st ls) (h1 : cells + C ≤ mc) (h2 : slots + S ≤ ms) (h3 : mc ≤ R.cells) (h4 : ms ≤ R.slots) (hC : C1 + C2 ≤ C) (hS : S1 + S2 ≤ S)
    (kr : ∀ v h', h.length ≤ h'.length → Ψ (.inl v) h' → se_W G l d M (pc + 3) L (v.toList ++ st) h' C2 S2 Φ)
    (kx : ∀ E h' q ce (θ' : Nat → Nat) (H' : Heap) (locs' : List Loc), h.length ≤ h'.length → Ψ (.inr E) h' → se_Dy G M D dA A θ0 n0 θ' s h' H' locs' L st ls → (∀ k, k < h.length → θ' k = θ k) → H'[q]? = some ce → ce.vm = .none → s.vm.findClass E = some ce.cls → vx_W p l e R s m args below meth c H' locs' (cells + C1) (slots + S1) (vx_MQ below (se_Q G D dA A θ0 n0 Φ) (se_X G D dA A θ0 n0 Φ) args s mc ms A) (F0 m pc ls (st.map (se_v θ))) q) :
    W p l e R s m args below meth c H locs cells slots (vx_MQ below (se_Q G D dA A θ0 n0 Φ) (se_X G D dA A θ0 n0 Φ) args s mc ms A) (F0 m pc ls st0) := by
  have hsub := se_sub hs.2.2.2.2.2.2.2.2.2.1 hd
  have hdd := hd
  obtain ⟨a1, a2, a3, a4, a5, a6, a7, a8, a9⟩ := hd
  intro T hT X
  rcases hr T hT X with ⟨v0, st₀, t, T', L', g0, X', hL, e1, e2, ⟨⟨v, h', θ', b1, b2, b3, b4, b5, b6, b7, b8⟩, hF⟩, go⟩ | ⟨q, st₀, t, T', L', E, ce, g0, X', hL, e1, e2, ⟨⟨h', θ', b1, b4, b5, b6, b7, b8⟩, hF⟩, hce, hcv, hcl, go⟩
  · cases b2
    obtain ⟨k1, k2, k3⟩ := vx_keep g0 e1 a3 (fun q _ hq => hsub q hq) hsub hL hF
    have hdy : se_Dy G M D dA A θ0 n0 θ' s h' T'.heap (locs ++ L') L (v.toList ++ st) ls := by
      refine ⟨by rw [e1]; exact b4, b5.weaken (fun _ _ _ hq => hsub _ hq), k3, b6, fun w hw => ?_, se_L_congr a6 a7 b8, fun i w hw => se_wv_mono (a7 i w hw) b7, Nat.le_trans a8 b7, fun k hk => by rw [b8 k (Nat.lt_of_lt_of_le hk a8)]; exact a9 k hk⟩
      rcases List.mem_append.mp hw with hw | hw
      · cases v with
        | none => cases hw
        | some x =>
          rw [List.mem_singleton.mp hw]
          exact b3 x rfl
      · exact se_wv_mono (a5 w hw) b7
    obtain ⟨t2, z1, z2⟩ := kr v h' b7 b1 p e R s m args below meth c D dA A θ0 n0 mc ms θ' T'.heap (locs ++ L') (cells + C1) (slots + S1) ls hs hdy (by omega) (by omega) h3 h4 T' rfl X'
    refine ⟨t2, go t2 ?_, z2⟩
    have e9 : (v.toList ++ st).map (se_v θ') = (v.map (se_v θ')).toList ++ st.map (se_v θ) := by
      rw [List.map_append, se_vs_congr a5 b8]
      cases v <;> rfl
    rw [e9] at z1
    exact z1
  · obtain ⟨k1, k2, k3⟩ := vx_keep g0 e1 a3 (fun q _ hq => hsub q hq) hsub hL hF
    have hdy : se_Dy G M D dA A θ0 n0 θ' s h' T'.heap (locs ++ L') L st ls :=
      ⟨by rw [e1]; exact b4, b5.weaken (fun _ _ _ hq => hsub _ hq), k3, b6, fun w hw => se_wv_mono (a5 w hw) b7, se_L_congr a6 a7 b8, fun i w hw => se_wv_mono (a7 i w hw) b7, Nat.le_trans a8 b7, fun k hk => by rw [b8 k (Nat.lt_of_lt_of_le hk a8)]; exact a9 k hk⟩
    obtain ⟨t2, z1, z2⟩ := kx E h' q ce θ' T'.heap (locs ++ L') b7 b1 hdy b8 (by rw [e1]; exact hce) hcv hcl T' rfl X'
    exact ⟨t2, go.trans z1, z2⟩
/-- nobody catches here -/
theorem se_outX {D : va_G} {dA : FieldType → ClassId} {A : Nat → Prop} {θ0 : Nat → Nat} {n0 : Nat} {θ : Nat → Nat} {p : Program} {e : Env} {R : Room} {s : State} {m : MethodId} {args : Array Value} {below : List Frame} {meth : Method} {c : Code} {H : Heap} {locs : List Loc} {ls : Array Slot} {cells slots mc ms : Nat} {rest : List Value} {E : String} {ce : Cell} {q : Addr}
    (hs : se_St G l d M p R s m args meth c D dA A) (hd : se_Dy G M D dA A θ0 n0 θ s h H locs L st ls) (hh : ∀ x ∈ M.2.2.2.2, ¬ (x.1 ≤ pc ∧ pc < x.2.1)) (hc : cells ≤ mc) (hS : slots ≤ ms) (hce : H[q]? = some ce) (hcv : ce.vm = .none) (hcl : s.vm.findClass E = some ce.cls) (hΦ : Φ (.inr E) h) :
    vx_W p l e R s m args below meth c H locs cells slots (vx_MQ below (se_Q G D dA A θ0 n0 Φ) (se_X G D dA A θ0 n0 Φ) args s mc ms A) (F0 m pc ls rest) q := by
  refine vx_out (E := E) (ce := ce) (fun x hx => ?_) hs.2.2.2.2.2.2.1 hce hcv hcl (fun t ht _ => ⟨⟨h, θ, hΦ, by rw [ht]; exact hd.1, hd.2.1, hd.2.2.2.1, hd.2.2.2.2.2.2.2⟩, hd.2.2.1.F ht⟩) hd.2.2.1.2.2 hc hS
  rw [hs.2.2.2.2.2.2.2.1] at hx
  obtain ⟨y, hy, rfl⟩ := List.mem_map.mp hx
  have := hh y hy
  simp only [covers]
  simpa using this
theorem se_invV {M' : se_M} {T : u_T} {n N ci index a : Nat} {fs as : List Value} {Ψ : se_O → se_H → Prop} {C1 S1 C2 S2 : Nat} (hok : se_ok G) (hm : se_mok G M' n) (hg : decode M.2.1 pc = .ok (.invokevirtual index, 3)) (hw : Cond.methodLink M.1.cls index M'.1 ∈ G.2.1 ∧ Cond.instanceMethod M'.1 ∈ G.2.1 ∧ Cond.selects M'.1.cls M'.1 M'.1 ∈ G.2.1 ∧ Cond.initialized M'.1.cls ∈ G.2.1) (hci : G.1[ci]? = some (M'.1.cls, T, N)) (ha : h[a]? = some (.inr (ci, fs))) (hn : as.length = n) (hln : (se_sl (.ref a :: as)).length ≤ M'.2.2.1) (h8 : (st.map fun v => v.category).sum ≤ 8)
    (callee : se_W G l d M' 0 (se_ent M'.2.2.1 (.ref a :: as)) [] h C1 S1 Ψ) (hC : C1 + C2 ≤ C) (hS : S1 + S2 ≤ S)
    (kr : ∀ v h', h.length ≤ h'.length → Ψ (.inl v) h' → se_W G l (d + 1) M (pc + 3) L (v.toList ++ st) h' C2 S2 Φ)
    (hh : ∀ x ∈ M.2.2.2.2, ¬ (x.1 ≤ pc ∧ pc < x.2.1)) (kx : ∀ E h', h.length ≤ h'.length → Ψ (.inr E) h' → Φ (.inr E) h') : se_W G l (d + 1) M pc L (as.reverse ++ .ref a :: st) h C S Φ := by
  intro p e R s m args below meth c D dA A θ0 n0 mc ms θ H locs cells slots ls hs hd h1 h2 h3 h4
  have hst : ∀ v ∈ st, se_wv h.length v := fun v hv => hd.wst v (List.mem_append_right _ (List.mem_cons_of_mem _ hv))
  have hvs : ∀ v ∈ Value.ref a :: as, se_wv h.length v := se_push (hd.wst _ (List.mem_append_right _ List.mem_cons_self)) (fun v hv => hd.wst v (List.mem_append_left _ (List.mem_reverse.mpr hv)))
  have hM := se_met hm hs.2.2.2.2.2.2.2.2.2.2.2.2.2 hln hvs hd.2.2.2.1 callee D dA θ H.size
  have hp := se_pre hok hs hd (.ref a :: as)
  have hgi : GoodIn G.2.1 (wsV M.1.cls index M'.1.cls M'.1 (se_ws G M')) := se_good hok (fun w hw' => by
    rcases List.mem_append.mp hw' with q | q
    · simp only [List.mem_cons, List.not_mem_nil, or_false] at q
      rcases q with rfl | rfl | rfl | rfl
      · exact hw.1
      · exact hw.2.1
      · exact hw.2.2.1
      · exact hw.2.2.2
    · exact se_ws_in hm w q)
  have hrec : ∃ cell : Cell, H[θ a]? = some cell ∧ cell.vm.isStatics = false ∧ s.vm.findClass M'.1.cls = some cell.cls := va_recv hs.2.2.2.2.2.2.2.2.1 hd.1 hci (se_w_at ha)
  have hfr := hs.2.2.2.2.2.2.2.2.2.2.2.1
  have hm5 := hm.2.2.2.2
  have hrun := vx_runV (p := p) (l := l) (e := e) (R := R) (s := s) (m := m) (args := args) (below := below) (meth := meth) (c := c) (H := H) (locs := locs) (cells := cells) (slots := slots) (As := as.map (se_v θ)) (rest := st.map (se_v θ)) (b := θ a) (g := F0 m pc ls ((as.reverse ++ .ref a :: st).map (se_v θ))) (nL := M.2.2.1) (Ts := G.2.1) ⟨hs.1, hs.2.1, hs.2.2.1, hs.2.2.2.2.1, hs.2.2.2.2.2.1⟩ hM
    (cwV n hs.2.2.2.2.2.1 hgi rfl rfl rfl ⟨rfl, hm.2.2.2.1⟩ ⟨by show d + 1 ≤ R.frames; omega, by show 8 + (M'.2.2.1 + 11) + (32 * d + 50) ≤ R.locals; omega⟩) ⟨hp.1, hrec, hp.2⟩ rfl (by rw [List.length_map]; exact hn) hd.2.2.2.2.2.1.1 (by rw [List.map_append, List.map_reverse]; rfl) (se_room θ h8) hg ⟨by omega, by omega⟩
  refine se_after hrun hs (hd.stk hst) h1 h2 h3 h4 hC hS kr (fun E h' q ce θ' H' locs' hle hΨ hd' hθ hce hcv hcl => ?_)
  exact se_outX hs hd' hh (by omega) (by omega) hce hcv hcl (kx E h' hle hΨ)
theorem se_invS {M' : se_M} {n index : Nat} {as : List Value} {Ψ : se_O → se_H → Prop} {C1 S1 C2 S2 : Nat} (hok : se_ok G) (hm : se_mok G M' n) (hg : decode M.2.1 pc = .ok (.invokestatic index, 3)) (hw : Cond.methodLink M.1.cls index M'.1 ∈ G.2.1 ∧ Cond.static M'.1 ∈ G.2.1 ∧ Cond.initialized M'.1.cls ∈ G.2.1) (hn : as.length = n) (hln : (se_sl as).length ≤ M'.2.2.1) (h8 : (st.map fun v => v.category).sum ≤ 8)
    (callee : se_W G l d M' 0 (se_ent M'.2.2.1 as) [] h C1 S1 Ψ) (hC : C1 + C2 ≤ C) (hS : S1 + S2 ≤ S)
    (kr : ∀ v h', h.length ≤ h'.length → Ψ (.inl v) h' → se_W G l (d + 1) M (pc + 3) L (v.toList ++ st) h' C2 S2 Φ)
    (hh : ∀ x ∈ M.2.2.2.2, ¬ (x.1 ≤ pc ∧ pc < x.2.1)) (kx : ∀ E h', h.length ≤ h'.length → Ψ (.inr E) h' → Φ (.inr E) h') : se_W G l (d + 1) M pc L (as.reverse ++ st) h C S Φ := by
  intro p e R s m args below meth c D dA A θ0 n0 mc ms θ H locs cells slots ls hs hd h1 h2 h3 h4
  have hst : ∀ v ∈ st, se_wv h.length v := fun v hv => hd.wst v (List.mem_append_right _ hv)
  have hvs : ∀ v ∈ as, se_wv h.length v := fun v hv => hd.wst v (List.mem_append_left _ (List.mem_reverse.mpr hv))
  have hM := se_met hm hs.2.2.2.2.2.2.2.2.2.2.2.2.2 hln hvs hd.2.2.2.1 callee D dA θ H.size
  have hp := se_pre hok hs hd as
  have hgi : GoodIn G.2.1 (va_wsS M.1.cls index M'.1 (se_ws G M')) := se_good hok (fun w hw' => by
    rcases List.mem_append.mp hw' with q | q
    · simp only [List.mem_cons, List.not_mem_nil, or_false] at q
      rcases q with rfl | rfl | rfl
      · exact hw.1
      · exact hw.2.1
      · exact hw.2.2
    · exact se_ws_in hm w q)
  have hfr := hs.2.2.2.2.2.2.2.2.2.2.2.1
  have hm5 := hm.2.2.2.2
  have hrun := vx_runS (p := p) (l := l) (e := e) (R := R) (s := s) (m := m) (args := args) (below := below) (meth := meth) (c := c) (H := H) (locs := locs) (cells := cells) (slots := slots) (As := as.map (se_v θ)) (rest := st.map (se_v θ)) (g := F0 m pc ls ((as.reverse ++ st).map (se_v θ))) (nL := M.2.2.1) (Ts := G.2.1) ⟨hs.1, hs.2.1, hs.2.2.1, hs.2.2.2.2.1, hs.2.2.2.2.2.1⟩ hM
    (va_cwS n hs.2.2.2.2.2.1 hgi rfl rfl rfl hm.2.2.2.1 ⟨by show d + 1 ≤ R.frames; omega, by show 8 + (M'.2.2.1 + 11) + (32 * d + 50) ≤ R.locals; omega⟩) hp rfl (by rw [List.length_map]; exact hn) hd.2.2.2.2.2.1.1 (by rw [List.map_append, List.map_reverse]) (se_room θ h8) hg ⟨by omega, by omega⟩
  refine se_after hrun hs (hd.stk hst) h1 h2 h3 h4 hC hS kr (fun E h' q ce θ' H' locs' hle hΨ hd' hθ hce hcv hcl => ?_)
  exact se_outX hs hd' hh (by omega) (by omega) hce hcv hcl (kx E h' hle hΨ)
/-- a contract without a throw -/
theorem se_metN {y : MethodName} {ws : List Cond} {rm : Room} {Pc : Array Value → State → Prop} {Qc : Array Value → State → Outcome → State → Prop} {XC : String → State → State → Prop} {mc ms : Nat} {free : Addr → Prop} (hM : vx_Met l y ws rm Pc Qc XC mc ms free) (hX : ∀ E s t, ¬ XC E s t) : Met l y ws rm Pc Qc mc ms free := by
  intro p e a1 a2 a3 s m args below a4 a5 a6 a7
  obtain ⟨n, o, b1, b2, b3, b4⟩ := hM p e a1 a2 a3 s m args below a4 a5 a6 a7
  refine ⟨n, o, b1, b2, b3, ?_⟩
  rcases b4 with b4 | ⟨q, b4, E, ce, L', hx, -⟩
  · exact b4
  · exact absurd hx (hX _ _ _)
/-- behind a call that comes back -/
theorem se_afterN {D : va_G} {dA : FieldType → ClassId} {A : Nat → Prop} {θ0 : Nat → Nat} {n0 : Nat} {θ : Nat → Nat} {p : Program} {e : Env} {R : Room} {s : State} {m : MethodId} {args : Array Value} {below : List Frame} {meth : Method} {c : Code} {H : Heap} {locs : List Loc} {ls : Array Slot} {cells slots mc ms C1 S1 C2 S2 : Nat} {st0 : List Value} {a : Array Value} {Ψ : se_O → se_H → Prop}
    (hr : va_Run p l e R s m args below meth c H locs cells slots C1 S1 (F0 m pc ls st0) (st.map (se_v θ)) (se_Q G D dA (va_A (se_w dA θ h) H.size) θ h.length Ψ a) (va_A (se_w dA θ h) H.size))
    (hs : se_St G l d M p R s m args meth c D dA A) (hd : se_Dy G M D dA A θ0 n0 θ s h H locs L st ls) (h1 : cells + C ≤ mc) (h2 : slots + S ≤ ms) (h3 : mc ≤ R.cells) (h4 : ms ≤ R.slots) (hC : C1 + C2 ≤ C) (hS : S1 + S2 ≤ S)
    (kr : ∀ v h', h.length ≤ h'.length → Ψ (.inl v) h' → se_W G l d M (pc + 3) L (v.toList ++ st) h' C2 S2 Φ) :
    W p l e R s m args below meth c H locs cells slots (vx_MQ below (se_Q G D dA A θ0 n0 Φ) (se_X G D dA A θ0 n0 Φ) args s mc ms A) (F0 m pc ls st0) := by
  refine se_after (Ψ := fun o h => Ψ o h ∧ ∃ v, o = .inl v) (a := a) (fun T hT X => ?_) hs hd h1 h2 h3 h4 hC hS (fun v h' hle hv => kr v h' hle hv.1) (fun E h' q ce θ' H' locs' hle hΨ => absurd hΨ.2 (fun z => by obtain ⟨v, hv⟩ := z; cases hv))
  obtain ⟨v, st₀, t, T', L', g0, X', hL, e1, e2, ⟨⟨v', h', θ', b1, b2⟩, hF⟩, go⟩ := hr T hT X
  exact Or.inl ⟨v, st₀, t, T', L', g0, X', hL, e1, e2, ⟨⟨v', h', θ', ⟨b1, v', rfl⟩, b2⟩, hF⟩, go⟩
theorem se_invI {M' : se_M} {n index a : Nat} {as : List Value} {Ψ : se_O → se_H → Prop} {C1 S1 C2 S2 : Nat} (hok : se_ok G) (hm : se_mok G M' n) (hg : decode M.2.1 pc = .ok (.invokespecial index, 3)) (hM1 : M'.1.name = "<init>" ∧ M'.2.2.2.1 = none) (hw : Cond.methodLink M.1.cls index M'.1 ∈ G.2.1 ∧ Cond.instanceMethod M'.1 ∈ G.2.1 ∧ Cond.initialized M'.1.cls ∈ G.2.1) (hn : as.length = n) (hln : (se_sl (.ref a :: as)).length ≤ M'.2.2.1) (h8 : (st.map fun v => v.category).sum ≤ 8)
    (callee : se_W G l d M' 0 (se_ent M'.2.2.1 (.ref a :: as)) [] h C1 S1 Ψ) (hno : ∀ E h', ¬ Ψ (.inr E) h') (hC : C1 + C2 ≤ C) (hS : S1 + S2 ≤ S)
    (kr : ∀ v h', h.length ≤ h'.length → Ψ (.inl v) h' → se_W G l (d + 1) M (pc + 3) L (v.toList ++ st) h' C2 S2 Φ) : se_W G l (d + 1) M pc L (as.reverse ++ .ref a :: st) h C S Φ := by
  intro p e R s m args below meth c D dA A θ0 n0 mc ms θ H locs cells slots ls hs hd h1 h2 h3 h4
  have hst : ∀ v ∈ st, se_wv h.length v := fun v hv => hd.wst v (List.mem_append_right _ (List.mem_cons_of_mem _ hv))
  have hvs : ∀ v ∈ Value.ref a :: as, se_wv h.length v := se_push (hd.wst _ (List.mem_append_right _ List.mem_cons_self)) (fun v hv => hd.wst v (List.mem_append_left _ (List.mem_reverse.mpr hv)))
  have hM := se_metN (se_met hm hs.2.2.2.2.2.2.2.2.2.2.2.2.2 hln hvs hd.2.2.2.1 callee D dA θ H.size) (fun E s t q => by obtain ⟨⟨h', _, q1, -⟩, -⟩ := q; exact hno E h' q1)
  have hp := se_pre hok hs hd (.ref a :: as)
  have hfr := hs.2.2.2.2.2.2.2.2.2.2.2.1
  have hm5 := hm.2.2.2.2
  have hws : se_ws G M' = Cond.code M'.1 M'.2.1 M'.2.2.1 none :: G.2.1 := by show Cond.code M'.1 M'.2.1 M'.2.2.1 M'.2.2.2.1 :: G.2.1 = _; rw [hM1.2]
  have hrun := va_runI (p := p) (l := l) (e := e) (R := R) (s := s) (m := m) (args := args) (below := below) (meth := meth) (c := c) (H := H) (locs := locs) (cells := cells) (slots := slots) (As := as.map (se_v θ)) (rest := st.map (se_v θ)) (b := θ a) (g := F0 m pc ls ((as.reverse ++ .ref a :: st).map (se_v θ))) (nL := M.2.2.1) (Ts := G.2.1) ⟨hs.1, hs.2.1, hs.2.2.1, hs.2.2.2.2.1, hs.2.2.2.2.2.1⟩ hM
    (cwI n hs.2.2.2.2.2.1 (se_good hok (se_ws_in hm)) hws rfl rfl (hs.2.2.2.2.2.1 _ hw.2.2) (hs.2.2.2.2.2.1 _ hw.1) (hs.2.2.2.2.2.1 _ hw.2.1) hM1.1 hm.2.2.2.1 ⟨by show d + 1 ≤ R.frames; omega, by show 8 + (M'.2.2.1 + 11) + (32 * d + 50) ≤ R.locals; omega⟩) hp rfl (by rw [List.length_map]; exact hn) hd.2.2.2.2.2.1.1 (by rw [List.map_append, List.map_reverse]; rfl) (se_room θ h8) hg ⟨by omega, by omega⟩
  exact se_afterN hrun hs (hd.stk hst) h1 h2 h3 h4 hC hS kr
theorem se_invIN {M' : se_M} {n index a : Nat} {host : String} {as : List Value} {Ψ : se_O → se_H → Prop} {C1 S1 C2 S2 : Nat} (hok : se_ok G) (hm : se_mok G M' n) (hg : decode M.2.1 pc = .ok (.invokespecial index, 3)) (hM1 : M'.1.name = "<init>" ∧ M'.2.2.2.1 = none) (hw : Cond.methodLinkNest M.1.cls index M'.1 host ∈ G.2.2.2.2.1 ∧ Cond.instanceMethod M'.1 ∈ G.2.1 ∧ Cond.initialized M'.1.cls ∈ G.2.1) (hn : as.length = n) (hln : (se_sl (.ref a :: as)).length ≤ M'.2.2.1) (h8 : (st.map fun v => v.category).sum ≤ 8)
    (callee : se_W G l d M' 0 (se_ent M'.2.2.1 (.ref a :: as)) [] h C1 S1 Ψ) (hno : ∀ E h', ¬ Ψ (.inr E) h') (hC : C1 + C2 ≤ C) (hS : S1 + S2 ≤ S)
    (kr : ∀ v h', h.length ≤ h'.length → Ψ (.inl v) h' → se_W G l (d + 1) M (pc + 3) L (v.toList ++ st) h' C2 S2 Φ) : se_W G l (d + 1) M pc L (as.reverse ++ .ref a :: st) h C S Φ := by
  intro p e R s m args below meth c D dA A θ0 n0 mc ms θ H locs cells slots ls hs hd h1 h2 h3 h4
  have hst : ∀ v ∈ st, se_wv h.length v := fun v hv => hd.wst v (List.mem_append_right _ (List.mem_cons_of_mem _ hv))
  have hvs : ∀ v ∈ Value.ref a :: as, se_wv h.length v := se_push (hd.wst _ (List.mem_append_right _ List.mem_cons_self)) (fun v hv => hd.wst v (List.mem_append_left _ (List.mem_reverse.mpr hv)))
  have hM := se_metN (se_met hm hs.2.2.2.2.2.2.2.2.2.2.2.2.2 hln hvs hd.2.2.2.1 callee D dA θ H.size) (fun E s t q => by obtain ⟨⟨h', _, q1, -⟩, -⟩ := q; exact hno E h' q1)
  have hp := se_pre hok hs hd (.ref a :: as)
  have hfr := hs.2.2.2.2.2.2.2.2.2.2.2.1
  have hm5 := hm.2.2.2.2
  have hws : se_ws G M' = Cond.code M'.1 M'.2.1 M'.2.2.1 none :: G.2.1 := by show Cond.code M'.1 M'.2.1 M'.2.2.1 M'.2.2.2.1 :: G.2.1 = _; rw [hM1.2]
  have hrun := va_runIN (p := p) (l := l) (e := e) (R := R) (s := s) (m := m) (args := args) (below := below) (meth := meth) (c := c) (H := H) (locs := locs) (cells := cells) (slots := slots) (As := as.map (se_v θ)) (rest := st.map (se_v θ)) (b := θ a) (g := F0 m pc ls ((as.reverse ++ .ref a :: st).map (se_v θ))) (nL := M.2.2.1) (Ts := G.2.1) ⟨hs.1, hs.2.1, hs.2.2.1, hs.2.2.2.2.1, hs.2.2.2.2.2.1⟩ hM
    ⟨va_cnB n hs.2.2.2.2.2.1 (se_good hok (se_ws_in hm)) hws rfl rfl (hs.2.2.2.2.2.2.2.2.2.2.1.2.2.2.1 _ hw.1) (hs.2.2.2.2.2.1 _ hw.2.2) hm.2.2.2.1 ⟨by show d + 1 ≤ R.frames; omega, by show 8 + (M'.2.2.1 + 11) + (32 * d + 50) ≤ R.locals; omega⟩, hM1.1, hs.2.2.2.2.2.1 _ hw.2.1⟩ hp rfl (by rw [List.length_map]; exact hn) hd.2.2.2.2.2.1.1 (by rw [List.map_append, List.map_reverse]; rfl) (se_room θ h8) hg ⟨by omega, by omega⟩
  exact se_afterN hrun hs (hd.stk hst) h1 h2 h3 h4 hC hS kr
theorem se_objInit {idx a : Nat} (hd1 : 1 ≤ d) (hg : decode M.2.1 pc = .ok (.invokespecial idx, 3)) (hw : Cond.methodLink M.1.cls idx Lib.objectInit ∈ G.2.1 ∧ Cond.instanceMethod Lib.objectInit ∈ G.2.1 ∧ Cond.code Lib.objectInit ⟨#[0xb1]⟩ 1 none ∈ G.2.1) (h8 : (st.map fun v => v.category).sum ≤ 8) (k : se_W G l d M (pc + 3) L st h C S Φ) : se_W G l d M pc L (.ref a :: st) h C S Φ := by
  intro p e R s m args below meth c D dA A θ0 n0 mc ms θ H locs cells slots ls hs hd h1 h2 h3 h4
  have hfr := hs.2.2.2.2.2.2.2.2.2.2.2.1
  have h9 := se_room (m := m) (pc := pc) (ls := ls) (x := (Value.ref a :: st).map (se_v θ)) θ h8
  refine W.objInit hs.1 hs.2.1 hs.2.2.2.2.1 (hs.2.2.2.2.2.1 _ hw.1) (hs.2.2.2.2.2.1 _ hw.2.1) (hs.2.2.2.2.2.1 _ hw.2.2) (g := F0 m pc ls ((Value.ref a :: st).map (se_v θ))) rfl (hd.2.2.2.2.2.1.1.trans hs.2.2.1.symm) (a := θ a) (rest := st.map (se_v θ)) rfl hg (by omega) (by omega) ?_
  exact k p e R s m args below meth c D dA A θ0 n0 mc ms θ H locs cells slots ls hs (hd.stk (se_pop hd.wst)) h1 h2 h3 h4
theorem se_maxL {index : Nat} {x y : Int64} (hd1 : 1 ≤ d) (hg : decode M.2.1 pc = .ok (.invokestatic index, 3)) (hw : Cond.methodLink M.1.cls index Lib.MathLoose.max_long.x ∈ G.2.1 ∧ Cond.static Lib.MathLoose.max_long.x ∈ G.2.1 ∧ Cond.initialized "java/lang/Math" ∈ G.2.1 ∧ Cond.code Lib.MathLoose.max_long.x Lib.MathLoose.max_long.code 4 (some .long) ∈ G.2.1) (h8 : (st.map fun v => v.category).sum ≤ 8) (k : se_W G l d M (pc + 3) L (.long (if y < x then x else y) :: st) h C S Φ) : se_W G l d M pc L (.long y :: .long x :: st) h C S Φ := by
  intro p e R s m args below meth c D dA A θ0 n0 mc ms θ H locs cells slots ls hs hd h1 h2 h3 h4
  have hfr := hs.2.2.2.2.2.2.2.2.2.2.2.1
  have h9 := se_room (m := m) (pc := pc) (ls := ls) (x := []) θ h8
  refine va_mmax_long hs.1 hs.2.1 (hs.2.2.1.trans hd.2.2.2.2.2.1.1.symm) hs.2.2.2.2.1 (hs.2.2.2.2.2.1 _ hw.1) (hs.2.2.2.2.2.1 _ hw.2.1) (hs.2.2.2.2.2.1 _ hw.2.2.1) (hs.2.2.2.2.2.1 _ hw.2.2.2) (by omega) (by omega) (by omega) (by omega) hg ?_
  exact k p e R s m args below meth c D dA A θ0 n0 mc ms θ H locs cells slots ls hs (hd.stk (se_push (se_j _ _) (se_pop (se_pop hd.wst)))) h1 h2 h3 h4
/-- throw new E("text") -/
theorem se_throwS {cls text : String} {names : List String} {ik is ic : Nat} (hok : se_ok G) (d0 : decode M.2.1 pc = .ok (.new ik, 3)) (d3 : decode M.2.1 (pc + 3) = .ok (.dup, 1)) (d4 : decode M.2.1 (pc + 4) = .ok (.ldc is, 2)) (d6 : decode M.2.1 (pc + 6) = .ok (.invokespecial ic, 3)) (d9 : decode M.2.1 (pc + 9) = .ok (.athrow, 1))
    (hcls : Bundle.fit cls = true) (hnames : ∀ n ∈ names, Bundle.fit n = true) (hk : Cond.classLink M.1.cls ik cls ∈ G.2.1) (hini : Cond.initialized cls ∈ G.2.1) (hstr : (M.1.cls, is, text) ∈ G.2.2.2.1) (hat : ∀ w ∈ vx_atS M.1.cls ic cls names, w ∈ G.2.1 ∨ (w ∈ G.2.2.2.2.1 ∧ w.onTables = true)) (hnl : names.length + 4 ≤ d ∧ names.length ≤ 4) (h8 : (st.map fun v => v.category).sum ≤ 8) (hh : M.2.2.2.2 = []) (hC : 1 ≤ C) (hS : 6 ≤ S) (hΦ : Φ (.inr cls) h) : se_W G l d M pc L st h C S Φ := by
  intro p e R s m args below meth c D dA A θ0 n0 mc ms θ H locs cells slots ls hs hd h1 h2 h3 h4
  have hfr := hs.2.2.2.2.2.2.2.2.2.2.2.1
  have h9 := se_room (m := m) (pc := pc) (ls := ls) (x := []) θ h8
  have hts := hs.2.2.2.2.2.1
  have hZ := hs.2.2.2.2.2.2.2.2.2.2.1
  obtain ⟨sa, hsa⟩ := hZ.2.2.1 _ hstr
  refine vx_throwS (cls := cls) (text := text) (names := names) (ik := ik) (is := is) (ic := ic) (sa := sa) (A := A) hs.1 hs.2.1 hs.2.2.2.2.2.2.2.2.2.2.2.2.2 hs.2.2.2.2.1 hcls hnames (hts _ hk) (hts _ hini) hsa (fun w hw => ?_) (fun w hw => ?_) hZ.1 hZ.2.1 hd.2.2.1 (hd.2.2.2.2.2.1.1.trans hs.2.2.1.symm) d0 d3 d4 d6 d9 (fun x hx => ?_) (by omega) (by omega) (by omega) (by omega) hs.2.2.2.2.2.2.1 (fun t hal hsz hkeep => ?_) hd.2.2.1.2.2 (by omega) (by omega)
  · rcases hat w hw with q | q
    · exact hts w q
    · exact va_Nw.use q.2 (hZ.2.2.2.1 w q.1)
  · have hgw : ∀ w, w ∈ G.2.1 → vx_ot w = true := fun w q => by simp only [vx_ot, hok.1 w q, Bool.or_true]
    rcases List.mem_cons.mp hw with rfl | hw
    · exact hgw _ hk
    · rcases List.mem_cons.mp hw with rfl | hw
      · exact hgw _ hini
      · rcases hat w hw with q | q
        · exact hgw w q
        · simp only [vx_ot, q.2, Bool.true_or]
  · rw [hs.2.2.2.2.2.2.2.1, hh] at hx
    cases hx
  · refine ⟨⟨h, θ, hΦ, hd.1.kept (fun k q hq => hkeep q.1 (hd.1 k q hq).lt), hd.2.1, hd.2.2.2.1, hd.2.2.2.2.2.2.2⟩, Nat.le_trans hd.2.2.1.1 hsz, fun q q1 q2 => ?_⟩
    rw [hkeep q (Nat.lt_of_lt_of_le q1 hd.2.2.1.1)]
    exact hd.2.2.1.2.1 q q1 q2
end SE2
end
section
section SE3
variable {G : se_G} {l : Launch} {d : Nat} {M : se_M} {pc : Nat} {L : List (Option Value)} {st : List Value} {h : se_H} {C S : Nat} {Φ : se_O → se_H → Prop}
theorem se_q (n a : Nat) : se_wv n (.retAddr a) := fun k hk => by cases hk
theorem se_aload_nR {i : Fin 4} {x : Nat} (hl : L[(i : Nat)]? = some (some (.retAddr x))) (hg : decode M.2.1 pc = .ok (.aload_n i, 1)) (k : se_W G l d M (pc + 1) L (.retAddr x :: st) h C S Φ) : se_W G l d M pc L st h C S Φ := by
  intro p e R s m args below meth c D dA A θ0 n0 mc ms θ H locs cells slots ls hs hd h1 h2 h3 h4
  exact lv_aload_n hs.1 hs.2.1 hg rfl (hd.2.2.2.2.2.1.2.2.2 _ _ hl) (k p e R s m args below meth c D dA A θ0 n0 mc ms θ H locs cells slots ls hs (hd.stk (se_push (se_q _ _) hd.wst)) h1 h2 h3 h4)
theorem se_astore_nR {i : Fin 4} {x : Nat} (hg : decode M.2.1 pc = .ok (.astore_n i, 1)) (hi : (i : Nat) < M.2.2.1) (L' : List (Option Value)) (hL : se_s1 L (i : Nat) (.retAddr x) = L') (k : se_W G l d M (pc + 1) L' st h C S Φ) : se_W G l d M pc L (.retAddr x :: st) h C S Φ := by
  subst hL
  intro p e R s m args below meth c D dA A θ0 n0 mc ms θ H locs cells slots ls hs hd h1 h2 h3 h4 T hT X
  obtain ⟨ls', e', g'⟩ := se_store1 (v := .retAddr x) hd.2.2.2.2.2.1 hi rfl
  obtain ⟨t, a, b⟩ := k p e R s m args below meth c D dA A θ0 n0 mc ms θ H locs cells slots ls' hs (hd.loc g' (se_wL_s1 hd.2.2.2.2.2.2.1 (se_q _ _)) (se_pop hd.wst)) h1 h2 h3 h4 T hT X
  refine ⟨t, ?_, b⟩
  have hexec := hs.1
  have hb := hs.2.1
  simp only [List.map_cons, se_v] at e' ⊢
  jvm_step X.here [X.here.top, ↓top_set X.here.top, hexec, hb, hg, e', Value.isRef]
  exact a
theorem se_aloadR {i : Nat} {x : Nat} (hl : L[i]? = some (some (.retAddr x))) (hg : decode M.2.1 pc = .ok (.aload i, 2)) (k : se_W G l d M (pc + 2) L (.retAddr x :: st) h C S Φ) : se_W G l d M pc L st h C S Φ := by
  intro p e R s m args below meth c D dA A θ0 n0 mc ms θ H locs cells slots ls hs hd h1 h2 h3 h4
  exact lv_aload hs.1 hs.2.1 hg (hd.2.2.2.2.2.1.2.2.2 _ _ hl) (k p e R s m args below meth c D dA A θ0 n0 mc ms θ H locs cells slots ls hs (hd.stk (se_push (se_q _ _) hd.wst)) h1 h2 h3 h4)
theorem se_astoreR {i : Nat} {x : Nat} (hg : decode M.2.1 pc = .ok (.astore i, 2)) (hi : i < M.2.2.1) (L' : List (Option Value)) (hL : se_s1 L i (.retAddr x) = L') (k : se_W G l d M (pc + 2) L' st h C S Φ) : se_W G l d M pc L (.retAddr x :: st) h C S Φ := by
  subst hL
  intro p e R s m args below meth c D dA A θ0 n0 mc ms θ H locs cells slots ls hs hd h1 h2 h3 h4 T hT X
  obtain ⟨ls', e', g'⟩ := se_store1 (v := .retAddr x) hd.2.2.2.2.2.1 hi rfl
  obtain ⟨t, a, b⟩ := k p e R s m args below meth c D dA A θ0 n0 mc ms θ H locs cells slots ls' hs (hd.loc g' (se_wL_s1 hd.2.2.2.2.2.2.1 (se_q _ _)) (se_pop hd.wst)) h1 h2 h3 h4 T hT X
  refine ⟨t, ?_, b⟩
  have hexec := hs.1
  have hb := hs.2.1
  simp only [List.map_cons, se_v] at e' ⊢
  jvm_step X.here [X.here.top, ↓top_set X.here.top, hexec, hb, hg, e', Value.isRef]
  exact a
theorem se_sld {b N : Nat} {xs : Nat → Int32} {i : Int32} (hg : decode M.2.1 pc = .ok (.iaload, 1)) (hb : (b, N, xs) ∈ G.2.2.2.2.2) (hin : vp_in i N) (k : se_W G l d M (pc + 1) L (.int (xs i.toNatClampNeg) :: st) h C S Φ) : se_W G l d M pc L (.int i :: .retAddr b :: st) h C S Φ := by
  intro p e R s m args below meth c D dA A θ0 n0 mc ms θ H locs cells slots ls hs hd h1 h2 h3 h4
  obtain ⟨x1, x2⟩ := hs.2.2.2.2.2.2.2.2.2.2.1.2.2.2.2 _ hb
  obtain ⟨scr, y1, -⟩ := id x1
  exact va_sld hs.1 hs.2.1 x1 (Array.getElem?_eq_some_iff.mp y1).1 x2 hd.2.2.1 hin hg (k p e R s m args below meth c D dA A θ0 n0 mc ms θ H locs cells slots ls hs (hd.stk (se_push (se_i _ _) (se_pop (se_pop hd.wst)))) h1 h2 h3 h4)
theorem se_slen {b N : Nat} {xs : Nat → Int32} (hg : decode M.2.1 pc = .ok (.arraylength, 1)) (hb : (b, N, xs) ∈ G.2.2.2.2.2) (k : se_W G l d M (pc + 1) L (.int (Int32.ofNat N) :: st) h C S Φ) : se_W G l d M pc L (.retAddr b :: st) h C S Φ := by
  intro p e R s m args below meth c D dA A θ0 n0 mc ms θ H locs cells slots ls hs hd h1 h2 h3 h4
  obtain ⟨x1, x2⟩ := hs.2.2.2.2.2.2.2.2.2.2.1.2.2.2.2 _ hb
  obtain ⟨scr, y1, -⟩ := id x1
  exact va_slen hs.1 hs.2.1 x1 (Array.getElem?_eq_some_iff.mp y1).1 x2 hd.2.2.1 hg (k p e R s m args below meth c D dA A θ0 n0 mc ms θ H locs cells slots ls hs (hd.stk (se_push (se_i _ _) (se_pop hd.wst))) h1 h2 h3 h4)
/-- a method of ours with a table of handlers, called by its name: its contract -/
def se_mokH (G : se_G) (M : se_M) (n : Nat) : Prop := plainName M.1.cls = true ∧ Cond.codeWith M.1 M.2.1 M.2.2.1 M.2.2.2.1 M.2.2.2.2 ∈ G.2.1 ∧ (M.1.cls ≠ "java/lang/invoke/MethodHandle" ∧ M.1.cls ≠ "java/lang/invoke/VarHandle" ∧ (parseMethodDescriptor M.1.desc).map (fun d => d.parameters.length) = some n) ∧ M.2.2.1 ≤ 13
def se_wsH (G : se_G) (M : se_M) : List Cond := Cond.codeWith M.1 M.2.1 M.2.2.1 M.2.2.2.1 M.2.2.2.2 :: G.2.1
theorem se_wsH_in {n : Nat} (hm : se_mokH G M n) : ∀ w ∈ se_wsH G M, w ∈ G.2.1 := fun w hw => (List.mem_cons.mp hw).elim (fun e => by rw [e]; exact hm.2.1) id
theorem se_metH {n : Nat} {vs : List Value} (hm : se_mokH G M n) (hl : l.stackTraces = false) (hlen : (se_sl vs).length ≤ M.2.2.1) (hwv : ∀ v ∈ vs, se_wv h.length v) (hwh : se_wh h) (k : se_W G l d M 0 (se_ent M.2.2.1 vs) [] h C S Φ) (D : va_G) (dA : FieldType → ClassId) (θ : Nat → Nat) (sz : Nat) :
    vx_Met l M.1 (se_wsH G M) (se_rm d C S) (se_Pc G D dA θ vs h sz) (se_Q G D dA (va_A (se_w dA θ h) sz) θ h.length Φ) (se_X G D dA (va_A (se_w dA θ h) sz) θ h.length Φ) C S (va_A (se_w dA θ h) sz) := by
  refine vx_ofWH (cc := M.2.1) (maxL := M.2.2.1) (ret := M.2.2.2.1) (hh := M.2.2.2.2) hm.1 rfl ?_
  intro p e s m args below meth c s₁ B hml hv
  obtain ⟨rfl, hsz, hP, hK, hD0, hZ⟩ := hv
  subst hsz
  rw [lg_entry_eq]
  have htb : c.exceptionTable.toList = tableOf M.2.2.2.2 := vx_table (x := M.1) B (atoms_spec (ws := se_wsH G M) B.pre _ List.mem_cons_self)
  exact k p e _ s m _ below meth c D dA (va_A (se_w dA θ h) s.heap.size) θ h.length C S θ s.heap [] 0 0 _
    ⟨B.exec, B.bytes, hml, B.returns, findClass_of_methodNamed B.named, fun w hw => atoms_spec (ws := se_wsH G M) B.pre w (List.mem_cons_of_mem _ hw), B.notSynchronized, htb, hK, fun q hq => Or.inr hq, hZ, ⟨Nat.le_refl _, Nat.le_refl _⟩, (name_of_methodNamed B.named B.method).1, hl⟩
    ⟨hP, hD0.self, va_S.rf, hwh, fun v hv => (by cases hv), se_ent_L hlen, fun i v hv => hwv v (se_sl_mem (se_ent_at hv)), Nat.le_refl _, fun _ _ => rfl⟩ (by omega) (by omega) (Nat.le_refl _) (Nat.le_refl _)
theorem se_invSH {M' : se_M} {n index : Nat} {as : List Value} {Ψ : se_O → se_H → Prop} {C1 S1 C2 S2 : Nat} (hok : se_ok G) (hm : se_mokH G M' n) (hg : decode M.2.1 pc = .ok (.invokestatic index, 3)) (hw : Cond.methodLink M.1.cls index M'.1 ∈ G.2.1 ∧ Cond.static M'.1 ∈ G.2.1 ∧ Cond.initialized M'.1.cls ∈ G.2.1) (hn : as.length = n) (hln : (se_sl as).length ≤ M'.2.2.1) (h8 : (st.map fun v => v.category).sum ≤ 8)
    (callee : se_W G l d M' 0 (se_ent M'.2.2.1 as) [] h C1 S1 Ψ) (hC : C1 + C2 ≤ C) (hS : S1 + S2 ≤ S)
    (kr : ∀ v h', h.length ≤ h'.length → Ψ (.inl v) h' → se_W G l (d + 1) M (pc + 3) L (v.toList ++ st) h' C2 S2 Φ)
    (hh : ∀ x ∈ M.2.2.2.2, ¬ (x.1 ≤ pc ∧ pc < x.2.1)) (kx : ∀ E h', h.length ≤ h'.length → Ψ (.inr E) h' → Φ (.inr E) h') : se_W G l (d + 1) M pc L (as.reverse ++ st) h C S Φ := by
  intro p e R s m args below meth c D dA A θ0 n0 mc ms θ H locs cells slots ls hs hd h1 h2 h3 h4
  have hst : ∀ v ∈ st, se_wv h.length v := fun v hv => hd.wst v (List.mem_append_right _ hv)
  have hvs : ∀ v ∈ as, se_wv h.length v := fun v hv => hd.wst v (List.mem_append_left _ (List.mem_reverse.mpr hv))
  have hM := se_metH hm hs.2.2.2.2.2.2.2.2.2.2.2.2.2 hln hvs hd.2.2.2.1 callee D dA θ H.size
  have hp := se_pre hok hs hd as
  have hgi : GoodIn G.2.1 (va_wsS M.1.cls index M'.1 (se_wsH G M')) := se_good hok (fun w hw' => by
    rcases List.mem_append.mp hw' with q | q
    · simp only [List.mem_cons, List.not_mem_nil, or_false] at q
      rcases q with rfl | rfl | rfl
      · exact hw.1
      · exact hw.2.1
      · exact hw.2.2
    · exact se_wsH_in hm w q)
  have hfr := hs.2.2.2.2.2.2.2.2.2.2.2.1
  have hm5 := hm.2.2.2
  have hrun := vx_runSX (p := p) (l := l) (e := e) (R := R) (s := s) (m := m) (args := args) (below := below) (meth := meth) (c := c) (H := H) (locs := locs) (cells := cells) (slots := slots) (As := as.map (se_v θ)) (rest := st.map (se_v θ)) (g := F0 m pc ls ((as.reverse ++ st).map (se_v θ))) (nL := M.2.2.1) (Ts := G.2.1) ⟨hs.1, hs.2.1, hs.2.2.1, hs.2.2.2.2.1, hs.2.2.2.2.2.1⟩ hM
    (vx_cwSW n hs.2.2.2.2.2.1 hgi rfl rfl rfl hm.2.2.1 ⟨by show d + 1 ≤ R.frames; omega, by show 8 + (M'.2.2.1 + 11) + (32 * d + 50) ≤ R.locals; omega⟩) hp rfl (by rw [List.length_map]; exact hn) hd.2.2.2.2.2.1.1 (by rw [List.map_append, List.map_reverse]) (se_room θ h8) hg ⟨by omega, by omega⟩
  refine se_after hrun hs (hd.stk hst) h1 h2 h3 h4 hC hS kr (fun E h' q ce θ' H' locs' hle hΨ hd' hθ hce hcv hcl => ?_)
  exact se_outX hs hd' hh (by omega) (by omega) hce hcv hcl (kx E h' hle hΨ)
/-- which handler takes an exception of class E that is thrown at pc: the rows ahead of it don't cover pc, or name a class that E isn't -/
def se_takes (G : se_G) (M : se_M) (pc : Nat) (E : String) (i tgt : Nat) : Prop := ∃ (x : Nat × Nat × Nat × Nat) (nm : String), M.2.2.2.2[i]? = some x ∧ x.2.2.1 = tgt ∧ (x.1 ≤ pc ∧ pc < x.2.1) ∧ x.2.2.2 ≠ 0 ∧ Cond.classLink M.1.cls x.2.2.2 nm ∈ G.2.1 ∧ Cond.castable E nm ∈ G.2.1 ∧
  ∀ j, j < i → ∀ y, M.2.2.2.2[j]? = some y → y.2.2.2 ≠ 0 ∧ ∃ nm', Cond.classLink M.1.cls y.2.2.2 nm' ∈ G.2.1 ∧ Cond.not (.castable E nm') ∈ G.2.2.2.2.1
theorem se_invVC {M' : se_M} {T : u_T} {n N ci index a : Nat} {fs as : List Value} {Ψ : se_O → se_H → Prop} {C1 S1 C2 S2 : Nat} (hok : se_ok G) (hm : se_mok G M' n) (hg : decode M.2.1 pc = .ok (.invokevirtual index, 3)) (hw : Cond.methodLink M.1.cls index M'.1 ∈ G.2.1 ∧ Cond.instanceMethod M'.1 ∈ G.2.1 ∧ Cond.selects M'.1.cls M'.1 M'.1 ∈ G.2.1 ∧ Cond.initialized M'.1.cls ∈ G.2.1) (hci : G.1[ci]? = some (M'.1.cls, T, N)) (ha : h[a]? = some (.inr (ci, fs))) (hn : as.length = n) (hln : (se_sl (.ref a :: as)).length ≤ M'.2.2.1) (h8 : (st.map fun v => v.category).sum ≤ 8)
    (callee : se_W G l d M' 0 (se_ent M'.2.2.1 (.ref a :: as)) [] h C1 S1 Ψ) (hC : C1 + C2 ≤ C) (hS : S1 + S2 ≤ S)
    (kr : ∀ v h', h.length ≤ h'.length → Ψ (.inl v) h' → se_W G l (d + 1) M (pc + 3) L (v.toList ++ st) h' C2 S2 Φ)
    (kx : ∀ E h', h.length ≤ h'.length → Ψ (.inr E) h' → ∃ i tgt, se_takes G M pc E i tgt ∧ ∀ q, se_W G l (d + 1) M tgt L [.retAddr q] h' C2 S2 Φ) : se_W G l (d + 1) M pc L (as.reverse ++ .ref a :: st) h C S Φ := by
  intro p e R s m args below meth c D dA A θ0 n0 mc ms θ H locs cells slots ls hs hd h1 h2 h3 h4
  have hst : ∀ v ∈ st, se_wv h.length v := fun v hv => hd.wst v (List.mem_append_right _ (List.mem_cons_of_mem _ hv))
  have hvs : ∀ v ∈ Value.ref a :: as, se_wv h.length v := se_push (hd.wst _ (List.mem_append_right _ List.mem_cons_self)) (fun v hv => hd.wst v (List.mem_append_left _ (List.mem_reverse.mpr hv)))
  have hM := se_met hm hs.2.2.2.2.2.2.2.2.2.2.2.2.2 hln hvs hd.2.2.2.1 callee D dA θ H.size
  have hp := se_pre hok hs hd (.ref a :: as)
  have hgi : GoodIn G.2.1 (wsV M.1.cls index M'.1.cls M'.1 (se_ws G M')) := se_good hok (fun w hw' => by
    rcases List.mem_append.mp hw' with q | q
    · simp only [List.mem_cons, List.not_mem_nil, or_false] at q
      rcases q with rfl | rfl | rfl | rfl
      · exact hw.1
      · exact hw.2.1
      · exact hw.2.2.1
      · exact hw.2.2.2
    · exact se_ws_in hm w q)
  have hrec : ∃ cell : Cell, H[θ a]? = some cell ∧ cell.vm.isStatics = false ∧ s.vm.findClass M'.1.cls = some cell.cls := va_recv hs.2.2.2.2.2.2.2.2.1 hd.1 hci (se_w_at ha)
  have hfr := hs.2.2.2.2.2.2.2.2.2.2.2.1
  have hm5 := hm.2.2.2.2
  have hrun := vx_runV (p := p) (l := l) (e := e) (R := R) (s := s) (m := m) (args := args) (below := below) (meth := meth) (c := c) (H := H) (locs := locs) (cells := cells) (slots := slots) (As := as.map (se_v θ)) (rest := st.map (se_v θ)) (b := θ a) (g := F0 m pc ls ((as.reverse ++ .ref a :: st).map (se_v θ))) (nL := M.2.2.1) (Ts := G.2.1) ⟨hs.1, hs.2.1, hs.2.2.1, hs.2.2.2.2.1, hs.2.2.2.2.2.1⟩ hM
    (cwV n hs.2.2.2.2.2.1 hgi rfl rfl rfl ⟨rfl, hm.2.2.2.1⟩ ⟨by show d + 1 ≤ R.frames; omega, by show 8 + (M'.2.2.1 + 11) + (32 * d + 50) ≤ R.locals; omega⟩) ⟨hp.1, hrec, hp.2⟩ rfl (by rw [List.length_map]; exact hn) hd.2.2.2.2.2.1.1 (by rw [List.map_append, List.map_reverse]; rfl) (se_room θ h8) hg ⟨by omega, by omega⟩
  refine se_after hrun hs (hd.stk hst) h1 h2 h3 h4 hC hS kr (fun E h' q ce θ' H' locs' hle hΨ hd' hθ hce hcv hcl => ?_)
  obtain ⟨i, tgt, ⟨x, nm, x1, x2, x3, x4, x5, x6, x7⟩, kk⟩ := kx E h' hle hΨ
  have hts := hs.2.2.2.2.2.1
  have hZ := hs.2.2.2.2.2.2.2.2.2.2.1
  have htab := hs.2.2.2.2.2.2.2.1
  have hil : i < M.2.2.2.2.length := (List.getElem?_eq_some_iff.mp x1).1
  have hsplit : c.exceptionTable.toList = tableOf (M.2.2.2.2.take i) ++ (⟨x.1, x.2.1, x.2.2.1, x.2.2.2⟩ : ExceptionTableEntry) :: tableOf (M.2.2.2.2.drop (i + 1)) := by
    rw [htab]
    have e1 : M.2.2.2.2 = M.2.2.2.2.take i ++ x :: M.2.2.2.2.drop (i + 1) := by
      rw [← (List.getElem?_eq_some_iff.mp x1).2, List.getElem_cons_drop, List.take_append_drop]
    simp only [tableOf]
    conv => lhs; rw [e1]
    simp
  refine vx_catch (own := M.1.cls) (name := nm) (E := E) (ce := ce) hs.2.2.2.2.1 _ _ _ hsplit (fun z hz => ?_) (by simp [covers, x3.1, x3.2]) x4 (hts _ x5) (hts _ x6) hce hcv hcl ?_
  · obtain ⟨y, hy, rfl⟩ := List.mem_map.mp hz
    obtain ⟨j, hj⟩ := List.getElem?_of_mem hy
    have hji : j < i := by
      have := (List.getElem?_eq_some_iff.mp hj).1
      rw [List.length_take] at this
      omega
    rw [List.getElem?_take, if_pos hji] at hj
    obtain ⟨y1, nm', y2, y3⟩ := x7 j hji y hj
    refine Or.inr ⟨y1, nm', hts _ y2, ?_⟩
    exact va_Nc.of (hZ.2.2.2.1 _ y3)
  · show W p l e R s m args below meth c H' locs' (cells + C1) (slots + S1) _ (F0 m x.2.2.1 ls [.ref q])
    rw [x2]
    exact kk q p e R s m args below meth c D dA A θ0 n0 mc ms θ' H' locs' (cells + C1) (slots + S1) ls hs (hd'.stk (fun v hv => by rw [List.mem_singleton.mp hv]; exact se_q _ _)) (by omega) (by omega) h3 h4
end SE3
end
