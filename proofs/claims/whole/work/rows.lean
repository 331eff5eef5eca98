section
-- ===== PART A: goes FIRST, ahead of the names: the tables' words, and 'selects' of the private methods out of them =====
/-- a private method of a class that the tables say can be made, by its rows of tables_1 -/
def lw_okq (q : MethodName × Nat) : Prop := (q.1.cls ≠ "java/lang/invoke/MethodHandle" ∧ q.1.cls ≠ "java/lang/invoke/VarHandle") ∧ Cond.instantiable q.1.cls q.2 ∈ tables_1 ∧ Cond.privateMethod q.1 ∈ tables_1 ∧ Cond.instanceMethod q.1 ∈ tables_1
theorem lw_p0 : lw_okq (⟨"VehicleChecks", "knownKind", "(I)LVehicleChecks$Kind;"⟩, 8) := ⟨⟨by decide +kernel, by decide +kernel⟩, List.mem_of_getElem? (i := 14) (by decide +kernel), List.mem_of_getElem? (i := 93) (by decide +kernel), List.mem_of_getElem? (i := 94) (by decide +kernel)⟩
theorem lw_p1 : lw_okq (⟨"java/lang/Throwable", "fillInStackTrace", "(I)Ljava/lang/Throwable;"⟩, 6) := ⟨⟨by decide +kernel, by decide +kernel⟩, List.mem_of_getElem? (i := 136) (by decide +kernel), List.mem_of_getElem? (i := 134) (by decide +kernel), List.mem_of_getElem? (i := 135) (by decide +kernel)⟩
theorem lw_p2 : lw_okq (⟨"VehicleChecks", "knownVehicle", "(I)LVehicleChecks$Vehicle;"⟩, 8) := ⟨⟨by decide +kernel, by decide +kernel⟩, List.mem_of_getElem? (i := 14) (by decide +kernel), List.mem_of_getElem? (i := 316) (by decide +kernel), List.mem_of_getElem? (i := 317) (by decide +kernel)⟩
theorem lw_p3 : lw_okq (⟨"VehicleChecks", "canRun", "(LVehicleChecks$Vehicle;)Z"⟩, 8) := ⟨⟨by decide +kernel, by decide +kernel⟩, List.mem_of_getElem? (i := 14) (by decide +kernel), List.mem_of_getElem? (i := 363) (by decide +kernel), List.mem_of_getElem? (i := 364) (by decide +kernel)⟩
theorem lw_p4 : lw_okq (⟨"VehicleChecks", "damagesWeight", "(LVehicleChecks$Vehicle;)I"⟩, 8) := ⟨⟨by decide +kernel, by decide +kernel⟩, List.mem_of_getElem? (i := 14) (by decide +kernel), List.mem_of_getElem? (i := 373) (by decide +kernel), List.mem_of_getElem? (i := 374) (by decide +kernel)⟩
theorem lw_p5 : lw_okq (⟨"VehicleChecks", "isOpenDamage", "(ILVehicleChecks$Vehicle;)Z"⟩, 8) := ⟨⟨by decide +kernel, by decide +kernel⟩, List.mem_of_getElem? (i := 14) (by decide +kernel), List.mem_of_getElem? (i := 377) (by decide +kernel), List.mem_of_getElem? (i := 378) (by decide +kernel)⟩
theorem lw_p6 : lw_okq (⟨"VehicleChecks", "damageReason", "(LVehicleChecks$Vehicle;I)I"⟩, 8) := ⟨⟨by decide +kernel, by decide +kernel⟩, List.mem_of_getElem? (i := 14) (by decide +kernel), List.mem_of_getElem? (i := 404) (by decide +kernel), List.mem_of_getElem? (i := 405) (by decide +kernel)⟩
theorem lw_p7 : lw_okq (⟨"VehicleChecks", "bestSpare", "(LVehicleChecks$Vehicle;)LVehicleChecks$Vehicle;"⟩, 8) := ⟨⟨by decide +kernel, by decide +kernel⟩, List.mem_of_getElem? (i := 14) (by decide +kernel), List.mem_of_getElem? (i := 472) (by decide +kernel), List.mem_of_getElem? (i := 473) (by decide +kernel)⟩
theorem lw_p8 : lw_okq (⟨"VehicleChecks", "isSpareFor", "(LVehicleChecks$Vehicle;LVehicleChecks$Vehicle;)Z"⟩, 8) := ⟨⟨by decide +kernel, by decide +kernel⟩, List.mem_of_getElem? (i := 14) (by decide +kernel), List.mem_of_getElem? (i := 476) (by decide +kernel), List.mem_of_getElem? (i := 477) (by decide +kernel)⟩
theorem lw_p9 : lw_okq (⟨"VehicleChecks", "openDamages", "(LVehicleChecks$Vehicle;)I"⟩, 8) := ⟨⟨by decide +kernel, by decide +kernel⟩, List.mem_of_getElem? (i := 14) (by decide +kernel), List.mem_of_getElem? (i := 544) (by decide +kernel), List.mem_of_getElem? (i := 545) (by decide +kernel)⟩
theorem lw_p10 : lw_okq (⟨"VehicleChecksModel", "goes", "(ZZZ)Z"⟩, 29) := ⟨⟨by decide +kernel, by decide +kernel⟩, List.mem_of_getElem? (i := 548) (by decide +kernel), List.mem_of_getElem? (i := 656) (by decide +kernel), List.mem_of_getElem? (i := 657) (by decide +kernel)⟩
theorem lw_p11 : lw_okq (⟨"VehicleChecksModel", "isVehicle", "(I)Z"⟩, 29) := ⟨⟨by decide +kernel, by decide +kernel⟩, List.mem_of_getElem? (i := 548) (by decide +kernel), List.mem_of_getElem? (i := 675) (by decide +kernel), List.mem_of_getElem? (i := 676) (by decide +kernel)⟩
theorem lw_p12 : lw_okq (⟨"VehicleChecksModel", "rule", "(II)I"⟩, 29) := ⟨⟨by decide +kernel, by decide +kernel⟩, List.mem_of_getElem? (i := 548) (by decide +kernel), List.mem_of_getElem? (i := 684) (by decide +kernel), List.mem_of_getElem? (i := 685) (by decide +kernel)⟩
theorem lw_p13 : lw_okq (⟨"VehicleChecksModel", "isWithin", "(III)Z"⟩, 29) := ⟨⟨by decide +kernel, by decide +kernel⟩, List.mem_of_getElem? (i := 548) (by decide +kernel), List.mem_of_getElem? (i := 688) (by decide +kernel), List.mem_of_getElem? (i := 689) (by decide +kernel)⟩
theorem lw_p14 : lw_okq (⟨"VehicleChecksModel", "fails", "(II)Z"⟩, 29) := ⟨⟨by decide +kernel, by decide +kernel⟩, List.mem_of_getElem? (i := 548) (by decide +kernel), List.mem_of_getElem? (i := 696) (by decide +kernel), List.mem_of_getElem? (i := 697) (by decide +kernel)⟩
theorem lw_p15 : lw_okq (⟨"VehicleChecksModel", "isSkipped", "(II)Z"⟩, 29) := ⟨⟨by decide +kernel, by decide +kernel⟩, List.mem_of_getElem? (i := 548) (by decide +kernel), List.mem_of_getElem? (i := 700) (by decide +kernel), List.mem_of_getElem? (i := 701) (by decide +kernel)⟩
def lw_privs_1 : List (MethodName × Nat) := [(⟨"VehicleChecks", "knownKind", "(I)LVehicleChecks$Kind;"⟩, 8), (⟨"java/lang/Throwable", "fillInStackTrace", "(I)Ljava/lang/Throwable;"⟩, 6), (⟨"VehicleChecks", "knownVehicle", "(I)LVehicleChecks$Vehicle;"⟩, 8), (⟨"VehicleChecks", "canRun", "(LVehicleChecks$Vehicle;)Z"⟩, 8), (⟨"VehicleChecks", "damagesWeight", "(LVehicleChecks$Vehicle;)I"⟩, 8), (⟨"VehicleChecks", "isOpenDamage", "(ILVehicleChecks$Vehicle;)Z"⟩, 8), (⟨"VehicleChecks", "damageReason", "(LVehicleChecks$Vehicle;I)I"⟩, 8), (⟨"VehicleChecks", "bestSpare", "(LVehicleChecks$Vehicle;)LVehicleChecks$Vehicle;"⟩, 8), (⟨"VehicleChecks", "isSpareFor", "(LVehicleChecks$Vehicle;LVehicleChecks$Vehicle;)Z"⟩, 8), (⟨"VehicleChecks", "openDamages", "(LVehicleChecks$Vehicle;)I"⟩, 8), (⟨"VehicleChecksModel", "goes", "(ZZZ)Z"⟩, 29), (⟨"VehicleChecksModel", "isVehicle", "(I)Z"⟩, 29), (⟨"VehicleChecksModel", "rule", "(II)I"⟩, 29), (⟨"VehicleChecksModel", "isWithin", "(III)Z"⟩, 29), (⟨"VehicleChecksModel", "fails", "(II)Z"⟩, 29), (⟨"VehicleChecksModel", "isSkipped", "(II)Z"⟩, 29)]
theorem lw_r1 : ∀ q ∈ lw_privs_1, lw_okq q := List.forall_mem_cons.mpr ⟨lw_p0, List.forall_mem_cons.mpr ⟨lw_p1, List.forall_mem_cons.mpr ⟨lw_p2, List.forall_mem_cons.mpr ⟨lw_p3, List.forall_mem_cons.mpr ⟨lw_p4, List.forall_mem_cons.mpr ⟨lw_p5, List.forall_mem_cons.mpr ⟨lw_p6, List.forall_mem_cons.mpr ⟨lw_p7, List.forall_mem_cons.mpr ⟨lw_p8, List.forall_mem_cons.mpr ⟨lw_p9, List.forall_mem_cons.mpr ⟨lw_p10, List.forall_mem_cons.mpr ⟨lw_p11, List.forall_mem_cons.mpr ⟨lw_p12, List.forall_mem_cons.mpr ⟨lw_p13, List.forall_mem_cons.mpr ⟨lw_p14, List.forall_mem_cons.mpr ⟨lw_p15, fun _ h => absurd h List.not_mem_nil⟩⟩⟩⟩⟩⟩⟩⟩⟩⟩⟩⟩⟩⟩⟩⟩
theorem lw_p16 : lw_okq (⟨"VehicleChecksModel", "reasonOf", "(II)I"⟩, 29) := ⟨⟨by decide +kernel, by decide +kernel⟩, List.mem_of_getElem? (i := 548) (by decide +kernel), List.mem_of_getElem? (i := 708) (by decide +kernel), List.mem_of_getElem? (i := 709) (by decide +kernel)⟩
theorem lw_p17 : lw_okq (⟨"VehicleChecksModel", "isRunning", "(I)Z"⟩, 29) := ⟨⟨by decide +kernel, by decide +kernel⟩, List.mem_of_getElem? (i := 548) (by decide +kernel), List.mem_of_getElem? (i := 716) (by decide +kernel), List.mem_of_getElem? (i := 717) (by decide +kernel)⟩
def lw_privs_2 : List (MethodName × Nat) := [(⟨"VehicleChecksModel", "reasonOf", "(II)I"⟩, 29), (⟨"VehicleChecksModel", "isRunning", "(I)Z"⟩, 29)]
theorem lw_r2 : ∀ q ∈ lw_privs_2, lw_okq q := List.forall_mem_cons.mpr ⟨lw_p16, List.forall_mem_cons.mpr ⟨lw_p17, fun _ h => absurd h List.not_mem_nil⟩⟩
def lw_privs : List (MethodName × Nat) := lw_privs_1 ++ (lw_privs_2)
def lw_tbl : List Cond := k2_sels lw_privs ++ tables_1
theorem lw_privs_ok : ∀ q ∈ lw_privs, lw_okq q := by
  show ∀ q ∈ lw_privs_1 ++ (lw_privs_2), lw_okq q
  exact List.forall_mem_append.mpr ⟨lw_r1, lw_r2⟩
/-! ===== BEGIN words of one list among another's, by their places ===== -/
theorem goodIn_r {big : List Cond} (ws : List Cond) (ps : List Nat) (hp : ws = ps.filterMap (fun i => big[i]?)) (h : ws.all goodWord = true) : GoodIn big ws := by
  intro w hw
  have h1 := List.all_eq_true.mp h w hw
  rw [hp] at hw
  obtain ⟨i, -, hi⟩ := List.mem_filterMap.mp hw
  have hm : w ∈ big := by first | exact List.mem_of_getElem? hi | exact List.getElem?_mem hi
  exact ⟨hm, good_of_word h1⟩
theorem goodIn_app {big a b : List Cond} (ha : GoodIn big a) (hb : GoodIn big b) : GoodIn big (a ++ b) := fun w h => (List.mem_append.mp h).elim (ha w) (hb w)
theorem goodIn_ca {big a b : List Cond} {c : Cond} (ha : GoodIn big (c :: a)) (hb : GoodIn big b) : GoodIn big (c :: (a ++ b)) := fun w h => (List.mem_cons.mp h).elim (fun e => ha w (List.mem_cons.mpr (Or.inl e))) (fun h => (List.mem_append.mp h).elim (fun h => ha w (List.mem_cons.mpr (Or.inr h))) (hb w))
theorem goodIn_sub {big ws : List Cond} (hm : ∀ w ∈ ws, w ∈ big) (h : ws.all goodWord = true) : GoodIn big ws := fun w hw => ⟨hm w hw, good_of_word (List.all_eq_true.mp h w hw)⟩
/-! ===== END ===== -/

/-! ===== BEGIN exceptions that leave a method, and their catching by the caller (launches without stack traces) ===== -/
section VXA
/-! The laws vx_back, vx_callV, vx_callS, vx_callSW, vx_throw0, vx_throwS follow proofs of the library, with one case more: JvmDerived/Free/Laws.lean (Back.of_free), Shelf42/LK1.lean (callV, callS), Shelf/KitTraced.lean (throwNew0V, throwNewS). -/
/-- where a method has thrown q: the class by its name, the cell, what was written, the world -/
def vx_T (XC : String → State → State → Prop) (st : State) (q : Addr) (t : State) (mc ms : Nat) (free : Addr → Prop) : Prop :=
  ∃ (E : String) (ce : Cell) (L : List Loc), XC E st t ∧ t.heap[q]? = some ce ∧ ce.vm = .none ∧ st.vm.findClass E = some ce.cls ∧ st.WarmedH t.vm ∧ st.sameButNew ({ t with vm := st.vm } : State) L mc ms ∧ ∀ z ∈ L, free z.base
def vx_Q (Qc : Array Value → State → Outcome → State → Prop) (XC : String → State → State → Prop) (mc ms : Nat) (free : Addr → Prop) : Array Value → State → Outcome → State → Prop := fun a st o t =>
  (Qc a st o t ∧ ∃ L, FrameEnd st o t L mc ms ∧ ∀ q ∈ L, free q.base) ∨ ∃ q, o = .threw q ∧ vx_T XC st q t mc ms free
/-- a callee that returns or throws -/
def vx_Met (l : Launch) (y : MethodName) (ws : List Cond) (rm : Room) (Pc : Array Value → State → Prop) (Qc : Array Value → State → Outcome → State → Prop) (XC : String → State → State → Prop) (mc ms : Nat) (free : Addr → Prop) : Prop :=
  MetFree l y (headSpec ws rm) Pc (fun _ _ _ _ _ => True) (vx_Q Qc XC mc ms free)
def vx_Post (XC : String → State → State → Prop) (mc ms : Nat) (free : Addr → Prop) : Pt → Array Value → Addr → Pt → Prop := fun A a q B =>
  ∃ (g : JFrame) (mk : MethodId) (t : State) (L : List Loc) (E : String) (ce : Cell), B.U.heap = t.heap ∧ B.U.vm = t.vm ∧ XC E (A.U.calling g mk a) t ∧ t.heap[q]? = some ce ∧ ce.vm = .none ∧ A.U.vm.findClass E = some ce.cls ∧ B.locs = A.locs ++ L ∧ (∀ z ∈ L, free z.base) ∧ B.cells = A.cells + mc ∧ B.slots = A.slots + ms
def vx_Back (l : Launch) (R : Room) (p : Program) (e : Env) (below : List Frame) (s : State) (sargs : Array Value) (y : MethodName) (len W9 : Nat)
    (Pre : Pt → Array Value → Prop) (Post : Pt → Array Value → Option Value → Pt → Prop) (PostX : Pt → Array Value → Addr → Pt → Prop) : Prop :=
  ∀ (m : MethodId) (meth : Method) (c : Code) (A : Pt) (g : JFrame) (ig : Instr) (mk : MethodId) (a : Array Value),
    Stand p l e R s m sargs below meth c A.U A.locs A.cells A.slots → g.method = m → g.locals.size = c.maxLocals → decode c.code g.pc = .ok (ig, len) →
    2 * g.monitorRoom + (g.stack.map fun v => v.category).sum ≤ W9 → A.U.methodNamed? y = some mk → Pre A a →
    (∃ (v : Option Value) (B : Pt), Stand p l e R s m sargs below meth c B.U B.locs B.cells B.slots ∧ Post A a v B ∧
      Steps p.tables e below (doInvoke e (A.U.setTop g) [] mk a).1 (B.U.setTop { g with pc := g.pc + len, stack := v.toList ++ g.stack })) ∨
    (∃ (q : Addr) (B : Pt), Stand p l e R s m sargs below meth c B.U B.locs B.cells B.slots ∧ PostX A a q B ∧
      Steps p.tables e below (doInvoke e (A.U.setTop g) [] mk a).1 ((B.U.setTop g).pushFrame (.throwing q)))
section Payer
variable {l : Launch} {R : Room} {p : Program} {e : Env} {below : List Frame} {s : State} {sargs : Array Value} {y : MethodName} {len W9 : Nat}
theorem vx_back {ws : List Cond} {rm : Room} {Pc : Array Value → State → Prop} {Qc : Array Value → State → Outcome → State → Prop} {XC : String → State → State → Prop} {mc ms : Nat} {free : Addr → Prop} {bytes : ByteArray} {maxL : Nat} {ret : Option FieldType}
    (hM : vx_Met l y ws rm Pc Qc XC mc ms free) (hblind : FrameBlind Pc) (hrc : rm.cells = mc) (hrs : rm.slots = ms)
    (hframes : rm.frames + 1 ≤ R.frames) (hlocals : W9 + (maxL + 11) + rm.locals ≤ R.locals)
    (hws : ∀ w ∈ ws, ∀ a' U, s.WarmedH U.vm → w.before a' U = true) (hcode : Cond.code y bytes maxL ret ∈ ws) (hinit : ∀ a' U, s.WarmedH U.vm → (Cond.initialized y.cls).before a' U = true) :
    vx_Back l R p e below s sargs y len W9 (PreOf R mc ms Pc) (PostOf Qc mc ms free) (vx_Post XC mc ms free) := by
  intro m meth c A g ig mk a X hg hsize hdg hW hn hp
  have h1 : (headSpec ws rm).pre.before a A.U = true := atoms_intro fun w hw => hws w hw _ _ X.warmed
  have h2 : (Cond.code y bytes maxL ret).before a A.U = true := hws _ hcode _ _ X.warmed
  have h3 : (Cond.initialized y.cls).before a A.U = true := hinit _ _ X.warmed
  have h4 : A.cells + (headSpec ws rm).room.cells ≤ R.cells := by rw [show (headSpec ws rm).room.cells = mc from hrc]; exact hp.1
  have h5 : A.slots + (headSpec ws rm).room.slots ≤ R.slots := by rw [show (headSpec ws rm).room.slots = ms from hrs]; exact hp.2.1
  have hPc : Pc a (A.U.calling g mk a) := hblind _ _ _ _ hp.2.2
  obtain ⟨U, Ls, c0, s0⟩ := A
  dsimp only [Pt.U, Pt.locs, Pt.cells, Pt.slots] at h1 h2 h3 h4 h5 X hn hPc ⊢
  obtain ⟨methY, cY, hmY, hcY, -, hlY, -, -, -, -⟩ := Cond.code_spec hn h2
  obtain ⟨kY, hkY, -⟩ := className_of_methodNamed hn
  have hinitY : kY.init = .initialized := Cond.initialized_spec (findClass_of_methodNamed hn) hkY h3
  have h : At U g.method c below := by rw [hg]; exact X.here
  have hlocals9 : W9 + (maxL + 11) + (headSpec ws rm).room.locals ≤ R.locals := hlocals
  have happ : (headSpec ws rm).appliesLoose y e.platform (U.calling g mk a) = true :=
    Spec.appliesLoose_calling (g := g) h hdg hn hkY hinitY
      (X.room_calling (g := g) (R' := (headSpec ws rm).room) hsize hmY hcY hframes (by rw [hlY]; omega) h4 h5) h1
  obtain ⟨mid, hmid⟩ := h.above
  have hfr : (U.setTop g).frames = (.java g :: mid) ++ below := by rw [State.frames_setTop' g h.top, hmid]; rfl
  obtain ⟨o, s₂, hsteps, -, hend, hq⟩ := Steps.callFree hM p X.admits X.cas X.clock (acts := []) hfr happ hPc trivial
  have hq' : vx_Q Qc XC mc ms free a (U.calling g mk a) o s₂ := hq
  rw [State.frames_setTop' g h.top] at hend
  obtain ⟨g₀, hg0⟩ := Option.isSome_iff_exists.mp h.top
  obtain ⟨r, hr⟩ := State.topJava?_eq_some.mp hg0
  have hr' : (({ U with heap := s₂.heap, slotsUsed := s₂.slotsUsed } : State).setVm s₂.vm).frames = .java g₀ :: r := hr
  rcases hq' with ⟨hqc, L, hfe, hL⟩ | ⟨q, rfl, E, ce, L, hx, hce, hcv, hcl, hW₂, hsm, hL⟩
  · obtain ⟨⟨v, rfl⟩, hW₂, e2, q2, q3, q4, q5, q6⟩ := id hfe
    have e3 : s₂ = ({ (U.calling g mk a).setFrames s₂.frames with heap := s₂.heap, slotsUsed := s₂.slotsUsed } : State).setVm s₂.vm := by
      have : s₂ = ({ s₂ with vm := (U.calling g mk a).vm } : State).setVm s₂.vm := rfl
      rw [e2] at this
      exact this
    obtain ⟨c₂, i₂, len₂, hc₂, hd₂, hf₂⟩ := hend
    have hW' : U.WarmedH s₂.vm := hW₂
    have hcc : c₂ = c := by
      have h1 : s₂.code? g.method = U.code? g.method := by
        rw [State.code?_eq, State.code?_eq, hW'.alike.method?]
      exact Option.some.inj (hc₂.symm.trans (h1.trans h.code))
    subst hcc
    have hlen : len₂ = len := by rw [hdg] at hd₂; cases hd₂; rfl
    subst hlen
    have hs₂ : s₂ = (({ U with heap := s₂.heap, slotsUsed := s₂.slotsUsed } : State).setVm s₂.vm).setTop { g with pc := g.pc + len₂, stack := v.toList ++ g.stack } := by
      refine e3.trans ?_
      rw [hf₂, State.calling_eq h.top, State.setFrames_setFrames, State.setTop_of_frames _ hr', hr]
      rfl
    have hsame : U.sameButNew ({ U with heap := s₂.heap, slotsUsed := s₂.slotsUsed } : State) L mc ms := by
      refine ⟨?_, q2, q3, q4, q5, q6⟩
      obtain ⟨t, ht, -⟩ := State.frames_cons hr
      show ({ U with heap := s₂.heap, slotsUsed := s₂.slotsUsed } : State) = { U.setFrames U.frames with heap := s₂.heap, slotsUsed := s₂.slotsUsed }
      rw [State.setFrames_self ht]
    subst hg
    refine Or.inl ⟨v, ⟨(({ U with heap := s₂.heap, slotsUsed := s₂.slotsUsed } : State).setVm s₂.vm), Ls ++ L, c0 + mc, s0 + ms⟩,
      ⟨X.admits, X.cas, X.clock, X.frames, X.room, X.hears, X.method, X.code, (X.here.setHeapUsed s₂.heap s₂.slotsUsed).setVm hW'.alike, X.tail, State.WarmedH.trans X.warmed hW', X.limits, X.bytes, X.same.trans (hsame.setVm s.vm)⟩,
      ⟨g, mk, s₂, L, rfl, rfl, hqc, rfl, hL, rfl, rfl⟩, ?_⟩
    show Steps p.tables e below _ ((({ U with heap := s₂.heap, slotsUsed := s₂.slotsUsed } : State).setVm s₂.vm).setTop { g with pc := g.pc + len₂, stack := v.toList ++ g.stack })
    rw [← hs₂]
    exact hsteps
  · obtain ⟨e2, q2, q3, q4, q5, q6⟩ := id hsm
    have e3 : s₂ = ({ (U.calling g mk a).setFrames s₂.frames with heap := s₂.heap, slotsUsed := s₂.slotsUsed } : State).setVm s₂.vm := by
      have : s₂ = ({ s₂ with vm := (U.calling g mk a).vm } : State).setVm s₂.vm := rfl
      rw [e2] at this
      exact this
    have hf₂ : s₂.frames = .throwing q :: .java g :: U.frames.tail := hend
    have hW' : U.WarmedH s₂.vm := hW₂
    have hs₂ : s₂ = ((({ U with heap := s₂.heap, slotsUsed := s₂.slotsUsed } : State).setVm s₂.vm).setTop g).pushFrame (.throwing q) := by
      refine e3.trans ?_
      rw [hf₂, State.calling_eq h.top, State.setFrames_setFrames, State.pushFrame, State.frames_setTop _ hr', State.setTop_of_frames _ hr', State.setFrames_setFrames, hr]
      rfl
    have hsame : U.sameButNew ({ U with heap := s₂.heap, slotsUsed := s₂.slotsUsed } : State) L mc ms := by
      refine ⟨?_, q2, q3, q4, q5, q6⟩
      obtain ⟨t, ht, -⟩ := State.frames_cons hr
      show ({ U with heap := s₂.heap, slotsUsed := s₂.slotsUsed } : State) = { U.setFrames U.frames with heap := s₂.heap, slotsUsed := s₂.slotsUsed }
      rw [State.setFrames_self ht]
    subst hg
    refine Or.inr ⟨q, ⟨(({ U with heap := s₂.heap, slotsUsed := s₂.slotsUsed } : State).setVm s₂.vm), Ls ++ L, c0 + mc, s0 + ms⟩,
      ⟨X.admits, X.cas, X.clock, X.frames, X.room, X.hears, X.method, X.code, (X.here.setHeapUsed s₂.heap s₂.slotsUsed).setVm hW'.alike, X.tail, State.WarmedH.trans X.warmed hW', X.limits, X.bytes, X.same.trans (hsame.setVm s.vm)⟩,
      ⟨g, mk, s₂, L, E, ce, rfl, rfl, hx, hce, hcv, hcl, rfl, hL, rfl, rfl⟩, ?_⟩
    show Steps p.tables e below _ (((({ U with heap := s₂.heap, slotsUsed := s₂.slotsUsed } : State).setVm s₂.vm).setTop g).pushFrame (.throwing q))
    rw [← hs₂]
    exact hsteps
end Payer
section Calls
variable {p : Program} {l : Launch} {e : Env} {R : Room} {s : State} {m : MethodId} {args : Array Value} {below : List Frame} {meth : Method} {c : Code} {T : State} {locs : List Loc} {cells slots : Nat}
theorem vx_callV (X : Stand p l e R s m args below meth c T locs cells slots) (hexec : p.tables.exec = Jvm.exec) {own C : String} {index : Nat} {y : MethodName} {bytes : ByteArray} {maxL : Nat} {ret : Option FieldType}
    (hown : s.vm.findClass own = some m.cls) (hlink : (Cond.methodLink own index y).before args s = true) (hinst : (Cond.instanceMethod y).before args s = true) (hsel : (Cond.selects C y y).before args s = true)
    (hcode : (Cond.code y bytes maxL ret).before args s = true) (hy : y.cls ≠ "java/lang/invoke/MethodHandle" ∧ y.cls ≠ "java/lang/invoke/VarHandle")
    {W9 : Nat} {Pre : Pt → Array Value → Prop} {Post : Pt → Array Value → Option Value → Pt → Prop} {PostX : Pt → Array Value → Addr → Pt → Prop} (hK : vx_Back l R p e below s args y 3 W9 Pre Post PostX)
    {b : Addr} {cellB : Cell} (hcell : T.heap[b]? = some cellB) (hobj : cellB.vm.isStatics = false) (hcls : s.vm.findClass C = some cellB.cls)
    {g : JFrame} (hg : g.method = m) (hsize : g.locals.size = c.maxLocals) {argsL rest : List Value} (hlen : ∀ sig, parseMethodDescriptor y.desc = some sig → argsL.length = sig.parameters.length)
    (hstack : g.stack = argsL.reverse ++ .ref b :: rest) (hW : 2 * g.monitorRoom + (rest.map fun v => v.category).sum ≤ W9) (hdg : decode c.code g.pc = .ok (.invokevirtual index, 3))
    (hpre : ∀ vm₁, s.WarmedH vm₁ → Pre ⟨T.setVm vm₁, locs, cells, slots⟩ (Value.ref b :: argsL).toArray) :
    (∃ (v : Option Value) (vm₁ : Vm) (B : Pt), s.WarmedH vm₁ ∧ Stand p l e R s m args below meth c B.U B.locs B.cells B.slots ∧ Post ⟨T.setVm vm₁, locs, cells, slots⟩ (Value.ref b :: argsL).toArray v B ∧
      ∀ target, Steps p.tables e below (B.U.setTop { g with pc := g.pc + 3, stack := v.toList ++ rest }) target → Steps p.tables e below (T.setTop g) target) ∨
    (∃ (q : Addr) (vm₁ : Vm) (B : Pt), s.WarmedH vm₁ ∧ Stand p l e R s m args below meth c B.U B.locs B.cells B.slots ∧ PostX ⟨T.setVm vm₁, locs, cells, slots⟩ (Value.ref b :: argsL).toArray q B ∧
      Steps p.tables e below (T.setTop g) ((B.U.setTop { g with stack := rest }).pushFrame (.throwing q))) := by
  obtain ⟨mk, methM, hnamed, hmethM, hstM, habM⟩ := Cond.instanceMethod_spec hinst
  obtain ⟨methM', cM, hmethM', -, -, -, -, -, -, hsigM⟩ := Cond.code_spec hnamed hcode
  cases hmethM.symm.trans hmethM'
  obtain ⟨c2, r2, m2, q1, q2, q3, q4, kP, hkP, hkPi⟩ := Cond.selects_spec hsel
  cases hcls.symm.trans q1
  cases (State.methodFound?_of_named hnamed hy).symm.trans q2
  cases hnamed.symm.trans q3
  have hselP : selectMethod e.platform s.vm cellB.cls mk = .method mk := by rw [Launch.admits_selectMethod X.admits]; exact q4
  obtain ⟨vm₁, X₁, hstep₁⟩ := X.invokevirtual hexec hown hlink hnamed hmethM hstM hkP hkPi hy (a := b) (cell := cellB) hcell
    (fun z h => by rw [h] at hobj; cases hobj) hselP hmethM habM hkP hkPi (g := g) hg (argsL := argsL) (rest := rest) (hlen _ hsigM) hstack hdg
  rcases hK m meth c ⟨T.setVm vm₁, locs, cells, slots⟩ { g with stack := rest } (.invokevirtual index) mk (Value.ref b :: argsL).toArray X₁ hg hsize hdg hW (X₁.named hnamed) (hpre vm₁ X₁.warmed) with ⟨v, B, X', hpost, hsteps⟩ | ⟨q, B, X', hpost, hsteps⟩
  · exact Or.inl ⟨v, vm₁, B, X₁.warmed, X', hpost, fun target h => hstep₁ _ fun acts => by rw [doInvoke_state]; exact hsteps.trans h⟩
  · exact Or.inr ⟨q, vm₁, B, X₁.warmed, X', hpost, hstep₁ _ fun acts => by rw [doInvoke_state]; exact hsteps⟩
theorem vx_callS (X : Stand p l e R s m args below meth c T locs cells slots) (hexec : p.tables.exec = Jvm.exec) {own : String} {index : Nat} {y : MethodName} {bytes : ByteArray} {maxL : Nat} {ret : Option FieldType}
    (hown : s.vm.findClass own = some m.cls) (hlink : (Cond.methodLink own index y).before args s = true) (hstat : (Cond.static y).before args s = true) (hinit : (Cond.initialized y.cls).before args s = true)
    (hcode : (Cond.code y bytes maxL ret).before args s = true) (hy : y.cls ≠ "java/lang/invoke/MethodHandle" ∧ y.cls ≠ "java/lang/invoke/VarHandle")
    {W9 : Nat} {Pre : Pt → Array Value → Prop} {Post : Pt → Array Value → Option Value → Pt → Prop} {PostX : Pt → Array Value → Addr → Pt → Prop} (hK : vx_Back l R p e below s args y 3 W9 Pre Post PostX)
    {g : JFrame} (hg : g.method = m) (hsize : g.locals.size = c.maxLocals) {argsL rest : List Value} (hlen : ∀ sig, parseMethodDescriptor y.desc = some sig → argsL.length = sig.parameters.length)
    (hstack : g.stack = argsL.reverse ++ rest) (hW : 2 * g.monitorRoom + (rest.map fun v => v.category).sum ≤ W9) (hdg : decode c.code g.pc = .ok (.invokestatic index, 3))
    (hpre : ∀ vm₁, s.WarmedH vm₁ → Pre ⟨T.setVm vm₁, locs, cells, slots⟩ argsL.toArray) :
    (∃ (v : Option Value) (vm₁ : Vm) (B : Pt), s.WarmedH vm₁ ∧ Stand p l e R s m args below meth c B.U B.locs B.cells B.slots ∧ Post ⟨T.setVm vm₁, locs, cells, slots⟩ argsL.toArray v B ∧
      ∀ target, Steps p.tables e below (B.U.setTop { g with pc := g.pc + 3, stack := v.toList ++ rest }) target → Steps p.tables e below (T.setTop g) target) ∨
    (∃ (q : Addr) (vm₁ : Vm) (B : Pt), s.WarmedH vm₁ ∧ Stand p l e R s m args below meth c B.U B.locs B.cells B.slots ∧ PostX ⟨T.setVm vm₁, locs, cells, slots⟩ argsL.toArray q B ∧
      Steps p.tables e below (T.setTop g) ((B.U.setTop { g with stack := rest }).pushFrame (.throwing q))) := by
  obtain ⟨mk, hnamed⟩ := Cond.code_named hcode
  obtain ⟨methM, cM, hmethM, -, -, -, -, -, -, hsigM⟩ := Cond.code_spec hnamed hcode
  have hstatic : methM.isStatic = true := Cond.static_spec hnamed hmethM hstat
  obtain ⟨kP, hkP, -⟩ := className_of_methodNamed hnamed
  have hinitP : kP.init = .initialized := Cond.initialized_spec (findClass_of_methodNamed hnamed) hkP hinit
  obtain ⟨vm₁, X₁, hstep₁⟩ := X.invokestatic hexec hown hlink hnamed hmethM hstatic hkP hinitP hy (g := g) hg (argsL := argsL) (rest := rest) (hlen _ hsigM) hstack hdg
  rcases hK m meth c ⟨T.setVm vm₁, locs, cells, slots⟩ { g with stack := rest } (.invokestatic index) mk argsL.toArray X₁ hg hsize hdg hW (X₁.named hnamed) (hpre vm₁ X₁.warmed) with ⟨v, B, X', hpost, hsteps⟩ | ⟨q, B, X', hpost, hsteps⟩
  · exact Or.inl ⟨v, vm₁, B, X₁.warmed, X', hpost, fun target h => hstep₁ _ fun acts => by rw [doInvoke_state]; exact hsteps.trans h⟩
  · exact Or.inr ⟨q, vm₁, B, X₁.warmed, X', hpost, hstep₁ _ fun acts => by rw [doInvoke_state]; exact hsteps⟩
end Calls
theorem vx_cls {s : State} {T : State} {vm₁ : Vm} {E : String} {k : ClassId} (hW : s.WarmedH vm₁) (h : (T.setVm vm₁).vm.findClass E = some k) : s.vm.findClass E = some k := by
  have h1 : vm₁.findClass E = some k := h
  rw [hW.alike.findClass] at h1
  exact h1
/-- the method's frame g, with q thrown over it -/
def vx_W (p : Program) (l : Launch) (e : Env) (R : Room) (s : State) (m : MethodId) (args : Array Value) (below : List Frame) (meth : Method) (c : Code) (H : Heap) (locs : List Loc) (cells slots : Nat) (Q : State → Prop) (g : JFrame) (q : Addr) : Prop :=
  ∀ T : State, T.heap = H → Stand p l e R s m args below meth c T locs cells slots → ∃ t, Steps p.tables e below ((T.setTop g).pushFrame (.throwing q)) t ∧ Q t
def vx_Run (p : Program) (l : Launch) (e : Env) (R : Room) (s : State) (m : MethodId) (args : Array Value) (below : List Frame) (meth : Method) (c : Code) (H : Heap) (locs : List Loc) (cells slots mc ms : Nat) (g : JFrame) (rest : List Value) (Qa : State → Outcome → State → Prop) (XC : String → State → State → Prop) (free : Addr → Prop) : Prop :=
  ∀ T : State, T.heap = H → Stand p l e R s m args below meth c T locs cells slots →
    (∃ (v : Option Value) (st₀ t T' : State) (L : List Loc), st₀.heap = H ∧ Stand p l e R s m args below meth c T' (locs ++ L) (cells + mc) (slots + ms) ∧ (∀ q ∈ L, free q.base) ∧ T'.heap = t.heap ∧ T'.vm = t.vm ∧ Qa st₀ (.returned v) t ∧
      Goes p e below T g T' { g with pc := g.pc + 3, stack := v.toList ++ rest }) ∨
    (∃ (q : Addr) (st₀ t T' : State) (L : List Loc) (E : String) (ce : Cell), st₀.heap = H ∧ Stand p l e R s m args below meth c T' (locs ++ L) (cells + mc) (slots + ms) ∧ (∀ z ∈ L, free z.base) ∧ T'.heap = t.heap ∧ T'.vm = t.vm ∧ XC E st₀ t ∧ t.heap[q]? = some ce ∧ ce.vm = .none ∧ s.vm.findClass E = some ce.cls ∧
      Steps p.tables e below (T.setTop g) ((T'.setTop { g with stack := rest }).pushFrame (.throwing q)))
def vx_X {S : Type} (px : S → Prop) (B : String → S → State → Prop) (A : Nat → Prop) : String → State → State → Prop := fun E st t => ∃ u : S, px u ∧ B E u t ∧ va_F A st t
section Runs
variable {p : Program} {l : Launch} {e : Env} {R : Room} {s : State} {m : MethodId} {args : Array Value} {below : List Frame} {meth : Method} {c : Code} {H : Heap} {locs : List Loc} {cells slots : Nat}
variable {y : MethodName} {bytes cc : ByteArray} {maxL nL mc ms n index : Nat} {ret : Option FieldType} {ws : List Cond} {rm : Room} {Pc : Array Value → State → Prop} {Qc : Array Value → State → Outcome → State → Prop} {XC : String → State → State → Prop} {free : Addr → Prop} {Ts : List Cond} {own C : String} {b : Addr} {As rest : List Value} {g : JFrame}
theorem vx_callBack (cb : CallB R s args own index y bytes maxL ret ws rm mc ms n) (hM : vx_Met l y ws rm Pc Qc XC mc ms free) (hbl : FrameBlind Pc) : vx_Back l R p e below s args y 3 8 (PreOf R mc ms Pc) (PostOf Qc mc ms free) (vx_Post XC mc ms free) := by
  obtain ⟨hrc, hrs, hfr, hlo, hws, hcw, -, hini, -⟩ := cb
  exact vx_back (bytes := bytes) (maxL := maxL) (ret := ret) hM hbl hrc hrs hfr hlo hws hcw (fun a' U hW => word_at hW (Or.inl (by first | rfl | simp [Cond.onTables, Cond.keeps, Cond.steady])) hini)
theorem vx_runV (S : CallFix p m c cc nL s args Ts own) (hM : vx_Met l y ws rm Pc Qc XC mc ms free) (cw : CallW R s args own C index y bytes maxL ret ws rm mc ms n) (hp : PreV s H C b Pc As)
    (hg : g.method = m) (hn : As.length = n) (hsize : g.locals.size = nL) (hstack : g.stack = As.reverse ++ .ref b :: rest) (hW : 2 * g.monitorRoom + (rest.map fun v => v.category).sum ≤ 8) (hdg : decode cc g.pc = .ok (.invokevirtual index, 3)) (hf : cells + mc ≤ R.cells ∧ slots + ms ≤ R.slots) :
    vx_Run p l e R s m args below meth c H locs cells slots mc ms g rest (Qc (Value.ref b :: As).toArray) XC free := by
  have hK : vx_Back l R p e below s args y 3 8 (PreOf R mc ms Pc) (PostOf Qc mc ms free) (vx_Post XC mc ms free) := vx_callBack cw.1 hM hp.1
  obtain ⟨⟨-, -, -, -, -, -, hcode, -, hy, hlen, hl⟩, hin, hse⟩ := cw
  obtain ⟨hx, hb, hml, ho, -⟩ := S
  obtain ⟨-, ⟨cellB, hcB, hoB, hclB⟩, hPc⟩ := hp
  intro T hT X
  rcases vx_callV X hx (C := C) (bytes := bytes) (maxL := maxL) (ret := ret) ho hl hin hse hcode hy hK (by rw [hT]; exact hcB) hoB hclB hg (hsize.trans hml.symm) (argsL := As) (rest := rest) (fun sig h => hn.trans (hlen sig h)) hstack hW (by rw [hb]; exact hdg)
    (fun vm₁ hW₁ => ⟨hf.1, hf.2, hPc (T.setVm vm₁) hT hW₁⟩) with ⟨v, vm₁, ⟨U', l2, c2, s2⟩, hW₁, X', ⟨g', mk, t, L, e1, e2, hq, h1, hL, h2, h3⟩, st⟩ | ⟨q, vm₁, ⟨U', l2, c2, s2⟩, hW₁, X', ⟨g', mk, t, L, E, ce, e1, e2, hq, hce, hcv, hcl, h1, hL, h2, h3⟩, st⟩
  · dsimp only [Pt.U, Pt.locs, Pt.cells, Pt.slots] at X' e1 e2 h1 h2 h3 st
    subst h1; subst h2; subst h3
    exact Or.inl ⟨v, (T.setVm vm₁).calling g' mk (Value.ref b :: As).toArray, t, U', L, hT, X', hL, e1, e2, hq, st⟩
  · dsimp only [Pt.U, Pt.locs, Pt.cells, Pt.slots] at X' e1 e2 h1 h2 h3 st hcl
    subst h1; subst h2; subst h3
    exact Or.inr ⟨q, (T.setVm vm₁).calling g' mk (Value.ref b :: As).toArray, t, U', L, E, ce, hT, X', hL, e1, e2, hq, hce, hcv, vx_cls hW₁ hcl, st⟩
theorem vx_runS (S : CallFix p m c cc nL s args Ts own) (hM : vx_Met l y ws rm Pc Qc XC mc ms free) (cw : CallB R s args own index y bytes maxL ret ws rm mc ms n ∧ (Cond.static y).before args s = true) (hp : PreS s H Pc As)
    (hg : g.method = m) (hn : As.length = n) (hsize : g.locals.size = nL) (hstack : g.stack = As.reverse ++ rest) (hW : 2 * g.monitorRoom + (rest.map fun v => v.category).sum ≤ 8) (hdg : decode cc g.pc = .ok (.invokestatic index, 3)) (hf : cells + mc ≤ R.cells ∧ slots + ms ≤ R.slots) :
    vx_Run p l e R s m args below meth c H locs cells slots mc ms g rest (Qc As.toArray) XC free := by
  have hK : vx_Back l R p e below s args y 3 8 (PreOf R mc ms Pc) (PostOf Qc mc ms free) (vx_Post XC mc ms free) := vx_callBack cw.1 hM hp.1
  obtain ⟨⟨-, -, -, -, -, -, hcode, hini, hy, hlen, hl⟩, hstt⟩ := cw
  obtain ⟨hx, hb, hml, ho, -⟩ := S
  intro T hT X
  rcases vx_callS X hx (bytes := bytes) (maxL := maxL) (ret := ret) ho hl hstt hini hcode hy hK hg (hsize.trans hml.symm) (argsL := As) (rest := rest) (fun sig h => hn.trans (hlen sig h)) hstack hW (by rw [hb]; exact hdg)
    (fun vm₁ hW₁ => ⟨hf.1, hf.2, hp.2 (T.setVm vm₁) hT hW₁⟩) with ⟨v, vm₁, ⟨U', l2, c2, s2⟩, hW₁, X', ⟨g', mk, t, L, e1, e2, hq, h1, hL, h2, h3⟩, st⟩ | ⟨q, vm₁, ⟨U', l2, c2, s2⟩, hW₁, X', ⟨g', mk, t, L, E, ce, e1, e2, hq, hce, hcv, hcl, h1, hL, h2, h3⟩, st⟩
  · dsimp only [Pt.U, Pt.locs, Pt.cells, Pt.slots] at X' e1 e2 h1 h2 h3 st
    subst h1; subst h2; subst h3
    exact Or.inl ⟨v, (T.setVm vm₁).calling g' mk As.toArray, t, U', L, hT, X', hL, e1, e2, hq, st⟩
  · dsimp only [Pt.U, Pt.locs, Pt.cells, Pt.slots] at X' e1 e2 h1 h2 h3 st hcl
    subst h1; subst h2; subst h3
    exact Or.inr ⟨q, (T.setVm vm₁).calling g' mk As.toArray, t, U', L, E, ce, hT, X', hL, e1, e2, hq, hce, hcv, vx_cls hW₁ hcl, st⟩
end Runs
section Rows
variable {p : Program} {l : Launch} {e : Env} {R : Room} {s : State} {m : MethodId} {args : Array Value} {below : List Frame} {meth : Method} {c : Code} {H : Heap} {locs : List Loc} {cells slots : Nat} {Q : State → Prop}
variable {mc ms : Nat} {free : Addr → Prop} {A0 A1 : Nat → Prop} {H0 : Heap} {a : Array Value} {pc : Nat} {ls : Array Slot} {st0 rest : List Value}
theorem vx_keep {st₀ t T' : State} {L : List Loc} (h0 : st₀.heap = H) (e1 : T'.heap = t.heap) (hS : va_S A0 H0 H locs) (hA : ∀ q, q < H.size → A1 q → A0 q) (hf : ∀ q, free q → A0 q) (hL : ∀ q ∈ L, free q.base) (hF : va_F A1 st₀ t) :
    H.size ≤ T'.heap.size ∧ (∀ q : Nat, q < H.size → ¬ A1 q → T'.heap[q]? = H[q]?) ∧ va_S A0 H0 T'.heap (locs ++ L) := by
  obtain ⟨hz, hk⟩ := hF
  rw [h0] at hz hk
  exact ⟨by rw [e1]; exact hz, fun q h1 h2 => by rw [e1]; exact hk q h1 h2,
    ⟨Nat.le_trans hS.1 (by rw [e1]; exact hz), fun q h1 h2 => by rw [e1, hk q (Nat.lt_of_lt_of_le h1 hS.1) (fun z => h2 (hA q (Nat.lt_of_lt_of_le h1 hS.1) z))]; exact hS.2.1 q h1 h2, fun q hq => by
      rcases List.mem_append.mp hq with h | h
      · exact hS.2.2 q h
      · exact hf _ (hL q h)⟩⟩
theorem vx_calli {S SX : Type} {post : Int32 → S → Prop} {px : SX → Prop} {B : S → State → Prop} {BX : String → SX → State → Prop} {AX : Nat → Prop} (hr : vx_Run p l e R s m args below meth c H locs cells slots mc ms (F0 m pc ls st0) rest (va_Qi post B A1 a) (vx_X px BX AX) free) (hS : va_S A0 H0 H locs) (hA : ∀ q, q < H.size → A1 q → A0 q) (hf : ∀ q, free q → A0 q) (hAX : ∀ q, q < H.size → AX q → A0 q)
    (kx : ∀ (E : String) (ce : Cell) (q9 : Addr) (u : SX) (t : State) (H1 : Heap) (locs1 : List Loc), t.heap = H1 → s.vm.Alike t.vm → px u → BX E u t → H.size ≤ H1.size → (∀ q : Nat, q < H.size → ¬ AX q → H1[q]? = H[q]?) → va_S A0 H0 H1 locs1 → H1[q9]? = some ce → ce.vm = .none → s.vm.findClass E = some ce.cls → vx_W p l e R s m args below meth c H1 locs1 (cells + mc) (slots + ms) Q (F0 m pc ls rest) q9)
    (kk : ∀ (r : Int32) (u : S) (t : State) (H1 : Heap) (locs1 : List Loc), t.heap = H1 → s.vm.Alike t.vm → post r u → B u t → H.size ≤ H1.size → (∀ q : Nat, q < H.size → ¬ A1 q → H1[q]? = H[q]?) → va_S A0 H0 H1 locs1 → W p l e R s m args below meth c H1 locs1 (cells + mc) (slots + ms) Q (F0 m (pc + 3) ls (.int r :: rest))) : W p l e R s m args below meth c H locs cells slots Q (F0 m pc ls st0) := by
  intro T hT X
  rcases hr T hT X with ⟨v, st₀, t, T', L, h0, X', hL, e1, e2, ⟨⟨r, u, hv, hp, hb⟩, hF⟩, st⟩ | ⟨q, st₀, t, T', L, E, ce, h0, X', hL, e1, e2, ⟨u, hp, hb, hF⟩, hce, hcv, hcl, st⟩
  · cases hv
    obtain ⟨k1, k2, k3⟩ := vx_keep h0 e1 hS hA hf hL hF
    obtain ⟨t2, a1, b1⟩ := kk r u t T'.heap (locs ++ L) e1.symm (by rw [← e2]; exact X'.warmed.alike) hp hb k1 k2 k3 T' rfl X'
    exact ⟨t2, st t2 a1, b1⟩
  · obtain ⟨k1, k2, k3⟩ := vx_keep h0 e1 hS hAX hf hL hF
    obtain ⟨t2, a1, b1⟩ := kx E ce q u t T'.heap (locs ++ L) e1.symm (by rw [← e2]; exact X'.warmed.alike) hp hb k1 k2 k3 (by rw [e1]; exact hce) hcv hcl T' rfl X'
    exact ⟨t2, st.trans a1, b1⟩
theorem vx_calll {S SX : Type} {post : Int64 → S → Prop} {px : SX → Prop} {B : S → State → Prop} {BX : String → SX → State → Prop} {AX : Nat → Prop} (hr : vx_Run p l e R s m args below meth c H locs cells slots mc ms (F0 m pc ls st0) rest (va_Ql post B A1 a) (vx_X px BX AX) free) (hS : va_S A0 H0 H locs) (hA : ∀ q, q < H.size → A1 q → A0 q) (hf : ∀ q, free q → A0 q) (hAX : ∀ q, q < H.size → AX q → A0 q)
    (kx : ∀ (E : String) (ce : Cell) (q9 : Addr) (u : SX) (t : State) (H1 : Heap) (locs1 : List Loc), t.heap = H1 → s.vm.Alike t.vm → px u → BX E u t → H.size ≤ H1.size → (∀ q : Nat, q < H.size → ¬ AX q → H1[q]? = H[q]?) → va_S A0 H0 H1 locs1 → H1[q9]? = some ce → ce.vm = .none → s.vm.findClass E = some ce.cls → vx_W p l e R s m args below meth c H1 locs1 (cells + mc) (slots + ms) Q (F0 m pc ls rest) q9)
    (kk : ∀ (r : Int64) (u : S) (t : State) (H1 : Heap) (locs1 : List Loc), t.heap = H1 → s.vm.Alike t.vm → post r u → B u t → H.size ≤ H1.size → (∀ q : Nat, q < H.size → ¬ A1 q → H1[q]? = H[q]?) → va_S A0 H0 H1 locs1 → W p l e R s m args below meth c H1 locs1 (cells + mc) (slots + ms) Q (F0 m (pc + 3) ls (.long r :: rest))) : W p l e R s m args below meth c H locs cells slots Q (F0 m pc ls st0) := by
  intro T hT X
  rcases hr T hT X with ⟨v, st₀, t, T', L, h0, X', hL, e1, e2, ⟨⟨r, u, hv, hp, hb⟩, hF⟩, st⟩ | ⟨q, st₀, t, T', L, E, ce, h0, X', hL, e1, e2, ⟨u, hp, hb, hF⟩, hce, hcv, hcl, st⟩
  · cases hv
    obtain ⟨k1, k2, k3⟩ := vx_keep h0 e1 hS hA hf hL hF
    obtain ⟨t2, a1, b1⟩ := kk r u t T'.heap (locs ++ L) e1.symm (by rw [← e2]; exact X'.warmed.alike) hp hb k1 k2 k3 T' rfl X'
    exact ⟨t2, st t2 a1, b1⟩
  · obtain ⟨k1, k2, k3⟩ := vx_keep h0 e1 hS hAX hf hL hF
    obtain ⟨t2, a1, b1⟩ := kx E ce q u t T'.heap (locs ++ L) e1.symm (by rw [← e2]; exact X'.warmed.alike) hp hb k1 k2 k3 (by rw [e1]; exact hce) hcv hcl T' rfl X'
    exact ⟨t2, st.trans a1, b1⟩
theorem vx_callf {S SX : Type} {post : UInt32 → S → Prop} {px : SX → Prop} {B : S → State → Prop} {BX : String → SX → State → Prop} {AX : Nat → Prop} (hr : vx_Run p l e R s m args below meth c H locs cells slots mc ms (F0 m pc ls st0) rest (va_Qf post B A1 a) (vx_X px BX AX) free) (hS : va_S A0 H0 H locs) (hA : ∀ q, q < H.size → A1 q → A0 q) (hf : ∀ q, free q → A0 q) (hAX : ∀ q, q < H.size → AX q → A0 q)
    (kx : ∀ (E : String) (ce : Cell) (q9 : Addr) (u : SX) (t : State) (H1 : Heap) (locs1 : List Loc), t.heap = H1 → s.vm.Alike t.vm → px u → BX E u t → H.size ≤ H1.size → (∀ q : Nat, q < H.size → ¬ AX q → H1[q]? = H[q]?) → va_S A0 H0 H1 locs1 → H1[q9]? = some ce → ce.vm = .none → s.vm.findClass E = some ce.cls → vx_W p l e R s m args below meth c H1 locs1 (cells + mc) (slots + ms) Q (F0 m pc ls rest) q9)
    (kk : ∀ (r : UInt32) (u : S) (t : State) (H1 : Heap) (locs1 : List Loc), t.heap = H1 → s.vm.Alike t.vm → post r u → B u t → H.size ≤ H1.size → (∀ q : Nat, q < H.size → ¬ A1 q → H1[q]? = H[q]?) → va_S A0 H0 H1 locs1 → W p l e R s m args below meth c H1 locs1 (cells + mc) (slots + ms) Q (F0 m (pc + 3) ls (.float r :: rest))) : W p l e R s m args below meth c H locs cells slots Q (F0 m pc ls st0) := by
  intro T hT X
  rcases hr T hT X with ⟨v, st₀, t, T', L, h0, X', hL, e1, e2, ⟨⟨r, u, hv, hp, hb⟩, hF⟩, st⟩ | ⟨q, st₀, t, T', L, E, ce, h0, X', hL, e1, e2, ⟨u, hp, hb, hF⟩, hce, hcv, hcl, st⟩
  · cases hv
    obtain ⟨k1, k2, k3⟩ := vx_keep h0 e1 hS hA hf hL hF
    obtain ⟨t2, a1, b1⟩ := kk r u t T'.heap (locs ++ L) e1.symm (by rw [← e2]; exact X'.warmed.alike) hp hb k1 k2 k3 T' rfl X'
    exact ⟨t2, st t2 a1, b1⟩
  · obtain ⟨k1, k2, k3⟩ := vx_keep h0 e1 hS hAX hf hL hF
    obtain ⟨t2, a1, b1⟩ := kx E ce q u t T'.heap (locs ++ L) e1.symm (by rw [← e2]; exact X'.warmed.alike) hp hb k1 k2 k3 (by rw [e1]; exact hce) hcv hcl T' rfl X'
    exact ⟨t2, st.trans a1, b1⟩
theorem vx_calld {S SX : Type} {post : UInt64 → S → Prop} {px : SX → Prop} {B : S → State → Prop} {BX : String → SX → State → Prop} {AX : Nat → Prop} (hr : vx_Run p l e R s m args below meth c H locs cells slots mc ms (F0 m pc ls st0) rest (va_Qd post B A1 a) (vx_X px BX AX) free) (hS : va_S A0 H0 H locs) (hA : ∀ q, q < H.size → A1 q → A0 q) (hf : ∀ q, free q → A0 q) (hAX : ∀ q, q < H.size → AX q → A0 q)
    (kx : ∀ (E : String) (ce : Cell) (q9 : Addr) (u : SX) (t : State) (H1 : Heap) (locs1 : List Loc), t.heap = H1 → s.vm.Alike t.vm → px u → BX E u t → H.size ≤ H1.size → (∀ q : Nat, q < H.size → ¬ AX q → H1[q]? = H[q]?) → va_S A0 H0 H1 locs1 → H1[q9]? = some ce → ce.vm = .none → s.vm.findClass E = some ce.cls → vx_W p l e R s m args below meth c H1 locs1 (cells + mc) (slots + ms) Q (F0 m pc ls rest) q9)
    (kk : ∀ (r : UInt64) (u : S) (t : State) (H1 : Heap) (locs1 : List Loc), t.heap = H1 → s.vm.Alike t.vm → post r u → B u t → H.size ≤ H1.size → (∀ q : Nat, q < H.size → ¬ A1 q → H1[q]? = H[q]?) → va_S A0 H0 H1 locs1 → W p l e R s m args below meth c H1 locs1 (cells + mc) (slots + ms) Q (F0 m (pc + 3) ls (.double r :: rest))) : W p l e R s m args below meth c H locs cells slots Q (F0 m pc ls st0) := by
  intro T hT X
  rcases hr T hT X with ⟨v, st₀, t, T', L, h0, X', hL, e1, e2, ⟨⟨r, u, hv, hp, hb⟩, hF⟩, st⟩ | ⟨q, st₀, t, T', L, E, ce, h0, X', hL, e1, e2, ⟨u, hp, hb, hF⟩, hce, hcv, hcl, st⟩
  · cases hv
    obtain ⟨k1, k2, k3⟩ := vx_keep h0 e1 hS hA hf hL hF
    obtain ⟨t2, a1, b1⟩ := kk r u t T'.heap (locs ++ L) e1.symm (by rw [← e2]; exact X'.warmed.alike) hp hb k1 k2 k3 T' rfl X'
    exact ⟨t2, st t2 a1, b1⟩
  · obtain ⟨k1, k2, k3⟩ := vx_keep h0 e1 hS hAX hf hL hF
    obtain ⟨t2, a1, b1⟩ := kx E ce q u t T'.heap (locs ++ L) e1.symm (by rw [← e2]; exact X'.warmed.alike) hp hb k1 k2 k3 (by rw [e1]; exact hce) hcv hcl T' rfl X'
    exact ⟨t2, st.trans a1, b1⟩
theorem vx_callv {S SX : Type} {post : S → Prop} {px : SX → Prop} {B : S → State → Prop} {BX : String → SX → State → Prop} {AX : Nat → Prop} (hr : vx_Run p l e R s m args below meth c H locs cells slots mc ms (F0 m pc ls st0) rest (va_Qv post B A1 a) (vx_X px BX AX) free) (hS : va_S A0 H0 H locs) (hA : ∀ q, q < H.size → A1 q → A0 q) (hf : ∀ q, free q → A0 q) (hAX : ∀ q, q < H.size → AX q → A0 q)
    (kx : ∀ (E : String) (ce : Cell) (q9 : Addr) (u : SX) (t : State) (H1 : Heap) (locs1 : List Loc), t.heap = H1 → s.vm.Alike t.vm → px u → BX E u t → H.size ≤ H1.size → (∀ q : Nat, q < H.size → ¬ AX q → H1[q]? = H[q]?) → va_S A0 H0 H1 locs1 → H1[q9]? = some ce → ce.vm = .none → s.vm.findClass E = some ce.cls → vx_W p l e R s m args below meth c H1 locs1 (cells + mc) (slots + ms) Q (F0 m pc ls rest) q9)
    (kk : ∀ (u : S) (t : State) (H1 : Heap) (locs1 : List Loc), t.heap = H1 → s.vm.Alike t.vm → post u → B u t → H.size ≤ H1.size → (∀ q : Nat, q < H.size → ¬ A1 q → H1[q]? = H[q]?) → va_S A0 H0 H1 locs1 → W p l e R s m args below meth c H1 locs1 (cells + mc) (slots + ms) Q (F0 m (pc + 3) ls (rest))) : W p l e R s m args below meth c H locs cells slots Q (F0 m pc ls st0) := by
  intro T hT X
  rcases hr T hT X with ⟨v, st₀, t, T', L, h0, X', hL, e1, e2, ⟨⟨u, hv, hp, hb⟩, hF⟩, st⟩ | ⟨q, st₀, t, T', L, E, ce, h0, X', hL, e1, e2, ⟨u, hp, hb, hF⟩, hce, hcv, hcl, st⟩
  · cases hv
    obtain ⟨k1, k2, k3⟩ := vx_keep h0 e1 hS hA hf hL hF
    obtain ⟨t2, a1, b1⟩ := kk u t T'.heap (locs ++ L) e1.symm (by rw [← e2]; exact X'.warmed.alike) hp hb k1 k2 k3 T' rfl X'
    exact ⟨t2, st t2 a1, b1⟩
  · obtain ⟨k1, k2, k3⟩ := vx_keep h0 e1 hS hAX hf hL hF
    obtain ⟨t2, a1, b1⟩ := kx E ce q u t T'.heap (locs ++ L) e1.symm (by rw [← e2]; exact X'.warmed.alike) hp hb k1 k2 k3 (by rw [e1]; exact hce) hcv hcl T' rfl X'
    exact ⟨t2, st.trans a1, b1⟩
/-- caught by the row x of this method's table; the rows ahead don't take it -/
theorem vx_catch {own name : String} {E : String} {ce : Cell} {q : Addr} (hown : s.vm.findClass own = some m.cls) (pre : List ExceptionTableEntry) (x : ExceptionTableEntry) (suf : List ExceptionTableEntry) (hsplit : c.exceptionTable.toList = pre ++ x :: suf)
    (hpass : ∀ z ∈ pre, covers z pc = false ∨ (z.catchType ≠ 0 ∧ ∃ nm : String, (Cond.classLink own z.catchType nm).before args s = true ∧ va_Nc E nm s)) (hx : covers x pc = true) (h0 : x.catchType ≠ 0)
    (hlink : (Cond.classLink own x.catchType name).before args s = true) (hcast : (Cond.castable E name).before args s = true) (hcell : H[q]? = some ce) (hv : ce.vm = .none) (hcl : s.vm.findClass E = some ce.cls)
    (kk : W p l e R s m args below meth c H locs cells slots Q (F0 m x.handlerPc ls [.ref q])) : vx_W p l e R s m args below meth c H locs cells slots Q (F0 m pc ls rest) q := by
  intro T hT X
  have hpl : e.platform.magicAccessors = ({} : Platform).magicAccessors := by rw [X.admits.platform]
  obtain ⟨c3, c4, hc3, hc4, hasg⟩ := Cond.castable_spec hcast
  cases Option.some.inj (hc3.symm.trans hcl)
  obtain ⟨c5, hc5, hcl5⟩ := Cond.classLink_spec hown hlink e.platform hpl
  cases Option.some.inj (hc4.symm.trans hc5)
  obtain ⟨vm', X', st⟩ := X.thenCaughtThrough q (g := F0 m pc ls rest) rfl (Steps.refl _) (by rw [hT]; exact hcell) (by rw [hv]; rfl) (by obtain ⟨k9, h9, -⟩ := Vm.findClass_spec hcl; exact ⟨k9, h9⟩) pre x suf hsplit
    (fun z hz => by
      rcases hpass z hz with h | ⟨hz0, nm, hl1, hn1⟩
      · exact Or.inl h
      · obtain ⟨c6, hc6, hcl6⟩ := Cond.classLink_spec hown hl1 e.platform hpl
        obtain ⟨a8, b8, h1, h2, h3⟩ := hn1
        cases Option.some.inj (h1.symm.trans hcl)
        cases Option.some.inj (h2.symm.trans hc6)
        exact Or.inr ⟨hz0, _, hcl6, h3⟩) hx (Or.inr ⟨h0, c4, hcl5, hasg⟩)
  obtain ⟨t, a1, b1⟩ := kk (T.setVm vm') hT X'
  exact ⟨t, st.trans a1, b1⟩
end Rows
section Ends
variable {p : Program} {l : Launch} {e : Env} {R : Room} {s : State} {m : MethodId} {args : Array Value} {below : List Frame} {meth : Method} {c : Code} {H : Heap} {locs : List Loc} {cells slots : Nat} {Q : State → Prop}
variable {mc ms : Nat} {free : Addr → Prop} {A0 A1 : Nat → Prop} {H0 : Heap} {a : Array Value} {ls : Array Slot} {st0 rest : List Value}
variable {Qc : Array Value → State → Outcome → State → Prop} {XC : String → State → State → Prop}
/-- what a body that may throw owes at its end -/
def vx_MQ (below : List Frame) (Qc : Array Value → State → Outcome → State → Prop) (XC : String → State → State → Prop) (a : Array Value) (s : State) (mc ms : Nat) (free : Addr → Prop) : State → Prop := fun t =>
  ∃ o, t.status = .running ∧ Ended t below o ∧ vx_Q Qc XC mc ms free a s o t
theorem vx_ret {g : JFrame} {mc ms : Nat} (k : W p l e R s m args below meth c H locs cells slots (MQ below Qc args s mc ms free) g) : W p l e R s m args below meth c H locs cells slots (vx_MQ below Qc XC args s mc ms free) g := by
  intro T hT X
  obtain ⟨t, a1, o, b1, b2, b3, b4⟩ := k T hT X
  exact ⟨t, a1, o, b1, b2, Or.inl ⟨b3, b4⟩⟩
/-- not caught here: it goes on to the caller -/
theorem vx_widen {g : JFrame} {q : Addr} {k n : Nat} (h1 : cells ≤ k) (h2 : slots ≤ n) (kk : vx_W p l e R s m args below meth c H locs k n Q g q) : vx_W p l e R s m args below meth c H locs cells slots Q g q := fun T hT X => kk T hT (stand_widen X h1 h2)
theorem vx_out {pc : Nat} {E : String} {ce : Cell} {q : Addr} {mc ms : Nat} (hout : ∀ x ∈ c.exceptionTable.toList, covers x pc = false) (hlocks : meth.locks = false) (hcell : H[q]? = some ce) (hv : ce.vm = .none) (hcl : s.vm.findClass E = some ce.cls)
    (hx : ∀ t : State, t.heap = H → s.vm.Alike t.vm → XC E s t) (hf : ∀ z ∈ locs, free z.base) (hc : cells ≤ mc) (hs : slots ≤ ms) :
    vx_W p l e R s m args below meth c H locs cells slots (vx_MQ below Qc XC args s mc ms free) (F0 m pc ls rest) q := by
  intro T hT X
  obtain ⟨st1, hrun, hend, hW, hsm⟩ := X.leaveThrown q (g := F0 m pc ls rest) rfl rfl rfl hout hlocks
  have hcell9 : (T.setFrames (.throwing q :: below)).heap[q]? = some ce := by
    show T.heap[q]? = some ce
    rw [hT]; exact hcell
  exact ⟨_, st1, .threw q, hrun, hend, Or.inr ⟨q, rfl, E, ce, locs, hx _ hT hW.alike, hcell9, hv, hcl, hW, hsm.mono hc hs, hf⟩⟩
theorem vx_frame {U : State} {k n : Nat} (h : s.sameButNew ({ U with vm := s.vm } : State) locs k n) : s.heap.size ≤ U.heap.size ∧ ∀ q : Nat, q < s.heap.size → (∀ z ∈ locs, z.base ≠ q) → U.heap[q]? = s.heap[q]? := by
  obtain ⟨-, h2, -, -, -, h6⟩ := h
  refine ⟨h2, fun q hq hz => ?_⟩
  obtain ⟨c9, e1, e2, e3, e4⟩ := h6 q _ (Array.getElem?_eq_getElem hq)
  have hs : c9.slots = (s.heap[q]).slots := Array.ext_getElem? fun i => e4 i fun hm => hz _ hm rfl
  have h9 : c9 = s.heap[q] := by
    rw [hs] at e2
    exact e2
  have e5 : U.heap[q]? = some c9 := e1
  rw [e5, h9, Array.getElem?_eq_getElem hq]
/-- the words of a throw but the four that speak of the heap -/
def vx_no (w : Cond) : Bool := decide (w ≠ .isRef (.static Bundle.tN "UNASSIGNED_STACK" Bundle.steD)) && decide (w ≠ .isRef (.static Bundle.tN "SUPPRESSED_SENTINEL" Bundle.listD)) && decide (w ≠ .laysStatic Bundle.tN "UNASSIGNED_STACK" Bundle.steD) && decide (w ≠ .laysStatic Bundle.tN "SUPPRESSED_SENTINEL" Bundle.listD)
def vx_at0 (own : String) (ic : Nat) (X : String) (names : List String) : List Cond := (Bundle.ownAtoms0 own ic X names).filter vx_no
def vx_atS (own : String) (ic : Nat) (X : String) (names : List String) : List Cond := (Bundle.ownAtoms own ic X names).filter vx_no
/-- a word that the tables alone decide, or a good one -/
def vx_ot (w : Cond) : Bool := w.onTables || goodWord w
theorem vx_ot_at {args a' : Array Value} {s U : State} {w : Cond} (hW : s.WarmedH U.vm) (hvm : s.vm = U.vm) (hg : vx_ot w = true) (h : w.before args s = true) : w.before a' U = true := by
  simp only [vx_ot, Bool.or_eq_true] at hg
  rcases hg with hg | hg
  · exact va_tabs hg hvm h
  · exact word_at hW (good_of_word hg) h
/-- a list's words: the good ones out of the method's own list, the others by premises of their own -/
theorem vx_hat {args : Array Value} {s : State} {L B : List Cond} (h1 : ∀ w ∈ L.filter goodWord, w.before args s = true) (h2 : ∀ w ∈ L.filter (fun w => !goodWord w), w ∈ B) (h3 : ∀ w ∈ B, w.before args s = true) : ∀ w ∈ L, w.before args s = true := by
  intro w hw
  by_cases g : goodWord w = true
  · exact h1 w (List.mem_filter.mpr ⟨hw, g⟩)
  · refine h3 w (h2 w (List.mem_filter.mpr ⟨hw, ?_⟩))
    show (!goodWord w) = true
    cases hgw : goodWord w
    · rfl
    · exact absurd hgw g
theorem vx_c {args : Array Value} {s : State} {w : Cond} {B : List Cond} (h : w.before args s = true) (t : ∀ w ∈ B, w.before args s = true) : ∀ w' ∈ w :: B, w'.before args s = true := fun w' h' => (List.mem_cons.mp h').elim (fun e => by rw [e]; exact h) (t w')
theorem vx_n {args : Array Value} {s : State} : ∀ w ∈ ([] : List Cond), w.before args s = true := fun _ h => nomatch h
theorem vx_own {args : Array Value} {s : State} {L : List Cond} (h1 : ∀ w ∈ L.filter vx_no, w.before args s = true)
    (hU : (Cond.isRef (.static Bundle.tN "UNASSIGNED_STACK" Bundle.steD)).before args s = true) (hN : (Cond.isRef (.static Bundle.tN "SUPPRESSED_SENTINEL" Bundle.listD)).before args s = true)
    (lU : (Cond.laysStatic Bundle.tN "UNASSIGNED_STACK" Bundle.steD).before args s = true) (lN : (Cond.laysStatic Bundle.tN "SUPPRESSED_SENTINEL" Bundle.listD).before args s = true) : ∀ w ∈ L, w.before args s = true := by
  intro w hw
  by_cases e1 : w = .isRef (.static Bundle.tN "UNASSIGNED_STACK" Bundle.steD)
  · rw [e1]; exact hU
  · by_cases e2 : w = .isRef (.static Bundle.tN "SUPPRESSED_SENTINEL" Bundle.listD)
    · rw [e2]; exact hN
    · by_cases e3 : w = .laysStatic Bundle.tN "UNASSIGNED_STACK" Bundle.steD
      · rw [e3]; exact lU
      · by_cases e4 : w = .laysStatic Bundle.tN "SUPPRESSED_SENTINEL" Bundle.listD
        · rw [e4]; exact lN
        · exact h1 w (List.mem_filter.mpr ⟨hw, by unfold vx_no; rw [decide_eq_true e1, decide_eq_true e2, decide_eq_true e3, decide_eq_true e4]; rfl⟩)
/-- where a static field lies, its class's statics cell in H -/
def vx_L (C n d : String) (A : Nat → Prop) (U : State) (H : Heap) : Prop := ∃ (c : ClassId) (k : Class) (i : Nat) (f : Field) (a : Nat) (cell : Cell), U.vm.findClass C = some c ∧ U.fieldFound? C n d = some (c, k, i, f) ∧ f.isStatic = true ∧ k.statics = some a ∧ H[a]? = some cell ∧ cell.vm.isStatics = true ∧ cell.cls = c ∧ f.slot < cell.slots.size ∧ k.staticTypes[f.slot]? = some f.type ∧ ¬ A a
theorem vx_L.moved {C n d : String} {A : Nat → Prop} {u U : State} {H : Heap} (hvm : u.vm.Alike U.vm) (h : vx_L C n d A u H) : vx_L C n d A U H := by
  obtain ⟨c, k, i, f, a, cell, h1, h2, h3, h4, h5, h6, h7, h8, h9, h10⟩ := h
  obtain ⟨k', hi', he⟩ := State.fieldFound?_setVm hvm h2
  exact ⟨c, k', i, f, a, cell, by rw [hvm.findClass]; exact h1, hi', h3, by rw [he]; exact h4, h5, h6, h7, h8, by rw [he]; exact h9, h10⟩
theorem vx_L.kept {C n d : String} {A : Nat → Prop} {U : State} {H H1 : Heap} (h : vx_L C n d A U H) (hq : ∀ a : Nat, a < H.size → ¬ A a → H1[a]? = H[a]?) : vx_L C n d A U H1 := by
  obtain ⟨c, k, i, f, a, cell, h1, h2, h3, h4, h5, h6, h7, h8, h9, h10⟩ := h
  exact ⟨c, k, i, f, a, cell, h1, h2, h3, h4, by rw [hq a (Array.getElem?_eq_some_iff.mp h5).1 h10]; exact h5, h6, h7, h8, h9, h10⟩
theorem vx_L.narrow {C n d : String} {A B : Nat → Prop} {U : State} {H : Heap} (h : vx_L C n d A U H) (hAB : ∀ q, B q → A q) : vx_L C n d B U H := by
  obtain ⟨c, k, i, f, a, cell, h1, h2, h3, h4, h5, h6, h7, h8, h9, h10⟩ := h
  exact ⟨c, k, i, f, a, cell, h1, h2, h3, h4, h5, h6, h7, h8, h9, fun z => h10 (hAB _ z)⟩
theorem vx_L.word {C n d : String} {A : Nat → Prop} {s : State} {args : Array Value} (h : vx_L C n d A s s.heap) : (Cond.laysStatic C n d).before args s = true := by
  obtain ⟨c, k, i, f, a, cell, h1, h2, h3, h4, h5, h6, h7, h8, h9, -⟩ := h
  show (Cond.laysStatic C n d).holds args s none s [] = true
  exact Cond.laysStatic_of h1 h2 h3 h4 h5 h6 h7 h8 h9
/-- .. and what it holds: null or some reference -/
def vx_Zq (C n d : String) (A : Nat → Prop) (U : State) (H : Heap) : Prop := va_Zq C n d A U H ∧ vx_L C n d A U H
theorem vx_Zq.moved {C n d : String} {A : Nat → Prop} {u U : State} {H : Heap} (hvm : u.vm.Alike U.vm) (h : vx_Zq C n d A u H) : vx_Zq C n d A U H := ⟨va_Zq.moved hvm h.1, vx_L.moved hvm h.2⟩
theorem vx_Zq.kept {C n d : String} {A : Nat → Prop} {U : State} {H H1 : Heap} (h : vx_Zq C n d A U H) (hq : ∀ a : Nat, a < H.size → ¬ A a → H1[a]? = H[a]?) : vx_Zq C n d A U H1 := ⟨va_Zq.kept h.1 hq, vx_L.kept h.2 hq⟩
theorem vx_Zq.narrow {C n d : String} {A B : Nat → Prop} {U : State} {H : Heap} (h : vx_Zq C n d A U H) (hAB : ∀ q, B q → A q) : vx_Zq C n d B U H := ⟨va_Zq.narrow h.1 hAB, vx_L.narrow h.2 hAB⟩
theorem vx_Zqof {args : Array Value} {s : State} {C n d : String} {A : Nat → Prop} (hl : (Cond.laysStatic C n d).before args s = true) (hini : (Cond.initialized C).before args s = true) (h : (Cond.isRef (.static C n d)).before args s = true) (hA : ∀ a : Nat, a < s.heap.size → ¬ A a) : vx_Zq C n d A s s.heap := by
  refine ⟨va_Zqof hl hini h hA, ?_⟩
  obtain ⟨c, k, i, f, a, cell, h1, h2, h3, h4, h5, h6, h7, h8, h9⟩ := Cond.laysStatic_spec hl
  exact ⟨c, k, i, f, a, cell, h1, h2, h3, h4, h5, h6, h7, h8, h9, hA a (Array.getElem?_eq_some_iff.mp h5).1⟩
theorem vx_isRef {C n d : String} {v : Value} {A : Nat → Prop} {s : State} {args : Array Value} (h : va_Z C n d v A s s.heap) (hv : v.isRef = true) : (Cond.isRef (.static C n d)).before args s = true := by
  obtain ⟨cf, kf, fi, f, a, cell, h1, h2, h3, h4, h5, h6, h7, -⟩ := h
  have he : (Term.static C n d).eval args s none [] s = some v := by
    simp [Term.eval, State.fieldNamed?, h1, h2, h4, h5, h6, h7]
  simp only [Cond.before, Cond.holds, Cond.value, he]
  cases v <;> simp_all [Value.isRef]
theorem vx_isRefq {C n d : String} {A : Nat → Prop} {s : State} {args : Array Value} (h : va_Zq C n d A s s.heap) : (Cond.isRef (.static C n d)).before args s = true := by
  rcases h with h | ⟨t, h⟩
  · exact vx_isRef h rfl
  · exact vx_isRef h rfl
/-- the same frame, seen from here: as if the method were called anew in this heap -/
theorem vx_rebase {T : State} (X : Stand p l e R s m args below meth c T locs cells slots) {R' : Room} (hf : R'.frames ≤ R.frames) (hl : R'.locals ≤ R.locals) (hc : cells + R'.cells ≤ R.cells) (hs : slots + R'.slots ≤ R.slots) :
    Stand p l e R' ((T.setVm s.vm).setFrames (.invoking m args :: below)) m args below meth c T [] 0 0 := by
  have htop : (T.setVm s.vm).topJava?.isSome := X.here.top
  have hF : ((T.setVm s.vm).setFrames (.invoking m args :: below)).frames = .invoking m args :: below := State.frames_setFrames _ (State.cur_lt_of_top htop)
  obtain ⟨g₀, hg0⟩ := Option.isSome_iff_exists.mp htop
  obtain ⟨r, hr⟩ := State.topJava?_eq_some.mp hg0
  have hl9 : e.platform.stackLimits (T.setVm s.vm).me = e.platform.stackLimits s.me := X.limits
  have hb9 : (T.setVm s.vm).me.stackBytes = s.me.stackBytes := X.bytes
  refine ⟨X.admits, X.cas, X.clock, hF, ?_, X.hears, X.method, X.code, X.here, X.tail, X.warmed, ?_, ?_, ?_⟩
  · have h := X.room
    have hU : ((T.setVm s.vm).setFrames (.invoking m args :: below)).localsInUse = s.localsInUse := by
      rw [State.localsInUse_invoking hF (meth := meth) (c := c) X.method X.code, State.localsInUse_invoking X.frames X.method X.code]
    simp only [State.hasRoom, Bool.and_eq_true, decide_eq_true_eq] at h ⊢
    obtain ⟨⟨⟨⟨h1, h2, h3, h4, h5, h6⟩, h7⟩, h8⟩, h9⟩ := h
    rw [X.frames, List.length_cons] at h2 h3
    have q1 := X.heapSize
    have q2 := X.used
    simp only [hF, hU, List.length_cons, State.stackLimits_setFrames, State.stackBytes_setFrames, hl9, hb9]
    refine ⟨⟨⟨⟨by omega, by omega, by omega, by omega, by omega, h6⟩, ?_⟩, ?_⟩, X.book⟩
    · show T.heap.size + R'.cells ≤ e.platform.maxCells
      omega
    · show T.slotsUsed + R'.slots ≤ e.platform.maxSlots
      omega
  · rw [State.stackLimits_setFrames]; rfl
  · rw [State.stackBytes_setFrames]; rfl
  · refine ⟨?_, Nat.le_refl _, Nat.le_refl _, ?_, ?_, fun a c9 h9 => ⟨c9, h9, rfl, rfl, fun _ _ => rfl⟩⟩
    · obtain ⟨t, ht, -⟩ := State.frames_cons hr
      show T.setVm s.vm = { ((T.setVm s.vm).setFrames (.invoking m args :: below)).setFrames (T.setVm s.vm).frames with heap := T.heap, slotsUsed := T.slotsUsed }
      rw [State.setFrames_setFrames, State.setFrames_self ht]
      rfl
    · show T.slotsUsed = T.slotsUsed + ((T.heap.toList.drop T.heap.size).map (·.slots.size)).sum
      rw [List.drop_eq_nil_of_le (Nat.le_of_eq Array.length_toList)]
      rfl
    · show ((T.heap.toList.drop T.heap.size).map (·.slots.size)).sum ≤ 0
      rw [List.drop_eq_nil_of_le (Nat.le_of_eq Array.length_toList)]
      exact Nat.le_refl _
/-- 'throw new E()': new; dup; invokespecial; athrow -/
theorem vx_throw0 {cc : ByteArray} {pc : Nat} (hexec : p.tables.exec = Jvm.exec) (hb : c.code = cc) (hl : l.stackTraces = false) {own cls : String} {names : List String} {ik ic mc ms : Nat} {A : Nat → Prop}
    (hown : s.vm.findClass own = some m.cls) (hcls : Bundle.fit cls = true) (hnames : ∀ n ∈ names, Bundle.fit n = true)
    (hk : (Cond.classLink own ik cls).before args s = true) (hini : (Cond.initialized cls).before args s = true) (hat : ∀ w ∈ vx_at0 own ic cls names, w.before args s = true)
    (hgood : ∀ w ∈ Cond.classLink own ik cls :: Cond.initialized cls :: vx_at0 own ic cls names, vx_ot w = true)
    (hU : vx_Zq Bundle.tN "UNASSIGNED_STACK" Bundle.steD A s s.heap) (hN : vx_Zq Bundle.tN "SUPPRESSED_SENTINEL" Bundle.listD A s s.heap) (hS : va_S A s.heap H locs) (hsize : ls.size = c.maxLocals)
    (d0 : decode cc pc = .ok (.new ik, 3)) (d3 : decode cc (pc + 3) = .ok (.dup, 1)) (d4 : decode cc (pc + 4) = .ok (.invokespecial ic, 3)) (d7 : decode cc (pc + 7) = .ok (.athrow, 1))
    (hout : ∀ x ∈ c.exceptionTable.toList, covers x (pc + 7) = false)
    (hRframes : names.length + 3 < R.frames) (hRlocals : (rest.map fun v => v.category).sum + (13 * (names.length + 1) + 42) ≤ R.locals) (hRcells : cells + 1 ≤ R.cells) (hRslots : slots + 6 ≤ R.slots) (hlocks : meth.locks = false)
    (hx : ∀ t : State, s.vm.Alike t.vm → H.size ≤ t.heap.size → (∀ q : Nat, q < H.size → t.heap[q]? = H[q]?) → XC cls s t)
    (hf : ∀ z ∈ locs, free z.base) (hc : cells + 1 ≤ mc) (hs : slots + 6 ≤ ms) :
    W p l e R s m args below meth c H locs cells slots (vx_MQ below Qc XC args s mc ms free) (F0 m pc ls rest) := by
  intro T hT X
  have htr : e.platform.stackTraces = false := (show e.platform.stackTraces = l.stackTraces by rw [X.admits.platform]).trans hl
  have Y := vx_rebase X (R' := { frames := R.frames, locals := R.locals, cells := 1, slots := 6 }) (Nat.le_refl _) (Nat.le_refl _) hRcells hRslots
  obtain ⟨s', hA⟩ : ∃ z, z = (T.setVm s.vm).setFrames (.invoking m args :: below) := ⟨_, rfl⟩
  rw [← hA] at Y
  have hvm : s'.vm = s.vm := by rw [hA]; rfl
  have hhp : s'.heap = H := by rw [hA]; exact hT
  have hW0 : s.WarmedH s'.vm := by rw [hvm]; exact State.WarmedH.refl s
  have hat' : ∀ w ∈ vx_at0 own ic cls names, w.before args s' = true := fun w hw => vx_ot_at hW0 hvm.symm (hgood w (List.mem_cons_of_mem _ (List.mem_cons_of_mem _ hw))) (hat w hw)
  have hk' : (Cond.classLink own ik cls).before args s' = true := vx_ot_at hW0 hvm.symm (hgood _ List.mem_cons_self) hk
  have hini' : (Cond.initialized cls).before args s' = true := vx_ot_at hW0 hvm.symm (hgood _ (List.mem_cons_of_mem _ List.mem_cons_self)) hini
  have hU' : vx_Zq Bundle.tN "UNASSIGNED_STACK" Bundle.steD A s' s'.heap := by rw [hhp]; exact vx_Zq.moved hW0.alike (hU.kept hS.2.1)
  have hN' : vx_Zq Bundle.tN "SUPPRESSED_SENTINEL" Bundle.listD A s' s'.heap := by rw [hhp]; exact vx_Zq.moved hW0.alike (hN.kept hS.2.1)
  have h : ∀ w ∈ Bundle.ownAtoms0 own ic cls names, w.before args s' = true := vx_own hat' (vx_isRefq hU'.1) (vx_isRefq hN'.1) hU'.2.word hN'.2.word
  have hown' : s'.vm.findClass own = some m.cls := by rw [hvm]; exact hown
  have hins : (Cond.instantiable cls 6).before args s' = true := h _ (by simp [Bundle.ownAtoms0])
  obtain ⟨vm₁, cX, kX, hfX, hkX, -, -, X₁, st1⟩ := Y.newCold hexec (own := own) (C := cls) (index := ik) (n := 6) hown' hk' hins hini'
    (g := F0 m pc ls rest) rfl (by rw [hb]; exact d0) (Nat.le_refl _) (Nat.le_refl _)
  generalize hT1 : (T.setVm vm₁).pushCell { cls := cX, slots := kX.instanceTypes.map defaultValue, vm := .none } = T1 at X₁ st1
  have hcat : (Value.ref T.heap.size).category = 1 := rfl
  have hcellA : T1.heap[T.heap.size]? = some (freshCell cX kX) := by rw [← hT1]; exact State.heap_pushCell_size _ _
  have d3' : decode c.code (pc + 3) = .ok (.dup, 1) := by rw [hb]; exact d3
  obtain ⟨U, hsteps, hrun, hend, hW, hsame, ce, hce, hO⟩ := X₁.ctorThrow0 hexec htr (own := own) (cls := cls) (names := names) (ic := ic) hown' hcls hnames h (fun x hx => nomatch hx) hfX hkX hcellA (by rw [hhp, hT]; exact Nat.le_refl _)
    (g := { method := m, pc := pc + 4, locals := ls, stack := .ref T.heap.size :: .ref T.heap.size :: rest, locked := none }) rfl hsize rfl rfl (rest := rest) rfl
    (by rw [hb]; exact d4) (by rw [hb]; exact d7) hout hRframes (by simp only [List.map_cons, List.sum_cons, hcat]; omega) hlocks
  obtain ⟨f1, f2⟩ := vx_frame hsame
  rw [hhp] at f1 f2
  have hWs : s.WarmedH U.vm := State.WarmedH.trans hW0 hW
  have hcl : s.vm.findClass cls = some ce.cls := by
    have h9 := hO.cls
    rw [hvm] at h9
    exact h9
  have hall : s.sameButNew ({ U with vm := s.vm } : State) locs mc ms := by
    subst hA
    obtain ⟨e1, e2⟩ := hsame
    rw [State.setFrames_setFrames] at e1
    have h2 : (T.setVm s.vm).sameButNew ({ U with vm := s.vm } : State) [] (0 + 1) (0 + 6) := ⟨e1, e2⟩
    have h3 := X.same.trans h2
    rw [List.append_nil] at h3
    exact h3.mono hc hs
  refine ⟨U, ?_, .threw T.heap.size, hrun, hend, Or.inr ⟨T.heap.size, rfl, cls, ce, locs, hx U hWs.alike f1 (fun q hq => f2 q hq (fun z hz => nomatch hz)), hce, hO.vm, hcl, hWs, hall, hf⟩⟩
  refine st1 _ ?_
  show Steps p.tables e below (T1.setTop { method := m, pc := pc + 3, locals := ls, stack := .ref T.heap.size :: rest, locked := none }) _
  jvm_step X₁.here [X₁.here.top, hexec, d3', Value.category]
  exact hsteps
/-- 'throw new E("text")': new; dup; ldc; invokespecial; athrow -/
theorem vx_throwS {cc : ByteArray} {pc : Nat} (hexec : p.tables.exec = Jvm.exec) (hb : c.code = cc) (hl : l.stackTraces = false) {own cls text : String} {names : List String} {ik is ic mc ms sa : Nat} {A : Nat → Prop}
    (hown : s.vm.findClass own = some m.cls) (hcls : Bundle.fit cls = true) (hnames : ∀ n ∈ names, Bundle.fit n = true)
    (hk : (Cond.classLink own ik cls).before args s = true) (hini : (Cond.initialized cls).before args s = true) (hstr : vk_R own is text sa s) (hat : ∀ w ∈ vx_atS own ic cls names, w.before args s = true)
    (hgood : ∀ w ∈ Cond.classLink own ik cls :: Cond.initialized cls :: vx_atS own ic cls names, vx_ot w = true)
    (hU : vx_Zq Bundle.tN "UNASSIGNED_STACK" Bundle.steD A s s.heap) (hN : vx_Zq Bundle.tN "SUPPRESSED_SENTINEL" Bundle.listD A s s.heap) (hS : va_S A s.heap H locs) (hsize : ls.size = c.maxLocals)
    (d0 : decode cc pc = .ok (.new ik, 3)) (d3 : decode cc (pc + 3) = .ok (.dup, 1)) (d4 : decode cc (pc + 4) = .ok (.ldc is, 2)) (d6 : decode cc (pc + 6) = .ok (.invokespecial ic, 3)) (d9 : decode cc (pc + 9) = .ok (.athrow, 1))
    (hout : ∀ x ∈ c.exceptionTable.toList, covers x (pc + 9) = false)
    (hRframes : names.length + 3 < R.frames) (hRlocals : (rest.map fun v => v.category).sum + (13 * (names.length + 1) + 43) ≤ R.locals) (hRcells : cells + 1 ≤ R.cells) (hRslots : slots + 6 ≤ R.slots) (hlocks : meth.locks = false)
    (hx : ∀ t : State, s.vm.Alike t.vm → H.size ≤ t.heap.size → (∀ q : Nat, q < H.size → t.heap[q]? = H[q]?) → XC cls s t)
    (hf : ∀ z ∈ locs, free z.base) (hc : cells + 1 ≤ mc) (hs : slots + 6 ≤ ms) :
    W p l e R s m args below meth c H locs cells slots (vx_MQ below Qc XC args s mc ms free) (F0 m pc ls rest) := by
  intro T hT X
  have htr : e.platform.stackTraces = false := (show e.platform.stackTraces = l.stackTraces by rw [X.admits.platform]).trans hl
  have Y := vx_rebase X (R' := { frames := R.frames, locals := R.locals, cells := 1, slots := 6 }) (Nat.le_refl _) (Nat.le_refl _) hRcells hRslots
  obtain ⟨s', hA⟩ : ∃ z, z = (T.setVm s.vm).setFrames (.invoking m args :: below) := ⟨_, rfl⟩
  rw [← hA] at Y
  have hvm : s'.vm = s.vm := by rw [hA]; rfl
  have hhp : s'.heap = H := by rw [hA]; exact hT
  have hW0 : s.WarmedH s'.vm := by rw [hvm]; exact State.WarmedH.refl s
  have hat' : ∀ w ∈ vx_atS own ic cls names, w.before args s' = true := fun w hw => vx_ot_at hW0 hvm.symm (hgood w (List.mem_cons_of_mem _ (List.mem_cons_of_mem _ hw))) (hat w hw)
  have hk' : (Cond.classLink own ik cls).before args s' = true := vx_ot_at hW0 hvm.symm (hgood _ List.mem_cons_self) hk
  have hini' : (Cond.initialized cls).before args s' = true := vx_ot_at hW0 hvm.symm (hgood _ (List.mem_cons_of_mem _ List.mem_cons_self)) hini
  have hU' : vx_Zq Bundle.tN "UNASSIGNED_STACK" Bundle.steD A s' s'.heap := by rw [hhp]; exact vx_Zq.moved hW0.alike (hU.kept hS.2.1)
  have hN' : vx_Zq Bundle.tN "SUPPRESSED_SENTINEL" Bundle.listD A s' s'.heap := by rw [hhp]; exact vx_Zq.moved hW0.alike (hN.kept hS.2.1)
  have h : ∀ w ∈ Bundle.ownAtoms own ic cls names, w.before args s' = true := vx_own hat' (vx_isRefq hU'.1) (vx_isRefq hN'.1) hU'.2.word hN'.2.word
  have hown' : s'.vm.findClass own = some m.cls := by rw [hvm]; exact hown
  have hins : (Cond.instantiable cls 6).before args s' = true := h _ (by simp [Bundle.ownAtoms])
  obtain ⟨vm₁, cX, kX, hfX, hkX, -, -, X₁, st1⟩ := Y.newCold hexec (own := own) (C := cls) (index := ik) (n := 6) hown' hk' hins hini'
    (g := F0 m pc ls rest) rfl (by rw [hb]; exact d0) (Nat.le_refl _) (Nat.le_refl _)
  generalize hT1 : (T.setVm vm₁).pushCell { cls := cX, slots := kX.instanceTypes.map defaultValue, vm := .none } = T1 at X₁ st1
  have hcat : (Value.ref T.heap.size).category = 1 := rfl
  have hcellA : T1.heap[T.heap.size]? = some (freshCell cX kX) := by rw [← hT1]; exact State.heap_pushCell_size _ _
  have d3' : decode c.code (pc + 3) = .ok (.dup, 1) := by rw [hb]; exact d3
  have d4' : decode c.code (pc + 4) = .ok (.ldc is, 2) := by rw [hb]; exact d4
  have hstr' : vk_R own is text sa s' := vk_R.warm hW0 hstr
  obtain ⟨U, hsteps, hrun, hend, hW, hsame, ce, hce, hO⟩ := X₁.ctorThrowS hexec htr (own := own) (cls := cls) (names := names) (ic := ic) hown' hcls hnames h (fun x hx => nomatch hx) hfX hkX hcellA (by rw [hhp, hT]; exact Nat.le_refl _) (msg := .ref sa) rfl
    (g := { method := m, pc := pc + 6, locals := ls, stack := .ref sa :: .ref T.heap.size :: .ref T.heap.size :: rest, locked := none }) rfl hsize rfl rfl (rest := rest) rfl
    (by rw [hb]; exact d6) (by rw [hb]; exact d9) hout hRframes (by simp only [List.map_cons, List.sum_cons, hcat]; omega) hlocks
  obtain ⟨f1, f2⟩ := vx_frame hsame
  rw [hhp] at f1 f2
  have hWs : s.WarmedH U.vm := State.WarmedH.trans hW0 hW
  have hcl : s.vm.findClass cls = some ce.cls := by
    have h9 := hO.cls
    rw [hvm] at h9
    exact h9
  have hall : s.sameButNew ({ U with vm := s.vm } : State) locs mc ms := by
    subst hA
    obtain ⟨e1, e2⟩ := hsame
    rw [State.setFrames_setFrames] at e1
    have h2 : (T.setVm s.vm).sameButNew ({ U with vm := s.vm } : State) [] (0 + 1) (0 + 6) := ⟨e1, e2⟩
    have h3 := X.same.trans h2
    rw [List.append_nil] at h3
    exact h3.mono hc hs
  refine ⟨U, ?_, .threw T.heap.size, hrun, hend, Or.inr ⟨T.heap.size, rfl, cls, ce, locs, hx U hWs.alike f1 (fun q hq => f2 q hq (fun z hz => nomatch hz)), hce, hO.vm, hcl, hWs, hall, hf⟩⟩
  refine st1 _ ?_
  show Steps p.tables e below (T1.setTop { method := m, pc := pc + 3, locals := ls, stack := .ref T.heap.size :: rest, locked := none }) _
  jvm_step X₁.here [X₁.here.top, hexec, d3', Value.category]
  exact X₁.ldcString hexec (own := own) (text := text) (index := is) (a := sa) hown' hstr'.1 hstr'.2
    (g := { method := m, pc := pc + 4, locals := ls, stack := .ref T.heap.size :: .ref T.heap.size :: rest, locked := none }) rfl d4' _ hsteps
/-- 'throw new E("text")', the text by a wide index -/
theorem vx_throwSW {cc : ByteArray} {pc : Nat} (hexec : p.tables.exec = Jvm.exec) (hb : c.code = cc) (hl : l.stackTraces = false) {own cls text : String} {names : List String} {ik is ic mc ms sa : Nat} {A : Nat → Prop}
    (hown : s.vm.findClass own = some m.cls) (hcls : Bundle.fit cls = true) (hnames : ∀ n ∈ names, Bundle.fit n = true)
    (hk : (Cond.classLink own ik cls).before args s = true) (hini : (Cond.initialized cls).before args s = true) (hstr : vk_R own is text sa s) (hat : ∀ w ∈ vx_atS own ic cls names, w.before args s = true)
    (hgood : ∀ w ∈ Cond.classLink own ik cls :: Cond.initialized cls :: vx_atS own ic cls names, vx_ot w = true)
    (hU : vx_Zq Bundle.tN "UNASSIGNED_STACK" Bundle.steD A s s.heap) (hN : vx_Zq Bundle.tN "SUPPRESSED_SENTINEL" Bundle.listD A s s.heap) (hS : va_S A s.heap H locs) (hsize : ls.size = c.maxLocals)
    (d0 : decode cc pc = .ok (.new ik, 3)) (d3 : decode cc (pc + 3) = .ok (.dup, 1)) (d4 : decode cc (pc + 4) = .ok (.ldc_w is, 3)) (d7 : decode cc (pc + 7) = .ok (.invokespecial ic, 3)) (d10 : decode cc (pc + 10) = .ok (.athrow, 1))
    (hout : ∀ x ∈ c.exceptionTable.toList, covers x (pc + 10) = false)
    (hRframes : names.length + 3 < R.frames) (hRlocals : (rest.map fun v => v.category).sum + (13 * (names.length + 1) + 43) ≤ R.locals) (hRcells : cells + 1 ≤ R.cells) (hRslots : slots + 6 ≤ R.slots) (hlocks : meth.locks = false)
    (hx : ∀ t : State, s.vm.Alike t.vm → H.size ≤ t.heap.size → (∀ q : Nat, q < H.size → t.heap[q]? = H[q]?) → XC cls s t)
    (hf : ∀ z ∈ locs, free z.base) (hc : cells + 1 ≤ mc) (hs : slots + 6 ≤ ms) :
    W p l e R s m args below meth c H locs cells slots (vx_MQ below Qc XC args s mc ms free) (F0 m pc ls rest) := by
  intro T hT X
  have htr : e.platform.stackTraces = false := (show e.platform.stackTraces = l.stackTraces by rw [X.admits.platform]).trans hl
  have Y := vx_rebase X (R' := { frames := R.frames, locals := R.locals, cells := 1, slots := 6 }) (Nat.le_refl _) (Nat.le_refl _) hRcells hRslots
  obtain ⟨s', hA⟩ : ∃ z, z = (T.setVm s.vm).setFrames (.invoking m args :: below) := ⟨_, rfl⟩
  rw [← hA] at Y
  have hvm : s'.vm = s.vm := by rw [hA]; rfl
  have hhp : s'.heap = H := by rw [hA]; exact hT
  have hW0 : s.WarmedH s'.vm := by rw [hvm]; exact State.WarmedH.refl s
  have hat' : ∀ w ∈ vx_atS own ic cls names, w.before args s' = true := fun w hw => vx_ot_at hW0 hvm.symm (hgood w (List.mem_cons_of_mem _ (List.mem_cons_of_mem _ hw))) (hat w hw)
  have hk' : (Cond.classLink own ik cls).before args s' = true := vx_ot_at hW0 hvm.symm (hgood _ List.mem_cons_self) hk
  have hini' : (Cond.initialized cls).before args s' = true := vx_ot_at hW0 hvm.symm (hgood _ (List.mem_cons_of_mem _ List.mem_cons_self)) hini
  have hU' : vx_Zq Bundle.tN "UNASSIGNED_STACK" Bundle.steD A s' s'.heap := by rw [hhp]; exact vx_Zq.moved hW0.alike (hU.kept hS.2.1)
  have hN' : vx_Zq Bundle.tN "SUPPRESSED_SENTINEL" Bundle.listD A s' s'.heap := by rw [hhp]; exact vx_Zq.moved hW0.alike (hN.kept hS.2.1)
  have h : ∀ w ∈ Bundle.ownAtoms own ic cls names, w.before args s' = true := vx_own hat' (vx_isRefq hU'.1) (vx_isRefq hN'.1) hU'.2.word hN'.2.word
  have hown' : s'.vm.findClass own = some m.cls := by rw [hvm]; exact hown
  have hins : (Cond.instantiable cls 6).before args s' = true := h _ (by simp [Bundle.ownAtoms])
  obtain ⟨vm₁, cX, kX, hfX, hkX, -, -, X₁, st1⟩ := Y.newCold hexec (own := own) (C := cls) (index := ik) (n := 6) hown' hk' hins hini'
    (g := F0 m pc ls rest) rfl (by rw [hb]; exact d0) (Nat.le_refl _) (Nat.le_refl _)
  generalize hT1 : (T.setVm vm₁).pushCell { cls := cX, slots := kX.instanceTypes.map defaultValue, vm := .none } = T1 at X₁ st1
  have hcat : (Value.ref T.heap.size).category = 1 := rfl
  have hcellA : T1.heap[T.heap.size]? = some (freshCell cX kX) := by rw [← hT1]; exact State.heap_pushCell_size _ _
  have d3' : decode c.code (pc + 3) = .ok (.dup, 1) := by rw [hb]; exact d3
  have d4' : decode c.code (pc + 4) = .ok (.ldc_w is, 3) := by rw [hb]; exact d4
  have hstr' : vk_R own is text sa s' := vk_R.warm hW0 hstr
  obtain ⟨U, hsteps, hrun, hend, hW, hsame, ce, hce, hO⟩ := X₁.ctorThrowS hexec htr (own := own) (cls := cls) (names := names) (ic := ic) hown' hcls hnames h (fun x hx => nomatch hx) hfX hkX hcellA (by rw [hhp, hT]; exact Nat.le_refl _) (msg := .ref sa) rfl
    (g := { method := m, pc := pc + 7, locals := ls, stack := .ref sa :: .ref T.heap.size :: .ref T.heap.size :: rest, locked := none }) rfl hsize rfl rfl (rest := rest) rfl
    (by rw [hb]; exact d7) (by rw [hb]; exact d10) hout hRframes (by simp only [List.map_cons, List.sum_cons, hcat]; omega) hlocks
  obtain ⟨f1, f2⟩ := vx_frame hsame
  rw [hhp] at f1 f2
  have hWs : s.WarmedH U.vm := State.WarmedH.trans hW0 hW
  have hcl : s.vm.findClass cls = some ce.cls := by
    have h9 := hO.cls
    rw [hvm] at h9
    exact h9
  have hall : s.sameButNew ({ U with vm := s.vm } : State) locs mc ms := by
    subst hA
    obtain ⟨e1, e2⟩ := hsame
    rw [State.setFrames_setFrames] at e1
    have h2 : (T.setVm s.vm).sameButNew ({ U with vm := s.vm } : State) [] (0 + 1) (0 + 6) := ⟨e1, e2⟩
    have h3 := X.same.trans h2
    rw [List.append_nil] at h3
    exact h3.mono hc hs
  refine ⟨U, ?_, .threw T.heap.size, hrun, hend, Or.inr ⟨T.heap.size, rfl, cls, ce, locs, hx U hWs.alike f1 (fun q hq => f2 q hq (fun z hz => nomatch hz)), hce, hO.vm, hcl, hWs, hall, hf⟩⟩
  refine st1 _ ?_
  show Steps p.tables e below (T1.setTop { method := m, pc := pc + 3, locals := ls, stack := .ref T.heap.size :: rest, locked := none }) _
  jvm_step X₁.here [X₁.here.top, hexec, d3', Value.category]
  exact X₁.ldcStringW hexec (own := own) (text := text) (index := is) (a := sa) hown' hstr'.1 hstr'.2
    (g := { method := m, pc := pc + 4, locals := ls, stack := .ref T.heap.size :: .ref T.heap.size :: rest, locked := none }) rfl d4' _ hsteps
end Ends
section Bodies
variable {l : Launch}
theorem vx_ofW {y : MethodName} {ws ws' : List Cond} {rm : Room} {Pc : Array Value → State → Prop} {Qc : Array Value → State → Outcome → State → Prop} {XC : String → State → State → Prop} {mc ms : Nat} {free : Addr → Prop} {cc : ByteArray} {maxL : Nat} {ret : Option FieldType}
    (hy : plainName y.cls = true) (hw : ws = Cond.code y cc maxL ret :: ws')
    (body : ∀ p e s m args below meth c s₁, BodyLoose p l y (headSpec ws rm) cc maxL ret e s m args below meth c s₁ → c.maxLocals = maxL → (∀ x ∈ c.exceptionTable.toList, False) → Pc args s →
      W p l e (headSpec ws rm).room s m args below meth c s.heap [] 0 0 (vx_MQ below Qc XC args s mc ms free) (entryFrame m args maxL)) : vx_Met l y ws rm Pc Qc XC mc ms free := by
  refine MetFree.of_bodyS (code := cc) (maxLocals := maxL) (ret := ret) hy ?_ ?_
  · intro args s m h hn
    obtain ⟨meth, c, h1, h2, h3, h4, h5, h6, -, -⟩ := Cond.code_spec hn (atoms_spec (ws := ws) h _ (by rw [hw]; exact List.mem_cons_self))
    exact ⟨meth, c, h1, h2, h3, h4, h5, h6⟩
  · intro p e s m args below meth c s₁ B hml hP _
    have hh0 : s₁.heap = s.heap := by rw [B.state]; rfl
    have ht : ∀ x ∈ c.exceptionTable.toList, False := by
      obtain ⟨meth9, c9, h1, h2, -, -, -, -, h7, -⟩ := Cond.code_spec B.named (atoms_spec (ws := ws) B.pre _ (by rw [hw]; exact List.mem_cons_self))
      cases Option.some.inj (h1.symm.trans B.method)
      cases Option.some.inj (h2.symm.trans (Stand.of_body B).code)
      intro x hx
      rw [Array.isEmpty_iff.mp h7] at hx
      cases hx
    obtain ⟨t, a1, o, b1, b2, b3⟩ := body p e s m args below meth c s₁ B hml ht hP s₁ hh0 (Stand.of_body B)
    exact ⟨t, o, a1, b1, b2, b3⟩
/-- the table of a body with handlers -/
theorem vx_table {p : Program} {x y : MethodName} {S : Spec} {cc bytes : ByteArray} {maxL maxL' : Nat} {ret ret' : Option FieldType} {e : Env} {s s₁ : State} {m : MethodId} {args : Array Value} {below : List Frame} {meth : Method} {c : Code} {hh : List (Nat × Nat × Nat × Nat)}
    (B : BodyLoose p l y S cc maxL ret e s m args below meth c s₁) (h : (Cond.codeWith y bytes maxL' ret' hh).before args s = true) : c.exceptionTable.toList = tableOf hh := by
  obtain ⟨m9, meth9, c9, hn9, h1, h2, -, -, h6, -⟩ := Cond.codeWith_spec h
  cases Option.some.inj (hn9.symm.trans B.named)
  cases Option.some.inj (h1.symm.trans B.method)
  cases Option.some.inj (h2.symm.trans (Stand.of_body B).code)
  rw [← h6, table_eq]
end Bodies
end VXA
/-! ===== END ===== -/
/-! ===== BEGIN a static call of a method with an exception table ===== -/
section VXS
variable {p : Program} {l : Launch} {e : Env} {R : Room} {s : State} {m : MethodId} {args : Array Value} {below : List Frame} {meth : Method} {c : Code} {T : State} {H : Heap} {locs : List Loc} {cells slots : Nat}
abbrev vx_CSW (R : Room) (s : State) (args : Array Value) (own : String) (index : Nat) (y : MethodName) (bytes : ByteArray) (maxL : Nat) (ret : Option FieldType) (hh : List (Nat × Nat × Nat × Nat)) (ws : List Cond) (rm : Room) (mc ms n : Nat) : Prop :=
  (rm.cells = mc ∧ rm.slots = ms ∧ rm.frames + 1 ≤ R.frames ∧ 8 + (maxL + 11) + rm.locals ≤ R.locals ∧ (∀ w ∈ ws, ∀ (a' : Array Value) (U : State), s.WarmedH U.vm → w.before a' U = true) ∧ Cond.codeWith y bytes maxL ret hh ∈ ws) ∧
  (Cond.codeWith y bytes maxL ret hh).before args s = true ∧ (Cond.initialized y.cls).before args s = true ∧ (y.cls ≠ "java/lang/invoke/MethodHandle" ∧ y.cls ≠ "java/lang/invoke/VarHandle") ∧
  (∀ sig, parseMethodDescriptor y.desc = some sig → n = sig.parameters.length) ∧ (Cond.methodLink own index y).before args s = true ∧ (Cond.static y).before args s = true
theorem vx_cwSW {own : String} {index maxL mc ms : Nat} {y : MethodName} {bytes : ByteArray} {ret : Option FieldType} {hh : List (Nat × Nat × Nat × Nat)} {Ts ws ws' : List Cond} {rm : Room} (n : Nat) (ht : ∀ w ∈ Ts, w.before args s = true) (hT : GoodIn Ts (va_wsS own index y ws)) (hw : ws = Cond.codeWith y bytes maxL ret hh :: ws') (hrc : rm.cells = mc) (hrs : rm.slots = ms)
    (hd : y.cls ≠ "java/lang/invoke/MethodHandle" ∧ y.cls ≠ "java/lang/invoke/VarHandle" ∧ (parseMethodDescriptor y.desc).map (fun d => d.parameters.length) = some n) (hR : rm.frames + 1 ≤ R.frames ∧ 8 + (maxL + 11) + rm.locals ≤ R.locals) :
    vx_CSW R s args own index y bytes maxL ret hh ws rm mc ms n := by
  have ok : ∀ w ∈ va_wsS own index y ws, w.before args s = true := fun w h => ht w (hT w h).1
  have hG : GoodIn Ts ws := fun w h => hT w (by unfold va_wsS; exact List.mem_append_right _ h)
  have hc : Cond.codeWith y bytes maxL ret hh ∈ ws := by rw [hw]; exact List.mem_cons_self
  refine ⟨⟨hrc, hrs, hR.1, hR.2, pay_in ht hG, hc⟩, ht _ (hG _ hc).1, ok _ (by simp [va_wsS]), ⟨hd.1, hd.2.1⟩, fun sig h => ?_, ok _ (by simp [va_wsS]), ok _ (by simp [va_wsS])⟩
  have h2 := hd.2.2
  rw [h] at h2
  exact (Option.some.inj h2).symm
theorem vx_callSW (X : Stand p l e R s m args below meth c T locs cells slots) (hexec : p.tables.exec = Jvm.exec) {own : String} {index : Nat} {y : MethodName} {bytes : ByteArray} {maxL : Nat} {ret : Option FieldType} {hh : List (Nat × Nat × Nat × Nat)}
    (hown : s.vm.findClass own = some m.cls) (hlink : (Cond.methodLink own index y).before args s = true) (hstat : (Cond.static y).before args s = true) (hinit : (Cond.initialized y.cls).before args s = true)
    (hcode : (Cond.codeWith y bytes maxL ret hh).before args s = true) (hy : y.cls ≠ "java/lang/invoke/MethodHandle" ∧ y.cls ≠ "java/lang/invoke/VarHandle")
    {W9 : Nat} {Pre : Pt → Array Value → Prop} {Post : Pt → Array Value → Option Value → Pt → Prop} (hK : Back l R p e below s args y 3 W9 Pre Post)
    {g : JFrame} (hg : g.method = m) (hsize : g.locals.size = c.maxLocals) {argsL rest : List Value} (hlen : ∀ sig, parseMethodDescriptor y.desc = some sig → argsL.length = sig.parameters.length)
    (hstack : g.stack = argsL.reverse ++ rest) (hW : 2 * g.monitorRoom + (rest.map fun v => v.category).sum ≤ W9) (hdg : decode c.code g.pc = .ok (.invokestatic index, 3))
    (hpre : ∀ vm₁, s.WarmedH vm₁ → Pre ⟨T.setVm vm₁, locs, cells, slots⟩ argsL.toArray) :
    ∃ (v : Option Value) (vm₁ : Vm) (B : Pt), s.WarmedH vm₁ ∧ Stand p l e R s m args below meth c B.U B.locs B.cells B.slots ∧ Post ⟨T.setVm vm₁, locs, cells, slots⟩ argsL.toArray v B ∧
      ∀ target, Steps p.tables e below (B.U.setTop { g with pc := g.pc + 3, stack := v.toList ++ rest }) target → Steps p.tables e below (T.setTop g) target := by
  obtain ⟨mk, methM, cM, hnamed, hmethM, -, -, -, -, -, -, hsigM⟩ := Cond.codeWith_spec hcode
  have hstatic : methM.isStatic = true := Cond.static_spec hnamed hmethM hstat
  obtain ⟨kP, hkP, -⟩ := className_of_methodNamed hnamed
  have hinitP : kP.init = .initialized := Cond.initialized_spec (findClass_of_methodNamed hnamed) hkP hinit
  obtain ⟨vm₁, X₁, hstep₁⟩ := X.invokestatic hexec hown hlink hnamed hmethM hstatic hkP hinitP hy (g := g) hg (argsL := argsL) (rest := rest) (hlen _ hsigM) hstack hdg
  obtain ⟨v, B, X', hpost, hsteps⟩ := hK m meth c ⟨T.setVm vm₁, locs, cells, slots⟩ { g with stack := rest } (.invokestatic index) mk argsL.toArray X₁ hg hsize hdg hW (X₁.named hnamed) (hpre vm₁ X₁.warmed)
  exact ⟨v, vm₁, B, X₁.warmed, X', hpost, fun target h => hstep₁ _ fun acts => by rw [doInvoke_state]; exact hsteps.trans h⟩
theorem vx_runSW {y : MethodName} {bytes cc : ByteArray} {maxL nL mc ms n index : Nat} {ret : Option FieldType} {hh : List (Nat × Nat × Nat × Nat)} {ws : List Cond} {rm : Room} {Pc : Array Value → State → Prop} {Qc : Array Value → State → Outcome → State → Prop} {free : Addr → Prop} {Ts : List Cond} {own : String} {As rest : List Value} {g : JFrame}
    (S : CallFix p m c cc nL s args Ts own) (hM : Met l y ws rm Pc Qc mc ms free) (cw : vx_CSW R s args own index y bytes maxL ret hh ws rm mc ms n) (hp : PreS s H Pc As)
    (hg : g.method = m) (hn : As.length = n) (hsize : g.locals.size = nL) (hstack : g.stack = As.reverse ++ rest) (hW : 2 * g.monitorRoom + (rest.map fun v => v.category).sum ≤ 8) (hdg : decode cc g.pc = .ok (.invokestatic index, 3)) (hf : cells + mc ≤ R.cells ∧ slots + ms ≤ R.slots) :
    va_Run p l e R s m args below meth c H locs cells slots mc ms g rest (Qc As.toArray) (free) := by
  obtain ⟨⟨hrc, hrs, hfr, hlo, hws, hcw⟩, hcode, hini, hy, hlen, hl, hstt⟩ := cw
  have hK : Back l R p e below s args y 3 8 (PreOf R mc ms Pc) (PostOf Qc mc ms free) := va_backW (hh := hh) (bytes := bytes) (maxL := maxL) (ret := ret) hM hp.1 hrc hrs hfr hlo hws hcw (fun a' U hW => word_at hW (Or.inl (by first | rfl | simp [Cond.onTables, Cond.keeps, Cond.steady])) hini)
  obtain ⟨hx, hb, hml, ho, -⟩ := S
  intro T hT X
  obtain ⟨v, vm₁, ⟨U', l2, c2, s2⟩, hW₁, X', ⟨g', mk, t, L, e1, e2, hq, h1, hL, h2, h3⟩, st⟩ := vx_callSW X hx (hh := hh) (bytes := bytes) (maxL := maxL) (ret := ret) ho hl hstt hini hcode hy hK hg (hsize.trans hml.symm) (argsL := As) (rest := rest) (fun sig h => hn.trans (hlen sig h)) hstack hW (by rw [hb]; exact hdg)
    (fun vm₁ hW₁ => ⟨hf.1, hf.2, hp.2 (T.setVm vm₁) hT hW₁⟩)
  dsimp only [Pt.U, Pt.locs, Pt.cells, Pt.slots] at X' e1 e2 h1 h2 h3 st
  subst h1; subst h2; subst h3
  exact ⟨v, (T.setVm vm₁).calling g' mk As.toArray, t, U', L, hT, X', hL, e1, e2, hq, st⟩
/-- not caught here, past rows that name other classes: it goes on to the caller -/
theorem vx_outP {p : Program} {l : Launch} {e : Env} {R : Room} {s : State} {m : MethodId} {args : Array Value} {below : List Frame} {meth : Method} {c : Code} {H : Heap} {locs : List Loc} {cells slots : Nat} {free : Addr → Prop} {ls : Array Slot} {rest : List Value} {Qc : Array Value → State → Outcome → State → Prop} {XC : String → State → State → Prop}
    {pc : Nat} {own E : String} {ce : Cell} {q : Addr} {mc ms : Nat} (hown : s.vm.findClass own = some m.cls) (hlocks : meth.locks = false)
    (hpass : ∀ z ∈ c.exceptionTable.toList, covers z pc = false ∨ (z.catchType ≠ 0 ∧ ∃ nm : String, (Cond.classLink own z.catchType nm).before args s = true ∧ va_Nc E nm s)) (hcell : H[q]? = some ce) (hv : ce.vm = .none) (hcl : s.vm.findClass E = some ce.cls)
    (hx : ∀ t : State, t.heap = H → s.vm.Alike t.vm → XC E s t) (hf : ∀ z ∈ locs, free z.base) (hc : cells ≤ mc) (hs : slots ≤ ms) :
    vx_W p l e R s m args below meth c H locs cells slots (vx_MQ below Qc XC args s mc ms free) (F0 m pc ls rest) q := by
  intro T hT X
  have hpl : e.platform.magicAccessors = ({} : Platform).magicAccessors := by rw [X.admits.platform]
  obtain ⟨vm', hW', X', st⟩ := X.outThrough hlocks q (g := F0 m pc ls rest) rfl rfl rfl (cell := ce) (by rw [hT]; exact hcell) (by rw [hv]; rfl)
    (by obtain ⟨k9, h9, -⟩ := Vm.findClass_spec hcl; exact ⟨k9, h9⟩) (fun z hz => by
      rcases hpass z hz with h | ⟨hz0, nm, hl1, hn1⟩
      · exact Or.inl h
      · obtain ⟨c6, hc6, hcl6⟩ := Cond.classLink_spec hown hl1 e.platform hpl
        obtain ⟨a8, b8, h1, h2, h3⟩ := hn1
        cases Option.some.inj (h1.symm.trans hcl)
        cases Option.some.inj (h2.symm.trans hc6)
        exact Or.inr ⟨hz0, _, hcl6, h3⟩)
  obtain ⟨g₀, hfr⟩ := X'.frames_eq
  have hcell9 : ((T.setVm vm').setFrames (.throwing q :: below)).heap[q]? = some ce := by
    show T.heap[q]? = some ce
    rw [hT]; exact hcell
  have hend : Ended ((T.setVm vm').setFrames (.throwing q :: below)) below (.threw q) := State.frames_setFrames _ (State.cur_lt_of_frames hfr)
  refine ⟨(T.setVm vm').setFrames (.throwing q :: below), ?_, .threw q, X'.here.running, hend, Or.inr ⟨q, rfl, E, ce, locs, hx _ hT (X'.ends _).1.alike, hcell9, hv, hcl, (X'.ends _).1, (X'.ends _).2.mono hc hs, hf⟩⟩
  rw [X.pushThrowing_eq]
  exact st
/-- a thing of a world lies in the heap -/
theorem vx_lt {D : va_G} {cl : List vw_C} {ws : va_W} {H1 : Heap} (h : va_P D cl ws H1) {k : Nat} {q : Nat × va_E} (hk : ws[k]? = some q) : q.1 < H1.size := (h k q hk).lt
end VXS
/-! ===== END ===== -/
/-! ===== BEGIN methods with a table of their own: called by a name, returning or throwing ===== -/
section VXH
/-! vx_backW, vx_callVX, vx_callSX, vx_callVW, vx_runVW, vx_runVX, vx_runSX, vx_ofWH follow the same proofs as their sisters above (Free/Laws.lean, Shelf42/LK1.lean); vx_outP calls Shelf42/NT130.lean (outThrough). -/
section
variable {l : Launch} {R : Room} {p : Program} {e : Env} {below : List Frame} {s : State} {sargs : Array Value} {y : MethodName} {len W9 : Nat}
theorem vx_backW {ws : List Cond} {rm : Room} {Pc : Array Value → State → Prop} {Qc : Array Value → State → Outcome → State → Prop} {XC : String → State → State → Prop} {mc ms : Nat} {free : Addr → Prop} {bytes : ByteArray} {maxL : Nat} {ret : Option FieldType} {hh : List (Nat × Nat × Nat × Nat)}
    (hM : vx_Met l y ws rm Pc Qc XC mc ms free) (hblind : FrameBlind Pc) (hrc : rm.cells = mc) (hrs : rm.slots = ms)
    (hframes : rm.frames + 1 ≤ R.frames) (hlocals : W9 + (maxL + 11) + rm.locals ≤ R.locals)
    (hws : ∀ w ∈ ws, ∀ a' U, s.WarmedH U.vm → w.before a' U = true) (hcode : Cond.codeWith y bytes maxL ret hh ∈ ws) (hinit : ∀ a' U, s.WarmedH U.vm → (Cond.initialized y.cls).before a' U = true) :
    vx_Back l R p e below s sargs y len W9 (PreOf R mc ms Pc) (PostOf Qc mc ms free) (vx_Post XC mc ms free) := by
  intro m meth c A g ig mk a X hg hsize hdg hW hn hp
  have h1 : (headSpec ws rm).pre.before a A.U = true := atoms_intro fun w hw => hws w hw _ _ X.warmed
  have h2 : (Cond.codeWith y bytes maxL ret hh).before a A.U = true := hws _ hcode _ _ X.warmed
  have h3 : (Cond.initialized y.cls).before a A.U = true := hinit _ _ X.warmed
  have h4 : A.cells + (headSpec ws rm).room.cells ≤ R.cells := by rw [show (headSpec ws rm).room.cells = mc from hrc]; exact hp.1
  have h5 : A.slots + (headSpec ws rm).room.slots ≤ R.slots := by rw [show (headSpec ws rm).room.slots = ms from hrs]; exact hp.2.1
  have hPc : Pc a (A.U.calling g mk a) := hblind _ _ _ _ hp.2.2
  obtain ⟨U, Ls, c0, s0⟩ := A
  dsimp only [Pt.U, Pt.locs, Pt.cells, Pt.slots] at h1 h2 h3 h4 h5 X hn hPc ⊢
  obtain ⟨m9, methY, cY, hn9, hmY, hcY, -, hlY, -⟩ := Cond.codeWith_spec h2
  cases Option.some.inj (hn9.symm.trans hn)
  obtain ⟨kY, hkY, -⟩ := className_of_methodNamed hn
  have hinitY : kY.init = .initialized := Cond.initialized_spec (findClass_of_methodNamed hn) hkY h3
  have h : At U g.method c below := by rw [hg]; exact X.here
  have hlocals9 : W9 + (maxL + 11) + (headSpec ws rm).room.locals ≤ R.locals := hlocals
  have happ : (headSpec ws rm).appliesLoose y e.platform (U.calling g mk a) = true :=
    Spec.appliesLoose_calling (g := g) h hdg hn hkY hinitY
      (X.room_calling (g := g) (R' := (headSpec ws rm).room) hsize hmY hcY hframes (by rw [hlY]; omega) h4 h5) h1
  obtain ⟨mid, hmid⟩ := h.above
  have hfr : (U.setTop g).frames = (.java g :: mid) ++ below := by rw [State.frames_setTop' g h.top, hmid]; rfl
  obtain ⟨o, s₂, hsteps, -, hend, hq⟩ := Steps.callFree hM p X.admits X.cas X.clock (acts := []) hfr happ hPc trivial
  have hq' : vx_Q Qc XC mc ms free a (U.calling g mk a) o s₂ := hq
  rw [State.frames_setTop' g h.top] at hend
  obtain ⟨g₀, hg0⟩ := Option.isSome_iff_exists.mp h.top
  obtain ⟨r, hr⟩ := State.topJava?_eq_some.mp hg0
  have hr' : (({ U with heap := s₂.heap, slotsUsed := s₂.slotsUsed } : State).setVm s₂.vm).frames = .java g₀ :: r := hr
  rcases hq' with ⟨hqc, L, hfe, hL⟩ | ⟨q, rfl, E, ce, L, hx, hce, hcv, hcl, hW₂, hsm, hL⟩
  · obtain ⟨⟨v, rfl⟩, hW₂, e2, q2, q3, q4, q5, q6⟩ := id hfe
    have e3 : s₂ = ({ (U.calling g mk a).setFrames s₂.frames with heap := s₂.heap, slotsUsed := s₂.slotsUsed } : State).setVm s₂.vm := by
      have : s₂ = ({ s₂ with vm := (U.calling g mk a).vm } : State).setVm s₂.vm := rfl
      rw [e2] at this
      exact this
    obtain ⟨c₂, i₂, len₂, hc₂, hd₂, hf₂⟩ := hend
    have hW' : U.WarmedH s₂.vm := hW₂
    have hcc : c₂ = c := by
      have h1 : s₂.code? g.method = U.code? g.method := by
        rw [State.code?_eq, State.code?_eq, hW'.alike.method?]
      exact Option.some.inj (hc₂.symm.trans (h1.trans h.code))
    subst hcc
    have hlen : len₂ = len := by rw [hdg] at hd₂; cases hd₂; rfl
    subst hlen
    have hs₂ : s₂ = (({ U with heap := s₂.heap, slotsUsed := s₂.slotsUsed } : State).setVm s₂.vm).setTop { g with pc := g.pc + len₂, stack := v.toList ++ g.stack } := by
      refine e3.trans ?_
      rw [hf₂, State.calling_eq h.top, State.setFrames_setFrames, State.setTop_of_frames _ hr', hr]
      rfl
    have hsame : U.sameButNew ({ U with heap := s₂.heap, slotsUsed := s₂.slotsUsed } : State) L mc ms := by
      refine ⟨?_, q2, q3, q4, q5, q6⟩
      obtain ⟨t, ht, -⟩ := State.frames_cons hr
      show ({ U with heap := s₂.heap, slotsUsed := s₂.slotsUsed } : State) = { U.setFrames U.frames with heap := s₂.heap, slotsUsed := s₂.slotsUsed }
      rw [State.setFrames_self ht]
    subst hg
    refine Or.inl ⟨v, ⟨(({ U with heap := s₂.heap, slotsUsed := s₂.slotsUsed } : State).setVm s₂.vm), Ls ++ L, c0 + mc, s0 + ms⟩,
      ⟨X.admits, X.cas, X.clock, X.frames, X.room, X.hears, X.method, X.code, (X.here.setHeapUsed s₂.heap s₂.slotsUsed).setVm hW'.alike, X.tail, State.WarmedH.trans X.warmed hW', X.limits, X.bytes, X.same.trans (hsame.setVm s.vm)⟩,
      ⟨g, mk, s₂, L, rfl, rfl, hqc, rfl, hL, rfl, rfl⟩, ?_⟩
    show Steps p.tables e below _ ((({ U with heap := s₂.heap, slotsUsed := s₂.slotsUsed } : State).setVm s₂.vm).setTop { g with pc := g.pc + len₂, stack := v.toList ++ g.stack })
    rw [← hs₂]
    exact hsteps
  · obtain ⟨e2, q2, q3, q4, q5, q6⟩ := id hsm
    have e3 : s₂ = ({ (U.calling g mk a).setFrames s₂.frames with heap := s₂.heap, slotsUsed := s₂.slotsUsed } : State).setVm s₂.vm := by
      have : s₂ = ({ s₂ with vm := (U.calling g mk a).vm } : State).setVm s₂.vm := rfl
      rw [e2] at this
      exact this
    have hf₂ : s₂.frames = .throwing q :: .java g :: U.frames.tail := hend
    have hW' : U.WarmedH s₂.vm := hW₂
    have hs₂ : s₂ = ((({ U with heap := s₂.heap, slotsUsed := s₂.slotsUsed } : State).setVm s₂.vm).setTop g).pushFrame (.throwing q) := by
      refine e3.trans ?_
      rw [hf₂, State.calling_eq h.top, State.setFrames_setFrames, State.pushFrame, State.frames_setTop _ hr', State.setTop_of_frames _ hr', State.setFrames_setFrames, hr]
      rfl
    have hsame : U.sameButNew ({ U with heap := s₂.heap, slotsUsed := s₂.slotsUsed } : State) L mc ms := by
      refine ⟨?_, q2, q3, q4, q5, q6⟩
      obtain ⟨t, ht, -⟩ := State.frames_cons hr
      show ({ U with heap := s₂.heap, slotsUsed := s₂.slotsUsed } : State) = { U.setFrames U.frames with heap := s₂.heap, slotsUsed := s₂.slotsUsed }
      rw [State.setFrames_self ht]
    subst hg
    refine Or.inr ⟨q, ⟨(({ U with heap := s₂.heap, slotsUsed := s₂.slotsUsed } : State).setVm s₂.vm), Ls ++ L, c0 + mc, s0 + ms⟩,
      ⟨X.admits, X.cas, X.clock, X.frames, X.room, X.hears, X.method, X.code, (X.here.setHeapUsed s₂.heap s₂.slotsUsed).setVm hW'.alike, X.tail, State.WarmedH.trans X.warmed hW', X.limits, X.bytes, X.same.trans (hsame.setVm s.vm)⟩,
      ⟨g, mk, s₂, L, E, ce, rfl, rfl, hx, hce, hcv, hcl, rfl, hL, rfl, rfl⟩, ?_⟩
    show Steps p.tables e below _ (((({ U with heap := s₂.heap, slotsUsed := s₂.slotsUsed } : State).setVm s₂.vm).setTop g).pushFrame (.throwing q))
    rw [← hs₂]
    exact hsteps
end
variable {p : Program} {l : Launch} {e : Env} {R : Room} {s : State} {m : MethodId} {args : Array Value} {below : List Frame} {meth : Method} {c : Code} {T : State} {H : Heap} {locs : List Loc} {cells slots : Nat}
theorem vx_callVX (X : Stand p l e R s m args below meth c T locs cells slots) (hexec : p.tables.exec = Jvm.exec) {own C : String} {index : Nat} {y : MethodName} {bytes : ByteArray} {maxL : Nat} {ret : Option FieldType} {hh : List (Nat × Nat × Nat × Nat)}
    (hown : s.vm.findClass own = some m.cls) (hlink : (Cond.methodLink own index y).before args s = true) (hinst : (Cond.instanceMethod y).before args s = true) (hsel : (Cond.selects C y y).before args s = true)
    (hcode : (Cond.codeWith y bytes maxL ret hh).before args s = true) (hy : y.cls ≠ "java/lang/invoke/MethodHandle" ∧ y.cls ≠ "java/lang/invoke/VarHandle")
    {W9 : Nat} {Pre : Pt → Array Value → Prop} {Post : Pt → Array Value → Option Value → Pt → Prop} {PostX : Pt → Array Value → Addr → Pt → Prop} (hK : vx_Back l R p e below s args y 3 W9 Pre Post PostX)
    {b : Addr} {cellB : Cell} (hcell : T.heap[b]? = some cellB) (hobj : cellB.vm.isStatics = false) (hcls : s.vm.findClass C = some cellB.cls)
    {g : JFrame} (hg : g.method = m) (hsize : g.locals.size = c.maxLocals) {argsL rest : List Value} (hlen : ∀ sig, parseMethodDescriptor y.desc = some sig → argsL.length = sig.parameters.length)
    (hstack : g.stack = argsL.reverse ++ .ref b :: rest) (hW : 2 * g.monitorRoom + (rest.map fun v => v.category).sum ≤ W9) (hdg : decode c.code g.pc = .ok (.invokevirtual index, 3))
    (hpre : ∀ vm₁, s.WarmedH vm₁ → Pre ⟨T.setVm vm₁, locs, cells, slots⟩ (Value.ref b :: argsL).toArray) :
    (∃ (v : Option Value) (vm₁ : Vm) (B : Pt), s.WarmedH vm₁ ∧ Stand p l e R s m args below meth c B.U B.locs B.cells B.slots ∧ Post ⟨T.setVm vm₁, locs, cells, slots⟩ (Value.ref b :: argsL).toArray v B ∧
      ∀ target, Steps p.tables e below (B.U.setTop { g with pc := g.pc + 3, stack := v.toList ++ rest }) target → Steps p.tables e below (T.setTop g) target) ∨
    (∃ (q : Addr) (vm₁ : Vm) (B : Pt), s.WarmedH vm₁ ∧ Stand p l e R s m args below meth c B.U B.locs B.cells B.slots ∧ PostX ⟨T.setVm vm₁, locs, cells, slots⟩ (Value.ref b :: argsL).toArray q B ∧
      Steps p.tables e below (T.setTop g) ((B.U.setTop { g with stack := rest }).pushFrame (.throwing q))) := by
  obtain ⟨mk, methM, hnamed, hmethM, hstM, habM⟩ := Cond.instanceMethod_spec hinst
  obtain ⟨m8, methM', cM, hn8, hmethM', -, -, -, -, -, -, hsigM⟩ := Cond.codeWith_spec hcode
  cases Option.some.inj (hn8.symm.trans hnamed)
  cases hmethM.symm.trans hmethM'
  obtain ⟨c2, r2, m2, q1, q2, q3, q4, kP, hkP, hkPi⟩ := Cond.selects_spec hsel
  cases hcls.symm.trans q1
  cases (State.methodFound?_of_named hnamed hy).symm.trans q2
  cases hnamed.symm.trans q3
  have hselP : selectMethod e.platform s.vm cellB.cls mk = .method mk := by rw [Launch.admits_selectMethod X.admits]; exact q4
  obtain ⟨vm₁, X₁, hstep₁⟩ := X.invokevirtual hexec hown hlink hnamed hmethM hstM hkP hkPi hy (a := b) (cell := cellB) hcell
    (fun z h => by rw [h] at hobj; cases hobj) hselP hmethM habM hkP hkPi (g := g) hg (argsL := argsL) (rest := rest) (hlen _ hsigM) hstack hdg
  rcases hK m meth c ⟨T.setVm vm₁, locs, cells, slots⟩ { g with stack := rest } (.invokevirtual index) mk (Value.ref b :: argsL).toArray X₁ hg hsize hdg hW (X₁.named hnamed) (hpre vm₁ X₁.warmed) with ⟨v, B, X', hpost, hsteps⟩ | ⟨q, B, X', hpost, hsteps⟩
  · exact Or.inl ⟨v, vm₁, B, X₁.warmed, X', hpost, fun target h => hstep₁ _ fun acts => by rw [doInvoke_state]; exact hsteps.trans h⟩
  · exact Or.inr ⟨q, vm₁, B, X₁.warmed, X', hpost, hstep₁ _ fun acts => by rw [doInvoke_state]; exact hsteps⟩
theorem vx_callSX (X : Stand p l e R s m args below meth c T locs cells slots) (hexec : p.tables.exec = Jvm.exec) {own : String} {index : Nat} {y : MethodName} {bytes : ByteArray} {maxL : Nat} {ret : Option FieldType} {hh : List (Nat × Nat × Nat × Nat)}
    (hown : s.vm.findClass own = some m.cls) (hlink : (Cond.methodLink own index y).before args s = true) (hstat : (Cond.static y).before args s = true) (hinit : (Cond.initialized y.cls).before args s = true)
    (hcode : (Cond.codeWith y bytes maxL ret hh).before args s = true) (hy : y.cls ≠ "java/lang/invoke/MethodHandle" ∧ y.cls ≠ "java/lang/invoke/VarHandle")
    {W9 : Nat} {Pre : Pt → Array Value → Prop} {Post : Pt → Array Value → Option Value → Pt → Prop} {PostX : Pt → Array Value → Addr → Pt → Prop} (hK : vx_Back l R p e below s args y 3 W9 Pre Post PostX)
    {g : JFrame} (hg : g.method = m) (hsize : g.locals.size = c.maxLocals) {argsL rest : List Value} (hlen : ∀ sig, parseMethodDescriptor y.desc = some sig → argsL.length = sig.parameters.length)
    (hstack : g.stack = argsL.reverse ++ rest) (hW : 2 * g.monitorRoom + (rest.map fun v => v.category).sum ≤ W9) (hdg : decode c.code g.pc = .ok (.invokestatic index, 3))
    (hpre : ∀ vm₁, s.WarmedH vm₁ → Pre ⟨T.setVm vm₁, locs, cells, slots⟩ argsL.toArray) :
    (∃ (v : Option Value) (vm₁ : Vm) (B : Pt), s.WarmedH vm₁ ∧ Stand p l e R s m args below meth c B.U B.locs B.cells B.slots ∧ Post ⟨T.setVm vm₁, locs, cells, slots⟩ argsL.toArray v B ∧
      ∀ target, Steps p.tables e below (B.U.setTop { g with pc := g.pc + 3, stack := v.toList ++ rest }) target → Steps p.tables e below (T.setTop g) target) ∨
    (∃ (q : Addr) (vm₁ : Vm) (B : Pt), s.WarmedH vm₁ ∧ Stand p l e R s m args below meth c B.U B.locs B.cells B.slots ∧ PostX ⟨T.setVm vm₁, locs, cells, slots⟩ argsL.toArray q B ∧
      Steps p.tables e below (T.setTop g) ((B.U.setTop { g with stack := rest }).pushFrame (.throwing q))) := by
  obtain ⟨mk, methM, cM, hnamed, hmethM, -, -, -, -, -, -, hsigM⟩ := Cond.codeWith_spec hcode
  have hstatic : methM.isStatic = true := Cond.static_spec hnamed hmethM hstat
  obtain ⟨kP, hkP, -⟩ := className_of_methodNamed hnamed
  have hinitP : kP.init = .initialized := Cond.initialized_spec (findClass_of_methodNamed hnamed) hkP hinit
  obtain ⟨vm₁, X₁, hstep₁⟩ := X.invokestatic hexec hown hlink hnamed hmethM hstatic hkP hinitP hy (g := g) hg (argsL := argsL) (rest := rest) (hlen _ hsigM) hstack hdg
  rcases hK m meth c ⟨T.setVm vm₁, locs, cells, slots⟩ { g with stack := rest } (.invokestatic index) mk argsL.toArray X₁ hg hsize hdg hW (X₁.named hnamed) (hpre vm₁ X₁.warmed) with ⟨v, B, X', hpost, hsteps⟩ | ⟨q, B, X', hpost, hsteps⟩
  · exact Or.inl ⟨v, vm₁, B, X₁.warmed, X', hpost, fun target h => hstep₁ _ fun acts => by rw [doInvoke_state]; exact hsteps.trans h⟩
  · exact Or.inr ⟨q, vm₁, B, X₁.warmed, X', hpost, hstep₁ _ fun acts => by rw [doInvoke_state]; exact hsteps⟩
theorem vx_callVW (X : Stand p l e R s m args below meth c T locs cells slots) (hexec : p.tables.exec = Jvm.exec) {own C : String} {index : Nat} {y : MethodName} {bytes : ByteArray} {maxL : Nat} {ret : Option FieldType} {hh : List (Nat × Nat × Nat × Nat)}
    (hown : s.vm.findClass own = some m.cls) (hlink : (Cond.methodLink own index y).before args s = true) (hinst : (Cond.instanceMethod y).before args s = true) (hsel : (Cond.selects C y y).before args s = true)
    (hcode : (Cond.codeWith y bytes maxL ret hh).before args s = true) (hy : y.cls ≠ "java/lang/invoke/MethodHandle" ∧ y.cls ≠ "java/lang/invoke/VarHandle")
    {W9 : Nat} {Pre : Pt → Array Value → Prop} {Post : Pt → Array Value → Option Value → Pt → Prop} (hK : Back l R p e below s args y 3 W9 Pre Post)
    {b : Addr} {cellB : Cell} (hcell : T.heap[b]? = some cellB) (hobj : cellB.vm.isStatics = false) (hcls : s.vm.findClass C = some cellB.cls)
    {g : JFrame} (hg : g.method = m) (hsize : g.locals.size = c.maxLocals) {argsL rest : List Value} (hlen : ∀ sig, parseMethodDescriptor y.desc = some sig → argsL.length = sig.parameters.length)
    (hstack : g.stack = argsL.reverse ++ .ref b :: rest) (hW : 2 * g.monitorRoom + (rest.map fun v => v.category).sum ≤ W9) (hdg : decode c.code g.pc = .ok (.invokevirtual index, 3))
    (hpre : ∀ vm₁, s.WarmedH vm₁ → Pre ⟨T.setVm vm₁, locs, cells, slots⟩ (Value.ref b :: argsL).toArray) :
    ∃ (v : Option Value) (vm₁ : Vm) (B : Pt), s.WarmedH vm₁ ∧ Stand p l e R s m args below meth c B.U B.locs B.cells B.slots ∧ Post ⟨T.setVm vm₁, locs, cells, slots⟩ (Value.ref b :: argsL).toArray v B ∧
      ∀ target, Steps p.tables e below (B.U.setTop { g with pc := g.pc + 3, stack := v.toList ++ rest }) target → Steps p.tables e below (T.setTop g) target := by
  obtain ⟨mk, methM, hnamed, hmethM, hstM, habM⟩ := Cond.instanceMethod_spec hinst
  obtain ⟨m8, methM', cM, hn8, hmethM', -, -, -, -, -, -, hsigM⟩ := Cond.codeWith_spec hcode
  cases Option.some.inj (hn8.symm.trans hnamed)
  cases hmethM.symm.trans hmethM'
  obtain ⟨c2, r2, m2, q1, q2, q3, q4, kP, hkP, hkPi⟩ := Cond.selects_spec hsel
  cases hcls.symm.trans q1
  cases (State.methodFound?_of_named hnamed hy).symm.trans q2
  cases hnamed.symm.trans q3
  have hselP : selectMethod e.platform s.vm cellB.cls mk = .method mk := by rw [Launch.admits_selectMethod X.admits]; exact q4
  obtain ⟨vm₁, X₁, hstep₁⟩ := X.invokevirtual hexec hown hlink hnamed hmethM hstM hkP hkPi hy (a := b) (cell := cellB) hcell
    (fun z h => by rw [h] at hobj; cases hobj) hselP hmethM habM hkP hkPi (g := g) hg (argsL := argsL) (rest := rest) (hlen _ hsigM) hstack hdg
  obtain ⟨v, B, X', hpost, hsteps⟩ := hK m meth c ⟨T.setVm vm₁, locs, cells, slots⟩ { g with stack := rest } (.invokevirtual index) mk (Value.ref b :: argsL).toArray X₁ hg hsize hdg hW (X₁.named hnamed) (hpre vm₁ X₁.warmed)
  exact ⟨v, vm₁, B, X₁.warmed, X', hpost, fun target h => hstep₁ _ fun acts => by rw [doInvoke_state]; exact hsteps.trans h⟩
abbrev vx_CVW (R : Room) (s : State) (args : Array Value) (own C : String) (index : Nat) (y : MethodName) (bytes : ByteArray) (maxL : Nat) (ret : Option FieldType) (hh : List (Nat × Nat × Nat × Nat)) (ws : List Cond) (rm : Room) (mc ms n : Nat) : Prop :=
  (rm.cells = mc ∧ rm.slots = ms ∧ rm.frames + 1 ≤ R.frames ∧ 8 + (maxL + 11) + rm.locals ≤ R.locals ∧ (∀ w ∈ ws, ∀ (a' : Array Value) (U : State), s.WarmedH U.vm → w.before a' U = true) ∧ Cond.codeWith y bytes maxL ret hh ∈ ws) ∧
  (Cond.codeWith y bytes maxL ret hh).before args s = true ∧ (Cond.initialized y.cls).before args s = true ∧ (y.cls ≠ "java/lang/invoke/MethodHandle" ∧ y.cls ≠ "java/lang/invoke/VarHandle") ∧
  (∀ sig, parseMethodDescriptor y.desc = some sig → n = sig.parameters.length) ∧ (Cond.methodLink own index y).before args s = true ∧ (Cond.instanceMethod y).before args s = true ∧ (Cond.selects C y y).before args s = true
theorem vx_cwVW {own C : String} {index maxL mc ms : Nat} {y : MethodName} {bytes : ByteArray} {ret : Option FieldType} {hh : List (Nat × Nat × Nat × Nat)} {Ts ws ws' : List Cond} {rm : Room} (n : Nat) (ht : ∀ w ∈ Ts, w.before args s = true) (hT : GoodIn Ts (wsV own index C y ws)) (hw : ws = Cond.codeWith y bytes maxL ret hh :: ws') (hrc : rm.cells = mc) (hrs : rm.slots = ms)
    (hd : y.cls = C ∧ y.cls ≠ "java/lang/invoke/MethodHandle" ∧ y.cls ≠ "java/lang/invoke/VarHandle" ∧ (parseMethodDescriptor y.desc).map (fun d => d.parameters.length) = some n) (hR : rm.frames + 1 ≤ R.frames ∧ 8 + (maxL + 11) + rm.locals ≤ R.locals) :
    vx_CVW R s args own C index y bytes maxL ret hh ws rm mc ms n := by
  obtain ⟨hC, hd⟩ := hd
  subst hC
  have ok : ∀ w ∈ wsV own index y.cls y ws, w.before args s = true := fun w h => ht w (hT w h).1
  have hG : GoodIn Ts ws := fun w h => hT w (by unfold wsV; exact List.mem_append_right _ h)
  have hc : Cond.codeWith y bytes maxL ret hh ∈ ws := by rw [hw]; exact List.mem_cons_self
  refine ⟨⟨hrc, hrs, hR.1, hR.2, pay_in ht hG, hc⟩, ht _ (hG _ hc).1, ok _ (by simp [wsV]), ⟨hd.1, hd.2.1⟩, fun sig h => ?_, ok _ (by simp [wsV]), ok _ (by simp [wsV]), ok _ (by simp [wsV])⟩
  have h2 := hd.2.2
  rw [h] at h2
  exact (Option.some.inj h2).symm
theorem vx_runVW {y : MethodName} {bytes cc : ByteArray} {maxL nL mc ms n index : Nat} {ret : Option FieldType} {hh : List (Nat × Nat × Nat × Nat)} {ws : List Cond} {rm : Room} {Pc : Array Value → State → Prop} {Qc : Array Value → State → Outcome → State → Prop} {free : Addr → Prop} {Ts : List Cond} {own C : String} {b : Addr} {As rest : List Value} {g : JFrame}
    (S : CallFix p m c cc nL s args Ts own) (hM : Met l y ws rm Pc Qc mc ms free) (cw : vx_CVW R s args own C index y bytes maxL ret hh ws rm mc ms n) (hp : PreV s H C b Pc As)
    (hg : g.method = m) (hn : As.length = n) (hsize : g.locals.size = nL) (hstack : g.stack = As.reverse ++ .ref b :: rest) (hW : 2 * g.monitorRoom + (rest.map fun v => v.category).sum ≤ 8) (hdg : decode cc g.pc = .ok (.invokevirtual index, 3)) (hf : cells + mc ≤ R.cells ∧ slots + ms ≤ R.slots) :
    va_Run p l e R s m args below meth c H locs cells slots mc ms g rest (Qc (Value.ref b :: As).toArray) free := by
  obtain ⟨⟨hrc, hrs, hfr, hlo, hws, hcw⟩, hcode, hini, hy, hlen, hl, hin, hse⟩ := cw
  have hK : Back l R p e below s args y 3 8 (PreOf R mc ms Pc) (PostOf Qc mc ms free) := va_backW (hh := hh) (bytes := bytes) (maxL := maxL) (ret := ret) hM hp.1 hrc hrs hfr hlo hws hcw (fun a' U hW => word_at hW (Or.inl (by first | rfl | simp [Cond.onTables, Cond.keeps, Cond.steady])) hini)
  obtain ⟨hx, hb, hml, ho, -⟩ := S
  obtain ⟨-, ⟨cellB, hcB, hoB, hclB⟩, hPc⟩ := hp
  intro T hT X
  obtain ⟨v, vm₁, ⟨U', l2, c2, s2⟩, hW₁, X', ⟨g', mk, t, L, e1, e2, hq, h1, hL, h2, h3⟩, st⟩ := vx_callVW X hx (C := C) (hh := hh) (bytes := bytes) (maxL := maxL) (ret := ret) ho hl hin hse hcode hy hK (by rw [hT]; exact hcB) hoB hclB hg (hsize.trans hml.symm) (argsL := As) (rest := rest) (fun sig h => hn.trans (hlen sig h)) hstack hW (by rw [hb]; exact hdg)
    (fun vm₁ hW₁ => ⟨hf.1, hf.2, hPc (T.setVm vm₁) hT hW₁⟩)
  dsimp only [Pt.U, Pt.locs, Pt.cells, Pt.slots] at X' e1 e2 h1 h2 h3 st
  subst h1; subst h2; subst h3
  exact ⟨v, (T.setVm vm₁).calling g' mk (Value.ref b :: As).toArray, t, U', L, hT, X', hL, e1, e2, hq, st⟩
section
variable {y : MethodName} {bytes cc : ByteArray} {maxL nL mc ms n index : Nat} {ret : Option FieldType} {ws : List Cond} {rm : Room} {Pc : Array Value → State → Prop} {Qc : Array Value → State → Outcome → State → Prop} {XC : String → State → State → Prop} {free : Addr → Prop} {Ts : List Cond} {own C : String} {b : Addr} {As rest : List Value} {g : JFrame}
theorem vx_runVX {hh : List (Nat × Nat × Nat × Nat)} (S : CallFix p m c cc nL s args Ts own) (hM : vx_Met l y ws rm Pc Qc XC mc ms free) (cw : vx_CVW R s args own C index y bytes maxL ret hh ws rm mc ms n) (hp : PreV s H C b Pc As)
    (hg : g.method = m) (hn : As.length = n) (hsize : g.locals.size = nL) (hstack : g.stack = As.reverse ++ .ref b :: rest) (hW : 2 * g.monitorRoom + (rest.map fun v => v.category).sum ≤ 8) (hdg : decode cc g.pc = .ok (.invokevirtual index, 3)) (hf : cells + mc ≤ R.cells ∧ slots + ms ≤ R.slots) :
    vx_Run p l e R s m args below meth c H locs cells slots mc ms g rest (Qc (Value.ref b :: As).toArray) XC free := by
  obtain ⟨⟨hrc, hrs, hfr, hlo, hws, hcw⟩, hcode, hini, hy, hlen, hl, hin, hse⟩ := cw
  have hK : vx_Back l R p e below s args y 3 8 (PreOf R mc ms Pc) (PostOf Qc mc ms free) (vx_Post XC mc ms free) := vx_backW (hh := hh) (bytes := bytes) (maxL := maxL) (ret := ret) hM hp.1 hrc hrs hfr hlo hws hcw (fun a' U hW => word_at hW (Or.inl (by first | rfl | simp [Cond.onTables, Cond.keeps, Cond.steady])) hini)
  obtain ⟨hx, hb, hml, ho, -⟩ := S
  obtain ⟨-, ⟨cellB, hcB, hoB, hclB⟩, hPc⟩ := hp
  intro T hT X
  rcases vx_callVX X hx (C := C) (hh := hh) (bytes := bytes) (maxL := maxL) (ret := ret) ho hl hin hse hcode hy hK (by rw [hT]; exact hcB) hoB hclB hg (hsize.trans hml.symm) (argsL := As) (rest := rest) (fun sig h => hn.trans (hlen sig h)) hstack hW (by rw [hb]; exact hdg)
    (fun vm₁ hW₁ => ⟨hf.1, hf.2, hPc (T.setVm vm₁) hT hW₁⟩) with ⟨v, vm₁, ⟨U', l2, c2, s2⟩, hW₁, X', ⟨g', mk, t, L, e1, e2, hq, h1, hL, h2, h3⟩, st⟩ | ⟨q, vm₁, ⟨U', l2, c2, s2⟩, hW₁, X', ⟨g', mk, t, L, E, ce, e1, e2, hq, hce, hcv, hcl, h1, hL, h2, h3⟩, st⟩
  · dsimp only [Pt.U, Pt.locs, Pt.cells, Pt.slots] at X' e1 e2 h1 h2 h3 st
    subst h1; subst h2; subst h3
    exact Or.inl ⟨v, (T.setVm vm₁).calling g' mk (Value.ref b :: As).toArray, t, U', L, hT, X', hL, e1, e2, hq, st⟩
  · dsimp only [Pt.U, Pt.locs, Pt.cells, Pt.slots] at X' e1 e2 h1 h2 h3 st hcl
    subst h1; subst h2; subst h3
    exact Or.inr ⟨q, (T.setVm vm₁).calling g' mk (Value.ref b :: As).toArray, t, U', L, E, ce, hT, X', hL, e1, e2, hq, hce, hcv, vx_cls hW₁ hcl, st⟩
theorem vx_runSX {hh : List (Nat × Nat × Nat × Nat)} (S : CallFix p m c cc nL s args Ts own) (hM : vx_Met l y ws rm Pc Qc XC mc ms free) (cw : vx_CSW R s args own index y bytes maxL ret hh ws rm mc ms n) (hp : PreS s H Pc As)
    (hg : g.method = m) (hn : As.length = n) (hsize : g.locals.size = nL) (hstack : g.stack = As.reverse ++ rest) (hW : 2 * g.monitorRoom + (rest.map fun v => v.category).sum ≤ 8) (hdg : decode cc g.pc = .ok (.invokestatic index, 3)) (hf : cells + mc ≤ R.cells ∧ slots + ms ≤ R.slots) :
    vx_Run p l e R s m args below meth c H locs cells slots mc ms g rest (Qc As.toArray) XC free := by
  obtain ⟨⟨hrc, hrs, hfr, hlo, hws, hcw⟩, hcode, hini, hy, hlen, hl, hstt⟩ := cw
  have hK : vx_Back l R p e below s args y 3 8 (PreOf R mc ms Pc) (PostOf Qc mc ms free) (vx_Post XC mc ms free) := vx_backW (hh := hh) (bytes := bytes) (maxL := maxL) (ret := ret) hM hp.1 hrc hrs hfr hlo hws hcw (fun a' U hW => word_at hW (Or.inl (by first | rfl | simp [Cond.onTables, Cond.keeps, Cond.steady])) hini)
  obtain ⟨hx, hb, hml, ho, -⟩ := S
  intro T hT X
  rcases vx_callSX X hx (hh := hh) (bytes := bytes) (maxL := maxL) (ret := ret) ho hl hstt hini hcode hy hK hg (hsize.trans hml.symm) (argsL := As) (rest := rest) (fun sig h => hn.trans (hlen sig h)) hstack hW (by rw [hb]; exact hdg)
    (fun vm₁ hW₁ => ⟨hf.1, hf.2, hp.2 (T.setVm vm₁) hT hW₁⟩) with ⟨v, vm₁, ⟨U', l2, c2, s2⟩, hW₁, X', ⟨g', mk, t, L, e1, e2, hq, h1, hL, h2, h3⟩, st⟩ | ⟨q, vm₁, ⟨U', l2, c2, s2⟩, hW₁, X', ⟨g', mk, t, L, E, ce, e1, e2, hq, hce, hcv, hcl, h1, hL, h2, h3⟩, st⟩
  · dsimp only [Pt.U, Pt.locs, Pt.cells, Pt.slots] at X' e1 e2 h1 h2 h3 st
    subst h1; subst h2; subst h3
    exact Or.inl ⟨v, (T.setVm vm₁).calling g' mk As.toArray, t, U', L, hT, X', hL, e1, e2, hq, st⟩
  · dsimp only [Pt.U, Pt.locs, Pt.cells, Pt.slots] at X' e1 e2 h1 h2 h3 st hcl
    subst h1; subst h2; subst h3
    exact Or.inr ⟨q, (T.setVm vm₁).calling g' mk As.toArray, t, U', L, E, ce, hT, X', hL, e1, e2, hq, hce, hcv, vx_cls hW₁ hcl, st⟩
end
end VXH
theorem vx_ofWH {l : Launch} {y : MethodName} {ws ws' : List Cond} {rm : Room} {Pc : Array Value → State → Prop} {Qc : Array Value → State → Outcome → State → Prop} {XC : String → State → State → Prop} {mc ms : Nat} {free : Addr → Prop} {cc : ByteArray} {maxL : Nat} {ret : Option FieldType} {hh : List (Nat × Nat × Nat × Nat)}
    (hy : plainName y.cls = true) (hw : ws = Cond.codeWith y cc maxL ret hh :: ws')
    (body : ∀ p e s m args below meth c s₁, BodyLoose p l y (headSpec ws rm) cc maxL ret e s m args below meth c s₁ → c.maxLocals = maxL → Pc args s →
      W p l e (headSpec ws rm).room s m args below meth c s.heap [] 0 0 (vx_MQ below Qc XC args s mc ms free) (entryFrame m args maxL)) : vx_Met l y ws rm Pc Qc XC mc ms free := by
  refine MetFree.of_bodyS (code := cc) (maxLocals := maxL) (ret := ret) hy ?_ ?_
  · intro args s m h hn
    obtain ⟨m9, meth, c, hn9, h1, h2, h3, h4, -, h5, h6, -⟩ := Cond.codeWith_spec (atoms_spec (ws := ws) h _ (by rw [hw]; exact List.mem_cons_self))
    cases hn.symm.trans hn9
    exact ⟨meth, c, h1, h2, h3, h4, h5, h6⟩
  · intro p e s m args below meth c s₁ B hml hP _
    have hh0 : s₁.heap = s.heap := by rw [B.state]; rfl
    obtain ⟨t, a1, o, b1, b2, b3⟩ := body p e s m args below meth c s₁ B hml hP s₁ hh0 (Stand.of_body B)
    exact ⟨t, o, a1, b1, b2, b3⟩
/-! ===== END ===== -/
end
section
/-! ABSTRACT RUNS. A heap of abstract cells (a list: an abstract address is a place in it), the judgement se_W (from this frame, with this abstract heap, the method comes to an end that Φ describes), and a row for each instruction. Nothing here speaks of one program. -/
abbrev se_E : Type := (FieldType × vp_A) ⊕ (Nat × List Value)
abbrev se_H : Type := List se_E
abbrev se_O : Type := Option Value ⊕ String
/-- a method: name, bytes, locals, answer's type, handlers -/
abbrev se_M : Type := MethodName × ByteArray × Nat × Option FieldType × List (Nat × Nat × Nat × Nat)
/-- .ref: a place of the abstract heap; .retAddr: a cell outside of it (the script, a caught exception) -/
def se_v (θ : Nat → Nat) : Value → Value
  | .ref k => .ref (θ k)
  | .retAddr a => .ref a
  | v => v
def se_a (θ : Nat → Nat) : vp_A → vp_A
  | (n, .inr (.inr (.inr (.inr f)))) => (n, .inr (.inr (.inr (.inr (fun j => (f j).map θ)))))
  | a => a
def se_e (dA : FieldType → ClassId) (θ : Nat → Nat) : se_E → va_E
  | .inl q => .inl (dA q.1, se_a θ q.2)
  | .inr q => .inr (q.1, q.2.map (se_v θ))
def se_w (dA : FieldType → ClassId) (θ : Nat → Nat) (h : se_H) : va_W := h.mapIdx (fun k e => (θ k, se_e dA θ e))
/-- references point below n -/
def se_wv (n : Nat) (v : Value) : Prop := ∀ k, v = .ref k → k < n
def se_we (n : Nat) : se_E → Prop
  | .inl q => ∀ (m : Nat) (f : Nat → Option Nat), q.2 = (m, .inr (.inr (.inr (.inr f)))) → ∀ j k, f j = some k → k < n
  | .inr q => ∀ v ∈ q.2, se_wv n v
def se_wh (h : se_H) : Prop := ∀ (k : Nat) (e : se_E), h[k]? = some e → se_we h.length e
theorem se_wv_mono {n m : Nat} {v : Value} (h : se_wv n v) (hm : n ≤ m) : se_wv m v := fun k hk => Nat.lt_of_lt_of_le (h k hk) hm
theorem se_we_mono {n m : Nat} {e : se_E} (h : se_we n e) (hm : n ≤ m) : se_we m e := by
  cases e with
  | inl q => exact fun a f hq j k hk => Nat.lt_of_lt_of_le (h a f hq j k hk) hm
  | inr q => exact fun v hv => se_wv_mono (h v hv) hm
theorem se_v_congr {n : Nat} {θ θ' : Nat → Nat} {v : Value} (hv : se_wv n v) (hθ : ∀ k, k < n → θ' k = θ k) : se_v θ' v = se_v θ v := by
  cases v with
  | ref k => show Value.ref (θ' k) = Value.ref (θ k); rw [hθ k (hv k rfl)]
  | _ => rfl
theorem se_vs_congr {n : Nat} {θ θ' : Nat → Nat} {vs : List Value} (hv : ∀ v ∈ vs, se_wv n v) (hθ : ∀ k, k < n → θ' k = θ k) : vs.map (se_v θ') = vs.map (se_v θ) :=
  List.map_congr_left fun v h => se_v_congr (hv v h) hθ
theorem se_e_congr {n : Nat} {dA : FieldType → ClassId} {θ θ' : Nat → Nat} {e : se_E} (he : se_we n e) (hθ : ∀ k, k < n → θ' k = θ k) : se_e dA θ' e = se_e dA θ e := by
  cases e with
  | inl q =>
    obtain ⟨ty, a, x⟩ := q
    show Sum.inl (dA ty, se_a θ' (a, x)) = Sum.inl (dA ty, se_a θ (a, x))
    rcases x with f | f | f | f | f
    · rfl
    · rfl
    · rfl
    · rfl
    · have hf : (fun j => (f j).map θ') = (fun j => (f j).map θ) := by
        funext j
        cases hj : f j with
        | none => rfl
        | some k => exact congrArg some (hθ k (he a f rfl j k hj))
      show Sum.inl (dA ty, (a, Sum.inr (Sum.inr (Sum.inr (Sum.inr (fun j => (f j).map θ')))))) = _
      rw [hf]
      rfl
  | inr q =>
    show Sum.inr (q.1, q.2.map (se_v θ')) = Sum.inr (q.1, q.2.map (se_v θ))
    rw [se_vs_congr he hθ]
theorem se_w_at {dA : FieldType → ClassId} {θ : Nat → Nat} {h : se_H} {k : Nat} {e : se_E} (hk : h[k]? = some e) : (se_w dA θ h)[k]? = some (θ k, se_e dA θ e) := by
  simp [se_w, List.getElem?_mapIdx, hk]
theorem se_w_of {dA : FieldType → ClassId} {θ : Nat → Nat} {h : se_H} {k : Nat} {q : Nat × va_E} (hk : (se_w dA θ h)[k]? = some q) : ∃ e, h[k]? = some e ∧ q = (θ k, se_e dA θ e) := by
  simp only [se_w, List.getElem?_mapIdx] at hk
  cases hh : h[k]? with
  | none => rw [hh] at hk; cases hk
  | some e => rw [hh] at hk; exact ⟨e, rfl, (Option.some.inj hk).symm⟩
theorem se_w_set {dA : FieldType → ClassId} {θ : Nat → Nat} {h : se_H} (k : Nat) (e : se_E) : se_w dA θ (h.set k e) = (se_w dA θ h).set k (θ k, se_e dA θ e) := by
  apply List.ext_getElem?
  intro i
  simp only [se_w, List.getElem?_mapIdx, List.getElem?_set, List.length_mapIdx]
  by_cases hi : k = i
  · subst hi
    by_cases hl : k < h.length
    · simp [hl]
    · simp [hl]
  · simp [hi]
theorem se_w_push {dA : FieldType → ClassId} {θ θ' : Nat → Nat} {h : se_H} {e : se_E} {q : Nat} (hw : se_wh h) (hθ : ∀ k, k < h.length → θ' k = θ k) (hq : θ' h.length = q) : se_w dA θ' (h ++ [e]) = se_w dA θ h ++ [(q, se_e dA θ' e)] := by
  apply List.ext_getElem?
  intro i
  by_cases hi : i < h.length
  · obtain ⟨x, hx⟩ : ∃ x, h[i]? = some x := ⟨h[i], List.getElem?_eq_getElem hi⟩
    rw [List.getElem?_append_left (by simpa [se_w] using hi), se_w_at hx, se_w_at (by rw [List.getElem?_append_left hi]; exact hx), hθ i hi, se_e_congr (hw i x hx) hθ]
  · have hl : (se_w dA θ h).length = h.length := by simp [se_w]
    rw [List.getElem?_append_right (by omega), hl]
    by_cases h2 : i = h.length
    · subst h2
      rw [se_w_at (e := e) (by simp), hq]
      simp
    · have : ¬ i - h.length < 1 := by omega
      rw [List.getElem?_eq_none (by simp [se_w]; omega), List.getElem?_eq_none (by simp; omega)]
theorem se_wh_set {h : se_H} {k : Nat} {e : se_E} (hw : se_wh h) (he : se_we h.length e) : se_wh (h.set k e) := by
  intro i x hx
  rw [List.length_set]
  rw [List.getElem?_set] at hx
  split at hx
  · split at hx
    · cases hx; exact he
    · cases hx
  · exact hw i x hx
theorem se_wh_push {h : se_H} {e : se_E} (hw : se_wh h) (he : se_we (h.length + 1) e) : se_wh (h ++ [e]) := by
  intro i x hx
  rw [List.length_append]
  by_cases hi : i < h.length
  · rw [List.getElem?_append_left hi] at hx
    exact se_we_mono (hw i x hx) (by simp)
  · rw [List.getElem?_append_right (by omega)] at hx
    have h0 : i - h.length = 0 := by
      rcases Nat.eq_zero_or_pos (i - h.length) with q | q
      · exact q
      · rw [List.getElem?_eq_none (by simp; omega)] at hx; cases hx
    rw [h0] at hx
    cases hx
    exact he
/-! locals -/
def se_L (θ : Nat → Nat) (L : List (Option Value)) (ls : Array Slot) (nL : Nat) : Prop := ls.size = nL ∧ lv_wf ls ∧ L.length = nL ∧ ∀ (i : Nat) (v : Value), L[i]? = some (some v) → ls[i]? = some (.val (se_v θ v))
/-- a long below i goes -/
def se_cl (L : List (Option Value)) : Nat → List (Option Value)
  | 0 => L
  | j + 1 => match L[j]? with
    | some (some (.long _)) => L.set j none
    | some (some (.double _)) => L.set j none
    | _ => L
def se_s1 (L : List (Option Value)) (i : Nat) (v : Value) : List (Option Value) := (se_cl L i).set i (some v)
def se_s2 (L : List (Option Value)) (i : Nat) (v : Value) : List (Option Value) := ((se_cl L i).set (i + 1) none).set i (some v)
theorem se_cl_len (L : List (Option Value)) (i : Nat) : (se_cl L i).length = L.length := by
  cases i with
  | zero => rfl
  | succ j => simp only [se_cl]; split <;> simp
theorem se_cl_at {L : List (Option Value)} {i j : Nat} {v : Value} (h : (se_cl L i)[j]? = some (some v)) : L[j]? = some (some v) ∧ ¬ (j + 1 = i ∧ v.category = 2) := by
  cases i with
  | zero => exact ⟨h, fun q => by omega⟩
  | succ k =>
    simp only [se_cl] at h
    split at h
    · rename_i y hy
      rw [List.getElem?_set] at h
      split at h
      · split at h <;> cases h
      · rename_i hne
        exact ⟨h, fun q => hne (by omega)⟩
    · rename_i y hy
      rw [List.getElem?_set] at h
      split at h
      · split at h <;> cases h
      · rename_i hne
        exact ⟨h, fun q => hne (by omega)⟩
    · rename_i h1 h2
      refine ⟨h, fun q => ?_⟩
      obtain ⟨q1, q2⟩ := q
      have hk : j = k := by omega
      subst hk
      cases v with
      | long x => exact h1 x h
      | double x => exact h2 x h
      | _ => simp [Value.category] at q2
theorem se_cat (θ : Nat → Nat) (v : Value) : (se_v θ v).category = v.category := by cases v <;> rfl
theorem se_store1 {θ : Nat → Nat} {L : List (Option Value)} {ls : Array Slot} {nL i : Nat} {v : Value} (h : se_L θ L ls nL) (hi : i < nL) (hc : v.category = 1) : ∃ ls', storeLocals ls i (se_v θ v) = some ls' ∧ se_L θ (se_s1 L i v) ls' nL := by
  obtain ⟨h1, h2, h3, h4⟩ := h
  obtain ⟨ls', e', h'⟩ := lv_store1 (ls := ls) (nL := nL) (l := []) (i := i) (v := se_v θ v) ⟨h1, h2, fun q hq => by cases hq⟩ hi (by rw [se_cat]; exact hc)
  refine ⟨ls', e', h'.1, h'.2.1, by simp [se_s1, se_cl_len, h3], fun j w hj => ?_⟩
  simp only [se_s1] at hj
  rw [List.getElem?_set] at hj
  split at hj
  · rename_i hij
    split at hj
    · cases hj
      subst hij
      exact h'.2.2 (i, se_v θ v) List.mem_cons_self
    · cases hj
  · rename_i hij
    obtain ⟨q1, q2⟩ := se_cl_at hj
    obtain ⟨ls2, e2, g2⟩ := lv_store1 (ls := ls) (nL := nL) (l := [(j, se_v θ w)]) (i := i) (v := se_v θ v) ⟨h1, h2, fun q hq => by rw [List.mem_singleton.mp hq]; exact h4 j w q1⟩ hi (by rw [se_cat]; exact hc)
    cases Option.some.inj (e2.symm.trans e')
    refine g2.2.2 (j, se_v θ w) (List.mem_cons_of_mem _ (List.mem_filter.mpr ⟨List.mem_singleton.mpr rfl, ?_⟩))
    have n1 : ¬ j = i := fun q => hij q.symm
    by_cases n2 : j + 1 = i
    · have n3 : ¬ w.category = 2 := fun q => q2 ⟨n2, q⟩
      simp [n1, n3, se_cat]
    · simp [n1, n2]
theorem se_store2 {θ : Nat → Nat} {L : List (Option Value)} {ls : Array Slot} {nL i : Nat} {v : Value} (h : se_L θ L ls nL) (hi : i + 1 < nL) (hc : v.category = 2) : ∃ ls', storeLocals ls i (se_v θ v) = some ls' ∧ se_L θ (se_s2 L i v) ls' nL := by
  obtain ⟨h1, h2, h3, h4⟩ := h
  obtain ⟨ls', e', h'⟩ := lv_store2 (ls := ls) (nL := nL) (l := []) (i := i) (v := se_v θ v) ⟨h1, h2, fun q hq => by cases hq⟩ hi (by rw [se_cat]; exact hc)
  refine ⟨ls', e', h'.1, h'.2.1, by simp [se_s2, se_cl_len, h3], fun j w hj => ?_⟩
  simp only [se_s2] at hj
  rw [List.getElem?_set] at hj
  split at hj
  · rename_i hij
    split at hj
    · cases hj
      subst hij
      exact h'.2.2 (i, se_v θ v) List.mem_cons_self
    · cases hj
  · rename_i hij
    rw [List.getElem?_set] at hj
    split at hj
    · split at hj <;> cases hj
    · rename_i hij2
      obtain ⟨q1, q2⟩ := se_cl_at hj
      obtain ⟨ls2, e2, g2⟩ := lv_store2 (ls := ls) (nL := nL) (l := [(j, se_v θ w)]) (i := i) (v := se_v θ v) ⟨h1, h2, fun q hq => by rw [List.mem_singleton.mp hq]; exact h4 j w q1⟩ hi (by rw [se_cat]; exact hc)
      cases Option.some.inj (e2.symm.trans e')
      refine g2.2.2 (j, se_v θ w) (List.mem_cons_of_mem _ (List.mem_filter.mpr ⟨List.mem_singleton.mpr rfl, ?_⟩))
      have n1 : ¬ j = i := fun q => hij q.symm
      have n4 : ¬ j = i + 1 := fun q => hij2 q.symm
      by_cases n2 : j + 1 = i
      · have n3 : ¬ w.category = 2 := fun q => q2 ⟨n2, q⟩
        simp [n1, n3, n4, se_cat]
      · simp [n1, n2, n4]
theorem se_L_congr {n : Nat} {θ θ' : Nat → Nat} {L : List (Option Value)} {ls : Array Slot} {nL : Nat} (h : se_L θ L ls nL) (hL : ∀ (i : Nat) (v : Value), L[i]? = some (some v) → se_wv n v) (hθ : ∀ k, k < n → θ' k = θ k) : se_L θ' L ls nL :=
  ⟨h.1, h.2.1, h.2.2.1, fun i v hv => by rw [se_v_congr (hL i v hv) hθ]; exact h.2.2.2 i v hv⟩
def se_wL (n : Nat) (L : List (Option Value)) : Prop := ∀ (i : Nat) (v : Value), L[i]? = some (some v) → se_wv n v
theorem se_wL_s1 {n : Nat} {L : List (Option Value)} {i : Nat} {v : Value} (h : se_wL n L) (hv : se_wv n v) : se_wL n (se_s1 L i v) := by
  intro j w hj
  simp only [se_s1] at hj
  rw [List.getElem?_set] at hj
  split at hj
  · split at hj
    · cases hj; exact hv
    · cases hj
  · exact h j w (se_cl_at hj).1
theorem se_wL_s2 {n : Nat} {L : List (Option Value)} {i : Nat} {v : Value} (h : se_wL n L) (hv : se_wv n v) : se_wL n (se_s2 L i v) := by
  intro j w hj
  simp only [se_s2] at hj
  rw [List.getElem?_set] at hj
  split at hj
  · split at hj
    · cases hj; exact hv
    · cases hj
  · rw [List.getElem?_set] at hj
    split at hj
    · split at hj <;> cases hj
    · exact h j w (se_cl_at hj).1
/-! locals at a method's start -/
def se_sl : List Value → List (Option Value)
  | [] => []
  | v :: vs => if v.category = 2 then some v :: none :: se_sl vs else some v :: se_sl vs
def se_ent (n : Nat) (vs : List Value) : List (Option Value) := se_sl vs ++ List.replicate (n - (se_sl vs).length) none
theorem se_sl_len (θ : Nat → Nat) : ∀ vs : List Value, (lg_sl (vs.map (se_v θ))).length = (se_sl vs).length := by
  intro vs
  induction vs with
  | nil => rfl
  | cons v vs ih =>
    cases v <;> simp [lg_sl, se_sl, se_v, Value.category] at ih ⊢ <;> omega
theorem se_sl_args (θ : Nat → Nat) : ∀ (vs : List Value) (b i : Nat) (v : Value), (se_sl vs)[i]? = some (some v) → (b + i, se_v θ v) ∈ lv_args b (vs.map (se_v θ)) := by
  intro vs
  induction vs with
  | nil => intro b i v h; simp [se_sl] at h
  | cons w vs ih =>
    intro b i v h
    simp only [List.map_cons, lv_args, se_cat]
    simp only [se_sl] at h
    by_cases hc : w.category = 2
    · rw [if_pos hc] at h ⊢
      match i, h with
      | 0, h => cases h; exact List.mem_cons_self
      | 1, h => cases h
      | i + 2, h =>
        refine List.mem_cons_of_mem _ ?_
        have := ih (b + 2) i v (by simpa using h)
        rwa [show b + (i + 2) = b + 2 + i by omega]
    · rw [if_neg hc] at h ⊢
      match i, h with
      | 0, h => cases h; exact List.mem_cons_self
      | i + 1, h =>
        refine List.mem_cons_of_mem _ ?_
        have := ih (b + 1) i v (by simpa using h)
        rwa [show b + (i + 1) = b + 1 + i by omega]
theorem se_ent_at {n : Nat} {vs : List Value} {i : Nat} {v : Value} (h : (se_ent n vs)[i]? = some (some v)) : (se_sl vs)[i]? = some (some v) := by
  simp only [se_ent] at h
  by_cases hi : i < (se_sl vs).length
  · rwa [List.getElem?_append_left hi] at h
  · rw [List.getElem?_append_right (by omega), List.getElem?_replicate] at h
    split at h <;> cases h
theorem se_ent_L {θ : Nat → Nat} {n : Nat} {vs : List Value} (h : (se_sl vs).length ≤ n) : se_L θ (se_ent n vs) ((lg_sl (vs.map (se_v θ)) ++ List.replicate (n - (lg_sl (vs.map (se_v θ))).length) Slot.unset).toArray) n := by
  have hl := lv_entry (vs.map (se_v θ)) (n := n) (by rw [se_sl_len]; exact h)
  refine ⟨hl.1, hl.2.1, by simp [se_ent]; omega, fun i v hv => ?_⟩
  have h2 := se_sl_args θ vs 0 i v (se_ent_at hv)
  rw [Nat.zero_add] at h2
  exact hl.2.2 _ h2
theorem se_sl_mem : ∀ {vs : List Value} {i : Nat} {v : Value}, (se_sl vs)[i]? = some (some v) → v ∈ vs := by
  intro vs
  induction vs with
  | nil => intro i v h; simp [se_sl] at h
  | cons w vs ih =>
    intro i v h
    simp only [se_sl] at h
    by_cases hc : w.category = 2
    · rw [if_pos hc] at h
      match i, h with
      | 0, h => cases h; exact List.mem_cons_self
      | 1, h => cases h
      | i + 2, h => exact List.mem_cons_of_mem _ (ih (i := i) (by simpa using h))
    · rw [if_neg hc] at h
      match i, h with
      | 0, h => cases h; exact List.mem_cons_self
      | i + 1, h => exact List.mem_cons_of_mem _ (ih (i := i) (by simpa using h))
end
section
-- NAMES: classes, their fields (declaring class, name, descriptor, final), types
def rK : String := "VehicleChecks$Kind"
def TK : u_T := fun k => match k with
  | 0 => ("VehicleChecks$Kind", "listed", "[Z", true)
  | 1 => ("VehicleChecks$Kind", "low", "[I", true)
  | 2 => ("VehicleChecks$Kind", "high", "[I", true)
  | 3 => ("VehicleChecks$Kind", "grade", "[I", true)
  | 4 => ("VehicleChecks$Kind", "every", "[I", true)
  | _ => ("VehicleChecks$Kind", "needed", "[I", true)
def yK : Nat → FieldType := fun k => match k with
  | 0 => .array .boolean
  | 1 => .array .int
  | 2 => .array .int
  | 3 => .array .int
  | 4 => .array .int
  | _ => .array .int
def rV : String := "VehicleChecks$Vehicle"
def TV : u_T := fun k => match k with
  | 0 => ("VehicleChecks$Vehicle", "number", "I", true)
  | 1 => ("VehicleChecks$Vehicle", "kind", "LVehicleChecks$Kind;", true)
  | 2 => ("VehicleChecks$Vehicle", "isSpare", "Z", true)
  | 3 => ("VehicleChecks$Vehicle", "toldHour", "I", true)
  | 4 => ("VehicleChecks$Vehicle", "things", "[I", true)
  | 5 => ("VehicleChecks$Vehicle", "answerValue", "[I", true)
  | 6 => ("VehicleChecks$Vehicle", "answerHour", "[I", true)
  | 7 => ("VehicleChecks$Vehicle", "answerPerson", "[I", true)
  | 8 => ("VehicleChecks$Vehicle", "usesBeforeAnswer", "[I", true)
  | 9 => ("VehicleChecks$Vehicle", "isOff", "Z", false)
  | 10 => ("VehicleChecks$Vehicle", "kilometres", "I", false)
  | 11 => ("VehicleChecks$Vehicle", "lowerTold", "I", false)
  | 12 => ("VehicleChecks$Vehicle", "uses", "I", false)
  | 13 => ("VehicleChecks$Vehicle", "filled", "I", false)
  | 14 => ("VehicleChecks$Vehicle", "costs", "I", false)
  | _ => ("VehicleChecks$Vehicle", "keyHolder", "I", false)
def yV : Nat → FieldType := fun k => match k with
  | 0 => .int
  | 1 => .object "VehicleChecks$Kind"
  | 2 => .boolean
  | 3 => .int
  | 4 => .array .int
  | 5 => .array .int
  | 6 => .array .int
  | 7 => .array .int
  | 8 => .array .int
  | 9 => .boolean
  | 10 => .int
  | 11 => .int
  | 12 => .int
  | 13 => .int
  | 14 => .int
  | _ => .int
def rC : String := "VehicleChecks"
def TC : u_T := fun k => match k with
  | 0 => ("VehicleChecks", "kinds", "[LVehicleChecks$Kind;", true)
  | 1 => ("VehicleChecks", "vehicles", "[LVehicleChecks$Vehicle;", true)
  | 2 => ("VehicleChecks", "damagedVehicle", "[I", true)
  | 3 => ("VehicleChecks", "damageGrade", "[I", true)
  | 4 => ("VehicleChecks", "damageProof", "[I", true)
  | 5 => ("VehicleChecks", "vehicleCount", "I", false)
  | 6 => ("VehicleChecks", "damageCount", "I", false)
  | _ => ("VehicleChecks", "hour", "I", false)
def yC : Nat → FieldType := fun k => match k with
  | 0 => .array (.object "VehicleChecks$Kind")
  | 1 => .array (.object "VehicleChecks$Vehicle")
  | 2 => .array .int
  | 3 => .array .int
  | 4 => .array .int
  | 5 => .int
  | 6 => .int
  | _ => .int
def rR : String := "VehicleChecksModel"
def TR : u_T := fun k => match k with
  | 0 => ("VehicleChecksModel", "thrown", "I", false)
  | 1 => ("VehicleChecksModel", "hour", "I", false)
  | 2 => ("VehicleChecksModel", "listed", "[Z", true)
  | 3 => ("VehicleChecksModel", "low", "[I", true)
  | 4 => ("VehicleChecksModel", "high", "[I", true)
  | 5 => ("VehicleChecksModel", "grade", "[I", true)
  | 6 => ("VehicleChecksModel", "every", "[I", true)
  | 7 => ("VehicleChecksModel", "needs", "[I", true)
  | 8 => ("VehicleChecksModel", "vehicles", "I", false)
  | 9 => ("VehicleChecksModel", "kind", "[I", true)
  | 10 => ("VehicleChecksModel", "spare", "[Z", true)
  | 11 => ("VehicleChecksModel", "off", "[Z", true)
  | 12 => ("VehicleChecksModel", "told", "[I", true)
  | 13 => ("VehicleChecksModel", "km", "[I", true)
  | 14 => ("VehicleChecksModel", "lower", "[I", true)
  | 15 => ("VehicleChecksModel", "uses", "[I", true)
  | 16 => ("VehicleChecksModel", "fuel", "[I", true)
  | 17 => ("VehicleChecksModel", "cost", "[I", true)
  | 18 => ("VehicleChecksModel", "key", "[I", true)
  | 19 => ("VehicleChecksModel", "things", "[I", true)
  | 20 => ("VehicleChecksModel", "answered", "[Z", true)
  | 21 => ("VehicleChecksModel", "value", "[I", true)
  | 22 => ("VehicleChecksModel", "at", "[I", true)
  | 23 => ("VehicleChecksModel", "by", "[I", true)
  | 24 => ("VehicleChecksModel", "usesThen", "[I", true)
  | 25 => ("VehicleChecksModel", "damages", "I", false)
  | 26 => ("VehicleChecksModel", "damageOf", "[I", true)
  | 27 => ("VehicleChecksModel", "damageGrade", "[I", true)
  | _ => ("VehicleChecksModel", "proof", "[I", true)
def yR : Nat → FieldType := fun k => match k with
  | 0 => .int
  | 1 => .int
  | 2 => .array .boolean
  | 3 => .array .int
  | 4 => .array .int
  | 5 => .array .int
  | 6 => .array .int
  | 7 => .array .int
  | 8 => .int
  | 9 => .array .int
  | 10 => .array .boolean
  | 11 => .array .boolean
  | 12 => .array .int
  | 13 => .array .int
  | 14 => .array .int
  | 15 => .array .int
  | 16 => .array .int
  | 17 => .array .int
  | 18 => .array .int
  | 19 => .array .int
  | 20 => .array .boolean
  | 21 => .array .int
  | 22 => .array .int
  | 23 => .array .int
  | 24 => .array .int
  | 25 => .int
  | 26 => .array .int
  | 27 => .array .int
  | _ => .array .int
def vCl : List vw_C := [(rK, TK, 6), (rV, TV, 16), (rC, TC, 8), (rR, TR, 29)]
-- methods: name, bytes, locals, answer, handlers
def mC_init : se_M := (⟨"VehicleChecks", "<init>", "()V"⟩, prog_1_method_1_code, 2, none, [])
def mK_init : se_M := (⟨"VehicleChecks$Kind", "<init>", "()V"⟩, prog_2_method_1_code, 1, none, [])
def mL_vehicle : se_M := (⟨"VehicleChecksLaw", "vehicle", "(LVehicleChecks;IZ[J)I"⟩, method_3_code, 5, (some .int), [(0, 10, 13, 13), (0, 10, 17, 15)])
def mC_vehicle : se_M := (⟨"VehicleChecks", "vehicle", "(IZ)I"⟩, prog_1_method_2_code, 5, (some .int), [])
def mC_knownKind : se_M := (⟨"VehicleChecks", "knownKind", "(I)LVehicleChecks$Kind;"⟩, prog_1_method_24_code, 2, (some (.object "VehicleChecks$Kind")), [])
def mV_init : se_M := (⟨"VehicleChecks$Vehicle", "<init>", "(ILVehicleChecks$Kind;ZI)V"⟩, prog_3_method_1_code, 6, none, [])
def mL_list : se_M := (⟨"VehicleChecksLaw", "list", "(LVehicleChecks;IIIIII)I"⟩, method_4_code, 8, (some .int), [(0, 13, 16, 13), (0, 13, 20, 21)])
def mC_list : se_M := (⟨"VehicleChecks", "list", "(IIIIII)V"⟩, prog_1_method_3_code, 8, none, [])
def mC_checkItem : se_M := (⟨"VehicleChecks", "checkItem", "(I)V"⟩, prog_1_method_26_code, 1, none, [])
def mC_checkRange : se_M := (⟨"VehicleChecks", "checkRange", "(III)V"⟩, prog_1_method_29_code, 3, none, [])
def mK_enter : se_M := (⟨"VehicleChecks$Kind", "enter", "(IIIII)V"⟩, prog_2_method_2_code, 6, none, [])
def mL_unlist : se_M := (⟨"VehicleChecksLaw", "unlist", "(LVehicleChecks;II)I"⟩, method_5_code, 4, (some .int), [(0, 6, 9, 13), (0, 6, 12, 27)])
def mC_unlist : se_M := (⟨"VehicleChecks", "unlist", "(II)V"⟩, prog_1_method_4_code, 4, none, [])
def mC_checkListed : se_M := (⟨"VehicleChecks", "checkListed", "(LVehicleChecks$Kind;I)V"⟩, prog_1_method_31_code, 2, none, [])
def mL_answer : se_M := (⟨"VehicleChecksLaw", "answer", "(LVehicleChecks;IIII[J)I"⟩, method_6_code, 7, (some .int), [(0, 21, 24, 13), (0, 21, 28, 21), (0, 21, 32, 27)])
def mC_answer : se_M := (⟨"VehicleChecks", "answer", "(IIII)Z"⟩, prog_1_method_5_code, 6, (some .boolean), [])
def mC_knownVehicle : se_M := (⟨"VehicleChecks", "knownVehicle", "(I)LVehicleChecks$Vehicle;"⟩, prog_1_method_25_code, 2, (some (.object "VehicleChecks$Vehicle")), [])
def mC_checkPerson : se_M := (⟨"VehicleChecks", "checkPerson", "(I)V"⟩, prog_1_method_28_code, 1, none, [])
def mV_keepAnswer : se_M := (⟨"VehicleChecks$Vehicle", "keepAnswer", "(IIII)V"⟩, prog_3_method_2_code, 5, none, [])
def mK_isWithin : se_M := (⟨"VehicleChecks$Kind", "isWithin", "(II)Z"⟩, prog_2_method_3_code, 3, (some .boolean), [])
def mL_item : se_M := (⟨"VehicleChecksLaw", "item", "(LVehicleChecks;III[J)I"⟩, method_7_code, 6, (some .int), [(0, 12, 15, 13)])
def mC_item : se_M := (⟨"VehicleChecks", "item", "(III)I"⟩, prog_1_method_6_code, 5, (some .int), [])
def mC_oneOrZero : se_M := (⟨"VehicleChecks", "oneOrZero", "(Z)I"⟩, prog_1_method_33_code, 1, (some .int), [])
def mV_hasFailed : se_M := (⟨"VehicleChecks$Vehicle", "hasFailed", "(I)Z"⟩, prog_3_method_4_code, 2, (some .boolean), [])
def mV_hasSkipped : se_M := (⟨"VehicleChecks$Vehicle", "hasSkipped", "(II)Z"⟩, prog_3_method_5_code, 4, (some .boolean), [])
def mL_use : se_M := (⟨"VehicleChecksLaw", "use", "(LVehicleChecks;II[J)I"⟩, method_8_code, 5, (some .int), [(0, 17, 20, 13), (0, 17, 24, 21), (0, 17, 28, 27)])
def mC_use : se_M := (⟨"VehicleChecks", "use", "(II)Z"⟩, prog_1_method_7_code, 4, (some .boolean), [])
def mC_canRun : se_M := (⟨"VehicleChecks", "canRun", "(LVehicleChecks$Vehicle;)Z"⟩, prog_1_method_35_code, 2, (some .boolean), [])
def mV_checksWeight : se_M := (⟨"VehicleChecks$Vehicle", "checksWeight", "(I)I"⟩, prog_3_method_6_code, 5, (some .int), [])
def mC_damagesWeight : se_M := (⟨"VehicleChecks", "damagesWeight", "(LVehicleChecks$Vehicle;)I"⟩, prog_1_method_37_code, 4, (some .int), [])
def mC_isOpenDamage : se_M := (⟨"VehicleChecks", "isOpenDamage", "(ILVehicleChecks$Vehicle;)Z"⟩, prog_1_method_36_code, 3, (some .boolean), [])
def mV_keepUse : se_M := (⟨"VehicleChecks$Vehicle", "keepUse", "(I)Z"⟩, prog_3_method_3_code, 2, (some .boolean), [])
def mL_runs : se_M := (⟨"VehicleChecksLaw", "runs", "(LVehicleChecks;I[J)I"⟩, method_9_code, 4, (some .int), [(0, 16, 19, 13)])
def mC_runs : se_M := (⟨"VehicleChecks", "runs", "(I)Z"⟩, prog_1_method_8_code, 2, (some .boolean), [])
def mL_reason : se_M := (⟨"VehicleChecksLaw", "reason", "(LVehicleChecks;II[J)I"⟩, method_10_code, 5, (some .int), [(0, 10, 13, 13), (0, 10, 17, 21)])
def mC_reason : se_M := (⟨"VehicleChecks", "reason", "(II)I"⟩, prog_1_method_9_code, 6, (some .int), [])
def mC_checkPlace : se_M := (⟨"VehicleChecks", "checkPlace", "(I)V"⟩, prog_1_method_30_code, 1, none, [])
def mC_damageReason : se_M := (⟨"VehicleChecks", "damageReason", "(LVehicleChecks$Vehicle;I)I"⟩, prog_1_method_39_code, 5, (some .int), [])
def mL_off : se_M := (⟨"VehicleChecksLaw", "off", "(LVehicleChecks;IZII)I"⟩, method_11_code, 6, (some .int), [(0, 9, 12, 13), (0, 9, 16, 27)])
def mC_off : se_M := (⟨"VehicleChecks", "off", "(IZII)V"⟩, prog_1_method_10_code, 6, none, [])
def mL_damage : se_M := (⟨"VehicleChecksLaw", "damage", "(LVehicleChecks;II[J)I"⟩, method_12_code, 5, (some .int), [(0, 10, 13, 13), (0, 10, 17, 21), (0, 10, 21, 15)])
def mC_damage : se_M := (⟨"VehicleChecks", "damage", "(II)I"⟩, prog_1_method_11_code, 5, (some .int), [])
def mL_proof : se_M := (⟨"VehicleChecksLaw", "proof", "(LVehicleChecks;II)I"⟩, method_13_code, 4, (some .int), [(0, 6, 9, 13), (0, 6, 12, 21), (0, 6, 15, 27)])
def mC_proof : se_M := (⟨"VehicleChecks", "proof", "(II)V"⟩, prog_1_method_12_code, 3, none, [])
def mL_need : se_M := (⟨"VehicleChecksLaw", "need", "(LVehicleChecks;III)I"⟩, method_14_code, 5, (some .int), [(0, 7, 10, 13), (0, 7, 14, 21)])
def mC_need : se_M := (⟨"VehicleChecks", "need", "(III)V"⟩, prog_1_method_13_code, 5, none, [])
def mC_checkThing : se_M := (⟨"VehicleChecks", "checkThing", "(I)V"⟩, prog_1_method_27_code, 1, none, [])
def mL_put : se_M := (⟨"VehicleChecksLaw", "put", "(LVehicleChecks;III[J)I"⟩, method_15_code, 6, (some .int), [(0, 12, 15, 13), (0, 12, 19, 21), (0, 12, 23, 15)])
def mC_put : se_M := (⟨"VehicleChecks", "put", "(III)I"⟩, prog_1_method_14_code, 5, (some .int), [])
def mC_checkRoom : se_M := (⟨"VehicleChecks", "checkRoom", "(III)V"⟩, prog_1_method_32_code, 3, none, [])
def mL_swap : se_M := (⟨"VehicleChecksLaw", "swap", "(LVehicleChecks;III[J)I"⟩, method_16_code, 6, (some .int), [(0, 12, 15, 13), (0, 12, 19, 27)])
def mC_swap : se_M := (⟨"VehicleChecks", "swap", "(III)I"⟩, prog_1_method_15_code, 7, (some .int), [])
def mL_spare : se_M := (⟨"VehicleChecksLaw", "spare", "(LVehicleChecks;I[J)I"⟩, method_17_code, 4, (some .int), [(0, 9, 12, 13)])
def mC_spare : se_M := (⟨"VehicleChecks", "spare", "(I)I"⟩, prog_1_method_16_code, 4, (some .int), [])
def mC_bestSpare : se_M := (⟨"VehicleChecks", "bestSpare", "(LVehicleChecks$Vehicle;)LVehicleChecks$Vehicle;"⟩, prog_1_method_40_code, 5, (some (.object "VehicleChecks$Vehicle")), [])
def mC_isSpareFor : se_M := (⟨"VehicleChecks", "isSpareFor", "(LVehicleChecks$Vehicle;LVehicleChecks$Vehicle;)Z"⟩, prog_1_method_41_code, 3, (some .boolean), [])
def mV_lowestLacking : se_M := (⟨"VehicleChecks$Vehicle", "lowestLacking", "()I"⟩, prog_3_method_7_code, 2, (some .int), [])
def mL_fuel : se_M := (⟨"VehicleChecksLaw", "fuel", "(LVehicleChecks;II[J)I"⟩, method_18_code, 5, (some .int), [(0, 10, 13, 13), (0, 10, 17, 21), (0, 10, 21, 15)])
def mC_fuel : se_M := (⟨"VehicleChecks", "fuel", "(II)I"⟩, prog_1_method_17_code, 4, (some .int), [])
def mL_using : se_M := (⟨"VehicleChecksLaw", "using", "(LVehicleChecks;II[J)I"⟩, method_19_code, 5, (some .int), [(0, 9, 12, 13), (0, 9, 16, 27)])
def mC_using : se_M := (⟨"VehicleChecks", "using", "(II)J"⟩, prog_1_method_18_code, 10, (some .long), [])
def mC_commonDivisor : se_M := (⟨"VehicleChecks", "commonDivisor", "(JJ)J"⟩, prog_1_method_34_code, 11, (some .long), [])
def mL_key : se_M := (⟨"VehicleChecksLaw", "key", "(LVehicleChecks;II[J)I"⟩, method_20_code, 5, (some .int), [(0, 10, 13, 13), (0, 10, 17, 27)])
def mC_key : se_M := (⟨"VehicleChecks", "key", "(II)I"⟩, prog_1_method_19_code, 5, (some .int), [])
def mL_cost : se_M := (⟨"VehicleChecksLaw", "cost", "(LVehicleChecks;II[J)I"⟩, method_21_code, 5, (some .int), [(0, 10, 13, 13), (0, 10, 17, 21), (0, 10, 21, 15)])
def mC_cost : se_M := (⟨"VehicleChecks", "cost", "(II)I"⟩, prog_1_method_20_code, 4, (some .int), [])
def mL_skipped : se_M := (⟨"VehicleChecksLaw", "skipped", "(LVehicleChecks;I[J)I"⟩, method_22_code, 4, (some .int), [(0, 9, 12, 21)])
def mC_skipped : se_M := (⟨"VehicleChecks", "skipped", "(I)I"⟩, prog_1_method_21_code, 5, (some .int), [])
def mL_tick : se_M := (⟨"VehicleChecksLaw", "tick", "(LVehicleChecks;I[J)I"⟩, method_23_code, 4, (some .int), [(0, 9, 12, 21)])
def mC_tick : se_M := (⟨"VehicleChecks", "tick", "(I)I"⟩, prog_1_method_22_code, 4, (some .int), [])
def mL_vehicleAt : se_M := (⟨"VehicleChecksLaw", "vehicleAt", "(LVehicleChecks;II[J)I"⟩, method_24_code, 5, (some .int), [(0, 10, 13, 13)])
def mC_vehicleAt : se_M := (⟨"VehicleChecks", "vehicleAt", "(II)I"⟩, prog_1_method_23_code, 4, (some .int), [])
def mC_openDamages : se_M := (⟨"VehicleChecks", "openDamages", "(LVehicleChecks$Vehicle;)I"⟩, prog_1_method_38_code, 4, (some .int), [])
def mR_init : se_M := (⟨"VehicleChecksModel", "<init>", "()V"⟩, prog_5_method_1_code, 1, none, [])
def mR_thrown : se_M := (⟨"VehicleChecksModel", "thrown", "()I"⟩, prog_5_method_2_code, 1, (some .int), [])
def mR_vehicle : se_M := (⟨"VehicleChecksModel", "vehicle", "(IZ)I"⟩, prog_5_method_9_code, 3, (some .int), [])
def mR_isKind : se_M := (⟨"VehicleChecksModel", "isKind", "(I)Z"⟩, prog_5_method_7_code, 1, (some .boolean), [])
def mR_in : se_M := (⟨"VehicleChecksModel", "in", "(III)Z"⟩, prog_5_method_3_code, 3, (some .boolean), [])
def mR_goes : se_M := (⟨"VehicleChecksModel", "goes", "(ZZZ)Z"⟩, prog_5_method_4_code, 4, (some .boolean), [])
def mR_list : se_M := (⟨"VehicleChecksModel", "list", "(IIIIII)V"⟩, prog_5_method_10_code, 7, none, [])
def mR_isItem : se_M := (⟨"VehicleChecksModel", "isItem", "(I)Z"⟩, prog_5_method_6_code, 1, (some .boolean), [])
def mR_unlist : se_M := (⟨"VehicleChecksModel", "unlist", "(II)V"⟩, prog_5_method_11_code, 4, none, [])
def mR_answer : se_M := (⟨"VehicleChecksModel", "answer", "(IIII)Z"⟩, prog_5_method_14_code, 7, (some .boolean), [])
def mR_isVehicle : se_M := (⟨"VehicleChecksModel", "isVehicle", "(I)Z"⟩, prog_5_method_5_code, 2, (some .boolean), [])
def mR_isPerson : se_M := (⟨"VehicleChecksModel", "isPerson", "(I)Z"⟩, prog_5_method_8_code, 1, (some .boolean), [])
def mR_rule : se_M := (⟨"VehicleChecksModel", "rule", "(II)I"⟩, prog_5_method_12_code, 3, (some .int), [])
def mR_isWithin : se_M := (⟨"VehicleChecksModel", "isWithin", "(III)Z"⟩, prog_5_method_13_code, 4, (some .boolean), [])
def mR_item : se_M := (⟨"VehicleChecksModel", "item", "(III)I"⟩, prog_5_method_17_code, 5, (some .int), [])
def mR_fails : se_M := (⟨"VehicleChecksModel", "fails", "(II)Z"⟩, prog_5_method_15_code, 3, (some .boolean), [])
def mR_isSkipped : se_M := (⟨"VehicleChecksModel", "isSkipped", "(II)Z"⟩, prog_5_method_16_code, 5, (some .boolean), [])
def mR_reason : se_M := (⟨"VehicleChecksModel", "reason", "(II)I"⟩, prog_5_method_19_code, 3, (some .int), [])
def mR_reasonOf : se_M := (⟨"VehicleChecksModel", "reasonOf", "(II)I"⟩, prog_5_method_18_code, 5, (some .int), [])
def mR_runs : se_M := (⟨"VehicleChecksModel", "runs", "(I)Z"⟩, prog_5_method_21_code, 2, (some .boolean), [])
def mR_isRunning : se_M := (⟨"VehicleChecksModel", "isRunning", "(I)Z"⟩, prog_5_method_20_code, 5, (some .boolean), [])
def mR_use : se_M := (⟨"VehicleChecksModel", "use", "(II)Z"⟩, prog_5_method_22_code, 3, (some .boolean), [])
def mR_off : se_M := (⟨"VehicleChecksModel", "off", "(IZII)V"⟩, prog_5_method_23_code, 6, none, [])
def mR_damage : se_M := (⟨"VehicleChecksModel", "damage", "(II)I"⟩, prog_5_method_24_code, 3, (some .int), [])
def mR_proof : se_M := (⟨"VehicleChecksModel", "proof", "(II)V"⟩, prog_5_method_25_code, 4, none, [])
def mR_need : se_M := (⟨"VehicleChecksModel", "need", "(III)V"⟩, prog_5_method_27_code, 4, none, [])
def mR_isThing : se_M := (⟨"VehicleChecksModel", "isThing", "(I)Z"⟩, prog_5_method_26_code, 1, (some .boolean), [])
def mR_put : se_M := (⟨"VehicleChecksModel", "put", "(III)I"⟩, prog_5_method_28_code, 5, (some .int), [])
def mR_swap : se_M := (⟨"VehicleChecksModel", "swap", "(III)I"⟩, prog_5_method_29_code, 6, (some .int), [])
def mR_spare : se_M := (⟨"VehicleChecksModel", "spare", "(I)I"⟩, prog_5_method_30_code, 4, (some .int), [])
def mR_fuel : se_M := (⟨"VehicleChecksModel", "fuel", "(II)I"⟩, prog_5_method_31_code, 3, (some .int), [])
def mR_using : se_M := (⟨"VehicleChecksModel", "using", "(II)J"⟩, prog_5_method_32_code, 14, (some .long), [])
def mR_key : se_M := (⟨"VehicleChecksModel", "key", "(II)I"⟩, prog_5_method_33_code, 5, (some .int), [])
def mR_cost : se_M := (⟨"VehicleChecksModel", "cost", "(II)I"⟩, prog_5_method_34_code, 3, (some .int), [])
def mR_skipped : se_M := (⟨"VehicleChecksModel", "skipped", "(I)I"⟩, prog_5_method_35_code, 4, (some .int), [])
def mR_tick : se_M := (⟨"VehicleChecksModel", "tick", "(I)I"⟩, prog_5_method_36_code, 4, (some .int), [])
def mR_vehicleAt : se_M := (⟨"VehicleChecksModel", "vehicleAt", "(II)I"⟩, prog_5_method_37_code, 5, (some .int), [])
def mL_law : se_M := (⟨"VehicleChecksLaw", "law", "([I)Z"⟩, code, maxLocals, ret, [])
def vW : List Cond := lw_tbl.filter goodWord
def vA : List FieldType := [.int, .boolean, .long, .object "VehicleChecks$Kind", .object "VehicleChecks$Vehicle"]
def vS : List (String × Nat × String) := [("VehicleChecks", 220, "no such kind"), ("VehicleChecks", 42, "no room for one more vehicle"), ("VehicleChecks", 224, "no such item"), ("VehicleChecks", 232, "outside of its range"), ("VehicleChecks", 237, "the item is not on the list"), ("VehicleChecks", 222, "no such vehicle"), ("VehicleChecks", 228, "no such person"), ("VehicleChecks", 116, "no such what"), ("VehicleChecks", 126, "the vehicle does not run"), ("VehicleChecks", 235, "the place is below 0"), ("VehicleChecks", 146, "the vehicle is so already"), ("VehicleChecks", 148, "the two persons are one"), ("VehicleChecks", 153, "no room for one more damage"), ("VehicleChecks", 158, "no such damage"), ("VehicleChecks", 160, "the damage has a proof"), ("VehicleChecks", 226, "no such thing"), ("VehicleChecks", 239, "no room for so much more"), ("VehicleChecks", 174, "the two vehicles are one"), ("VehicleChecks", 176, "both have as many"), ("VehicleChecks", 193, "the vehicle has no kilometres"), ("VehicleChecks", 204, "that one has the key")]
end
section
theorem se_wd {w : Cond} (i : Nat) (h : tables_1[i]? = some w) (hg : goodWord w = true) : w ∈ vW := List.mem_filter.mpr ⟨List.mem_append_right _ (List.mem_of_getElem? h), hg⟩
theorem se_wsl {w : Cond} (i : Nat) (h : (k2_sels lw_privs)[i]? = some w) (hg : goodWord w = true) : w ∈ vW := List.mem_filter.mpr ⟨List.mem_append_left _ (List.mem_of_getElem? h), hg⟩
theorem wd_0 : (Jvm.Cond.initialized "VehicleChecksLaw") ∈ vW := se_wd 0 (by decide +kernel) (by decide +kernel)
theorem wd_1 : (Jvm.Cond.initialized "VehicleChecks") ∈ vW := se_wd 1 (by decide +kernel) (by decide +kernel)
theorem wd_2 : (Jvm.Cond.initialized "VehicleChecks$Kind") ∈ vW := se_wd 2 (by decide +kernel) (by decide +kernel)
theorem wd_3 : (Jvm.Cond.initialized "VehicleChecksModel") ∈ vW := se_wd 3 (by decide +kernel) (by decide +kernel)
theorem wd_4 : (Jvm.Cond.initialized "java/lang/Throwable") ∈ vW := se_wd 4 (by decide +kernel) (by decide +kernel)
theorem wd_5 : (Jvm.Cond.initialized "java/lang/Exception") ∈ vW := se_wd 5 (by decide +kernel) (by decide +kernel)
theorem wd_6 : (Jvm.Cond.initialized "java/lang/RuntimeException") ∈ vW := se_wd 6 (by decide +kernel) (by decide +kernel)
theorem wd_7 : (Jvm.Cond.initialized "java/lang/IllegalArgumentException") ∈ vW := se_wd 7 (by decide +kernel) (by decide +kernel)
theorem wd_8 : (Jvm.Cond.initialized "java/lang/UnsupportedOperationException") ∈ vW := se_wd 8 (by decide +kernel) (by decide +kernel)
theorem wd_9 : (Jvm.Cond.initialized "VehicleChecks$Vehicle") ∈ vW := se_wd 9 (by decide +kernel) (by decide +kernel)
theorem wd_10 : (Jvm.Cond.initialized "java/lang/IndexOutOfBoundsException") ∈ vW := se_wd 10 (by decide +kernel) (by decide +kernel)
theorem wd_11 : (Jvm.Cond.initialized "java/lang/IllegalStateException") ∈ vW := se_wd 11 (by decide +kernel) (by decide +kernel)
theorem wd_12 : (Jvm.Cond.initialized "java/lang/Math") ∈ vW := se_wd 12 (by decide +kernel) (by decide +kernel)
theorem wd_13 : (Jvm.Cond.classLink "VehicleChecksLaw" (8 : Nat) "VehicleChecks") ∈ vW := se_wd 13 (by decide +kernel) (by decide +kernel)
theorem wd_14 : (Jvm.Cond.instantiable "VehicleChecks" (8 : Nat)) ∈ vW := se_wd 14 (by decide +kernel) (by decide +kernel)
theorem wd_15 : (Jvm.Cond.methodLink "VehicleChecksLaw" (95 : Nat) ({ cls := "VehicleChecks", name := "<init>", desc := "()V" } : Jvm.MethodName)) ∈ vW := se_wd 15 (by decide +kernel) (by decide +kernel)
theorem wd_16 : (Jvm.Cond.instanceMethod ({ cls := "VehicleChecks", name := "<init>", desc := "()V" } : Jvm.MethodName)) ∈ vW := se_wd 16 (by decide +kernel) (by decide +kernel)
theorem wd_17 : (Jvm.Cond.code ({ cls := "VehicleChecks", name := "<init>", desc := "()V" } : Jvm.MethodName) prog_1_method_1_code (2 : Nat) (Option.none : Option Jvm.ClassFile.FieldType)) ∈ vW := se_wd 17 (by decide +kernel) (by decide +kernel)
theorem wd_18 : (Jvm.Cond.methodLink "VehicleChecks" (1 : Nat) ({ cls := "java/lang/Object", name := "<init>", desc := "()V" } : Jvm.MethodName)) ∈ vW := se_wd 18 (by decide +kernel) (by decide +kernel)
theorem wd_19 : (Jvm.Cond.instanceMethod ({ cls := "java/lang/Object", name := "<init>", desc := "()V" } : Jvm.MethodName)) ∈ vW := se_wd 19 (by decide +kernel) (by decide +kernel)
theorem wd_20 : (Jvm.Cond.code ({ cls := "java/lang/Object", name := "<init>", desc := "()V" } : Jvm.MethodName) object_method_1_code (1 : Nat) (Option.none : Option Jvm.ClassFile.FieldType)) ∈ vW := se_wd 20 (by decide +kernel) (by decide +kernel)
theorem wd_21 : (Jvm.Cond.classLink "VehicleChecks" (9 : Nat) "VehicleChecks$Kind") ∈ vW := se_wd 21 (by decide +kernel) (by decide +kernel)
theorem wd_23 : (Jvm.Cond.instantiable "VehicleChecks$Kind" (6 : Nat)) ∈ vW := se_wd 23 (by decide +kernel) (by decide +kernel)
theorem wd_25 : (Jvm.Cond.instanceMethod ({ cls := "VehicleChecks$Kind", name := "<init>", desc := "()V" } : Jvm.MethodName)) ∈ vW := se_wd 25 (by decide +kernel) (by decide +kernel)
theorem wd_26 : (Jvm.Cond.code ({ cls := "VehicleChecks$Kind", name := "<init>", desc := "()V" } : Jvm.MethodName) prog_2_method_1_code (1 : Nat) (Option.none : Option Jvm.ClassFile.FieldType)) ∈ vW := se_wd 26 (by decide +kernel) (by decide +kernel)
theorem wd_27 : (Jvm.Cond.methodLink "VehicleChecks$Kind" (3 : Nat) ({ cls := "java/lang/Object", name := "<init>", desc := "()V" } : Jvm.MethodName)) ∈ vW := se_wd 27 (by decide +kernel) (by decide +kernel)
theorem wd_28 : (Jvm.Cond.fieldLink "VehicleChecks$Kind" (9 : Nat) "VehicleChecks$Kind" "listed" "[Z") ∈ vW := se_wd 28 (by decide +kernel) (by decide +kernel)
theorem wd_29 : (Jvm.Cond.fieldLink "VehicleChecks$Vehicle" (54 : Nat) "VehicleChecks$Kind" "listed" "[Z") ∈ vW := se_wd 29 (by decide +kernel) (by decide +kernel)
theorem wd_30 : (Jvm.Cond.fieldLink "VehicleChecks" (69 : Nat) "VehicleChecks$Kind" "listed" "[Z") ∈ vW := se_wd 30 (by decide +kernel) (by decide +kernel)
theorem wd_31 : (Jvm.Cond.fieldLink "VehicleChecks$Kind" (15 : Nat) "VehicleChecks$Kind" "low" "[I") ∈ vW := se_wd 31 (by decide +kernel) (by decide +kernel)
theorem wd_32 : (Jvm.Cond.fieldLink "VehicleChecks$Kind" (19 : Nat) "VehicleChecks$Kind" "high" "[I") ∈ vW := se_wd 32 (by decide +kernel) (by decide +kernel)
theorem wd_33 : (Jvm.Cond.fieldLink "VehicleChecks$Kind" (22 : Nat) "VehicleChecks$Kind" "grade" "[I") ∈ vW := se_wd 33 (by decide +kernel) (by decide +kernel)
theorem wd_34 : (Jvm.Cond.fieldLink "VehicleChecks$Vehicle" (67 : Nat) "VehicleChecks$Kind" "grade" "[I") ∈ vW := se_wd 34 (by decide +kernel) (by decide +kernel)
theorem wd_35 : (Jvm.Cond.fieldLink "VehicleChecks" (135 : Nat) "VehicleChecks$Kind" "grade" "[I") ∈ vW := se_wd 35 (by decide +kernel) (by decide +kernel)
theorem wd_36 : (Jvm.Cond.fieldLink "VehicleChecks$Kind" (25 : Nat) "VehicleChecks$Kind" "every" "[I") ∈ vW := se_wd 36 (by decide +kernel) (by decide +kernel)
theorem wd_37 : (Jvm.Cond.fieldLink "VehicleChecks$Vehicle" (64 : Nat) "VehicleChecks$Kind" "every" "[I") ∈ vW := se_wd 37 (by decide +kernel) (by decide +kernel)
theorem wd_38 : (Jvm.Cond.fieldLink "VehicleChecks$Kind" (28 : Nat) "VehicleChecks$Kind" "needed" "[I") ∈ vW := se_wd 38 (by decide +kernel) (by decide +kernel)
theorem wd_39 : (Jvm.Cond.fieldLink "VehicleChecks$Vehicle" (77 : Nat) "VehicleChecks$Kind" "needed" "[I") ∈ vW := se_wd 39 (by decide +kernel) (by decide +kernel)
theorem wd_40 : (Jvm.Cond.fieldLink "VehicleChecks" (165 : Nat) "VehicleChecks$Kind" "needed" "[I") ∈ vW := se_wd 40 (by decide +kernel) (by decide +kernel)
theorem wd_41 : (Jvm.Cond.laysFinal "VehicleChecks$Kind" "VehicleChecks$Kind" "listed" "[Z") ∈ vW := se_wd 41 (by decide +kernel) (by decide +kernel)
theorem wd_43 : (Jvm.Cond.laysFinal "VehicleChecks$Kind" "VehicleChecks$Kind" "low" "[I") ∈ vW := se_wd 43 (by decide +kernel) (by decide +kernel)
theorem wd_45 : (Jvm.Cond.laysFinal "VehicleChecks$Kind" "VehicleChecks$Kind" "high" "[I") ∈ vW := se_wd 45 (by decide +kernel) (by decide +kernel)
theorem wd_47 : (Jvm.Cond.laysFinal "VehicleChecks$Kind" "VehicleChecks$Kind" "grade" "[I") ∈ vW := se_wd 47 (by decide +kernel) (by decide +kernel)
theorem wd_49 : (Jvm.Cond.laysFinal "VehicleChecks$Kind" "VehicleChecks$Kind" "every" "[I") ∈ vW := se_wd 49 (by decide +kernel) (by decide +kernel)
theorem wd_51 : (Jvm.Cond.laysFinal "VehicleChecks$Kind" "VehicleChecks$Kind" "needed" "[I") ∈ vW := se_wd 51 (by decide +kernel) (by decide +kernel)
theorem wd_54 : (Jvm.Cond.arrayClass Jvm.ClassFile.FieldType.boolean) ∈ vW := se_wd 54 (by decide +kernel) (by decide +kernel)
theorem wd_55 : (Jvm.Cond.arrayClass Jvm.ClassFile.FieldType.int) ∈ vW := se_wd 55 (by decide +kernel) (by decide +kernel)
theorem wd_56 : (Jvm.Cond.classLink "VehicleChecks" (16 : Nat) "VehicleChecks$Vehicle") ∈ vW := se_wd 56 (by decide +kernel) (by decide +kernel)
theorem wd_58 : (Jvm.Cond.fieldLink "VehicleChecks" (11 : Nat) "VehicleChecks" "kinds" "[LVehicleChecks$Kind;") ∈ vW := se_wd 58 (by decide +kernel) (by decide +kernel)
theorem wd_59 : (Jvm.Cond.fieldLink "VehicleChecks" (18 : Nat) "VehicleChecks" "vehicles" "[LVehicleChecks$Vehicle;") ∈ vW := se_wd 59 (by decide +kernel) (by decide +kernel)
theorem wd_60 : (Jvm.Cond.fieldLink "VehicleChecks" (22 : Nat) "VehicleChecks" "damagedVehicle" "[I") ∈ vW := se_wd 60 (by decide +kernel) (by decide +kernel)
theorem wd_61 : (Jvm.Cond.fieldLink "VehicleChecks" (26 : Nat) "VehicleChecks" "damageGrade" "[I") ∈ vW := se_wd 61 (by decide +kernel) (by decide +kernel)
theorem wd_62 : (Jvm.Cond.fieldLink "VehicleChecks" (29 : Nat) "VehicleChecks" "damageProof" "[I") ∈ vW := se_wd 62 (by decide +kernel) (by decide +kernel)
theorem wd_63 : (Jvm.Cond.fieldLink "VehicleChecks" (36 : Nat) "VehicleChecks" "vehicleCount" "I") ∈ vW := se_wd 63 (by decide +kernel) (by decide +kernel)
theorem wd_64 : (Jvm.Cond.fieldLink "VehicleChecks" (150 : Nat) "VehicleChecks" "damageCount" "I") ∈ vW := se_wd 64 (by decide +kernel) (by decide +kernel)
theorem wd_65 : (Jvm.Cond.fieldLink "VehicleChecks" (47 : Nat) "VehicleChecks" "hour" "I") ∈ vW := se_wd 65 (by decide +kernel) (by decide +kernel)
theorem wd_66 : (Jvm.Cond.laysFinal "VehicleChecks" "VehicleChecks" "kinds" "[LVehicleChecks$Kind;") ∈ vW := se_wd 66 (by decide +kernel) (by decide +kernel)
theorem wd_68 : (Jvm.Cond.laysFinal "VehicleChecks" "VehicleChecks" "vehicles" "[LVehicleChecks$Vehicle;") ∈ vW := se_wd 68 (by decide +kernel) (by decide +kernel)
theorem wd_70 : (Jvm.Cond.laysFinal "VehicleChecks" "VehicleChecks" "damagedVehicle" "[I") ∈ vW := se_wd 70 (by decide +kernel) (by decide +kernel)
theorem wd_72 : (Jvm.Cond.laysFinal "VehicleChecks" "VehicleChecks" "damageGrade" "[I") ∈ vW := se_wd 72 (by decide +kernel) (by decide +kernel)
theorem wd_74 : (Jvm.Cond.laysFinal "VehicleChecks" "VehicleChecks" "damageProof" "[I") ∈ vW := se_wd 74 (by decide +kernel) (by decide +kernel)
theorem wd_76 : (Jvm.Cond.lays "VehicleChecks" "VehicleChecks" "vehicleCount" "I") ∈ vW := se_wd 76 (by decide +kernel) (by decide +kernel)
theorem wd_78 : (Jvm.Cond.lays "VehicleChecks" "VehicleChecks" "damageCount" "I") ∈ vW := se_wd 78 (by decide +kernel) (by decide +kernel)
theorem wd_80 : (Jvm.Cond.lays "VehicleChecks" "VehicleChecks" "hour" "I") ∈ vW := se_wd 80 (by decide +kernel) (by decide +kernel)
theorem wd_83 : (Jvm.Cond.methodLink "VehicleChecksLaw" (99 : Nat) ({ cls := "VehicleChecksLaw", name := "vehicle", desc := "(LVehicleChecks;IZ[J)I" } : Jvm.MethodName)) ∈ vW := se_wd 83 (by decide +kernel) (by decide +kernel)
theorem wd_84 : (Jvm.Cond.static ({ cls := "VehicleChecksLaw", name := "vehicle", desc := "(LVehicleChecks;IZ[J)I" } : Jvm.MethodName)) ∈ vW := se_wd 84 (by decide +kernel) (by decide +kernel)
theorem wd_85 : (Jvm.Cond.codeWith ({ cls := "VehicleChecksLaw", name := "vehicle", desc := "(LVehicleChecks;IZ[J)I" } : Jvm.MethodName) method_3_code (5 : Nat) (Option.some Jvm.ClassFile.FieldType.int) [((0 : Nat), (10 : Nat), (13 : Nat), (13 : Nat)), ((0 : Nat), (10 : Nat), (17 : Nat), (15 : Nat))]) ∈ vW := se_wd 85 (by decide +kernel) (by decide +kernel)
theorem wd_86 : (Jvm.Cond.classLink "VehicleChecksLaw" (13 : Nat) "java/lang/IllegalArgumentException") ∈ vW := se_wd 86 (by decide +kernel) (by decide +kernel)
theorem wd_87 : (Jvm.Cond.classLink "VehicleChecksLaw" (15 : Nat) "java/lang/UnsupportedOperationException") ∈ vW := se_wd 87 (by decide +kernel) (by decide +kernel)
theorem wd_88 : (Jvm.Cond.methodLink "VehicleChecksLaw" (7 : Nat) ({ cls := "VehicleChecks", name := "vehicle", desc := "(IZ)I" } : Jvm.MethodName)) ∈ vW := se_wd 88 (by decide +kernel) (by decide +kernel)
theorem wd_89 : (Jvm.Cond.instanceMethod ({ cls := "VehicleChecks", name := "vehicle", desc := "(IZ)I" } : Jvm.MethodName)) ∈ vW := se_wd 89 (by decide +kernel) (by decide +kernel)
theorem wd_90 : (Jvm.Cond.selects "VehicleChecks" ({ cls := "VehicleChecks", name := "vehicle", desc := "(IZ)I" } : Jvm.MethodName) ({ cls := "VehicleChecks", name := "vehicle", desc := "(IZ)I" } : Jvm.MethodName)) ∈ vW := se_wd 90 (by decide +kernel) (by decide +kernel)
theorem wd_91 : (Jvm.Cond.code ({ cls := "VehicleChecks", name := "vehicle", desc := "(IZ)I" } : Jvm.MethodName) prog_1_method_2_code (5 : Nat) (Option.some Jvm.ClassFile.FieldType.int)) ∈ vW := se_wd 91 (by decide +kernel) (by decide +kernel)
theorem wd_92 : (Jvm.Cond.methodLink "VehicleChecks" (32 : Nat) ({ cls := "VehicleChecks", name := "knownKind", desc := "(I)LVehicleChecks$Kind;" } : Jvm.MethodName)) ∈ vW := se_wd 92 (by decide +kernel) (by decide +kernel)
theorem wd_94 : (Jvm.Cond.instanceMethod ({ cls := "VehicleChecks", name := "knownKind", desc := "(I)LVehicleChecks$Kind;" } : Jvm.MethodName)) ∈ vW := se_wd 94 (by decide +kernel) (by decide +kernel)
theorem wd_95 : (Jvm.Cond.code ({ cls := "VehicleChecks", name := "knownKind", desc := "(I)LVehicleChecks$Kind;" } : Jvm.MethodName) prog_1_method_24_code (2 : Nat) (Option.some (Jvm.ClassFile.FieldType.object "VehicleChecks$Kind"))) ∈ vW := se_wd 95 (by decide +kernel) (by decide +kernel)
theorem wd_96 : (Jvm.Cond.classLink "VehicleChecks" (114 : Nat) "java/lang/IllegalArgumentException") ∈ vW := se_wd 96 (by decide +kernel) (by decide +kernel)
theorem wd_97 : (Jvm.Cond.instantiable "java/lang/IllegalArgumentException" (6 : Nat)) ∈ vW := se_wd 97 (by decide +kernel) (by decide +kernel)
theorem wd_105 : (Jvm.Cond.selects "java/lang/IllegalArgumentException" ({ cls := "java/lang/Throwable", name := "fillInStackTrace", desc := "(I)Ljava/lang/Throwable;" } : Jvm.MethodName) ({ cls := "java/lang/Throwable", name := "fillInStackTrace", desc := "(I)Ljava/lang/Throwable;" } : Jvm.MethodName)) ∈ vW := se_wd 105 (by decide +kernel) (by decide +kernel)
theorem wd_106 : (Jvm.Cond.selects "java/lang/IllegalArgumentException" ({ cls := "java/lang/Throwable", name := "fillInStackTrace", desc := "()Ljava/lang/Throwable;" } : Jvm.MethodName) ({ cls := "java/lang/Throwable", name := "fillInStackTrace", desc := "()Ljava/lang/Throwable;" } : Jvm.MethodName)) ∈ vW := se_wd 106 (by decide +kernel) (by decide +kernel)
theorem wd_107 : (Jvm.Cond.lays "java/lang/IllegalArgumentException" "java/lang/Throwable" "cause" "Ljava/lang/Throwable;") ∈ vW := se_wd 107 (by decide +kernel) (by decide +kernel)
theorem wd_108 : (Jvm.Cond.lays "java/lang/Throwable" "java/lang/Throwable" "cause" "Ljava/lang/Throwable;") ∈ vW := se_wd 108 (by decide +kernel) (by decide +kernel)
theorem wd_109 : (Jvm.Cond.lays "java/lang/IllegalArgumentException" "java/lang/Throwable" "stackTrace" "[Ljava/lang/StackTraceElement;") ∈ vW := se_wd 109 (by decide +kernel) (by decide +kernel)
theorem wd_110 : (Jvm.Cond.lays "java/lang/Throwable" "java/lang/Throwable" "stackTrace" "[Ljava/lang/StackTraceElement;") ∈ vW := se_wd 110 (by decide +kernel) (by decide +kernel)
theorem wd_111 : (Jvm.Cond.lays "java/lang/IllegalArgumentException" "java/lang/Throwable" "suppressedExceptions" "Ljava/util/List;") ∈ vW := se_wd 111 (by decide +kernel) (by decide +kernel)
theorem wd_112 : (Jvm.Cond.lays "java/lang/Throwable" "java/lang/Throwable" "suppressedExceptions" "Ljava/util/List;") ∈ vW := se_wd 112 (by decide +kernel) (by decide +kernel)
theorem wd_113 : (Jvm.Cond.lays "java/lang/IllegalArgumentException" "java/lang/Throwable" "detailMessage" "Ljava/lang/String;") ∈ vW := se_wd 113 (by decide +kernel) (by decide +kernel)
theorem wd_114 : (Jvm.Cond.lays "java/lang/Throwable" "java/lang/Throwable" "detailMessage" "Ljava/lang/String;") ∈ vW := se_wd 114 (by decide +kernel) (by decide +kernel)
theorem wd_115 : (Jvm.Cond.lays "java/lang/IllegalArgumentException" "java/lang/Throwable" "backtrace" "Ljava/lang/Object;") ∈ vW := se_wd 115 (by decide +kernel) (by decide +kernel)
theorem wd_116 : (Jvm.Cond.lays "java/lang/Throwable" "java/lang/Throwable" "backtrace" "Ljava/lang/Object;") ∈ vW := se_wd 116 (by decide +kernel) (by decide +kernel)
theorem wd_117 : (Jvm.Cond.fieldLink "java/lang/Throwable" (198 : Nat) "java/lang/Throwable" "backtrace" "Ljava/lang/Object;") ∈ vW := se_wd 117 (by decide +kernel) (by decide +kernel)
theorem wd_119 : (Jvm.Cond.instanceMethod ({ cls := "java/lang/Throwable", name := "<init>", desc := "()V" } : Jvm.MethodName)) ∈ vW := se_wd 119 (by decide +kernel) (by decide +kernel)
theorem wd_120 : (Jvm.Cond.code ({ cls := "java/lang/Throwable", name := "<init>", desc := "()V" } : Jvm.MethodName) prog_13_method_1_code (1 : Nat) (Option.none : Option Jvm.ClassFile.FieldType)) ∈ vW := se_wd 120 (by decide +kernel) (by decide +kernel)
theorem wd_121 : (Jvm.Cond.methodLink "java/lang/Throwable" (1 : Nat) ({ cls := "java/lang/Object", name := "<init>", desc := "()V" } : Jvm.MethodName)) ∈ vW := se_wd 121 (by decide +kernel) (by decide +kernel)
theorem wd_122 : (Jvm.Cond.fieldLink "java/lang/Throwable" (13 : Nat) "java/lang/Throwable" "UNASSIGNED_STACK" "[Ljava/lang/StackTraceElement;") ∈ vW := se_wd 122 (by decide +kernel) (by decide +kernel)
theorem wd_124 : (Jvm.Cond.fieldLink "java/lang/Throwable" (20 : Nat) "java/lang/Throwable" "SUPPRESSED_SENTINEL" "Ljava/util/List;") ∈ vW := se_wd 124 (by decide +kernel) (by decide +kernel)
theorem wd_126 : (Jvm.Cond.methodLink "java/lang/Throwable" (27 : Nat) ({ cls := "java/lang/Throwable", name := "fillInStackTrace", desc := "()Ljava/lang/Throwable;" } : Jvm.MethodName)) ∈ vW := se_wd 126 (by decide +kernel) (by decide +kernel)
theorem wd_127 : (Jvm.Cond.instanceMethod ({ cls := "java/lang/Throwable", name := "fillInStackTrace", desc := "()Ljava/lang/Throwable;" } : Jvm.MethodName)) ∈ vW := se_wd 127 (by decide +kernel) (by decide +kernel)
theorem wd_129 : (Jvm.Cond.selects "java/lang/IllegalStateException" ({ cls := "java/lang/Throwable", name := "fillInStackTrace", desc := "()Ljava/lang/Throwable;" } : Jvm.MethodName) ({ cls := "java/lang/Throwable", name := "fillInStackTrace", desc := "()Ljava/lang/Throwable;" } : Jvm.MethodName)) ∈ vW := se_wd 129 (by decide +kernel) (by decide +kernel)
theorem wd_130 : (Jvm.Cond.selects "java/lang/IndexOutOfBoundsException" ({ cls := "java/lang/Throwable", name := "fillInStackTrace", desc := "()Ljava/lang/Throwable;" } : Jvm.MethodName) ({ cls := "java/lang/Throwable", name := "fillInStackTrace", desc := "()Ljava/lang/Throwable;" } : Jvm.MethodName)) ∈ vW := se_wd 130 (by decide +kernel) (by decide +kernel)
theorem wd_131 : (Jvm.Cond.selects "java/lang/UnsupportedOperationException" ({ cls := "java/lang/Throwable", name := "fillInStackTrace", desc := "()Ljava/lang/Throwable;" } : Jvm.MethodName) ({ cls := "java/lang/Throwable", name := "fillInStackTrace", desc := "()Ljava/lang/Throwable;" } : Jvm.MethodName)) ∈ vW := se_wd 131 (by decide +kernel) (by decide +kernel)
theorem wd_133 : (Jvm.Cond.methodLink "java/lang/Throwable" (202 : Nat) ({ cls := "java/lang/Throwable", name := "fillInStackTrace", desc := "(I)Ljava/lang/Throwable;" } : Jvm.MethodName)) ∈ vW := se_wd 133 (by decide +kernel) (by decide +kernel)
theorem wd_135 : (Jvm.Cond.instanceMethod ({ cls := "java/lang/Throwable", name := "fillInStackTrace", desc := "(I)Ljava/lang/Throwable;" } : Jvm.MethodName)) ∈ vW := se_wd 135 (by decide +kernel) (by decide +kernel)
theorem wd_136 : (Jvm.Cond.instantiable "java/lang/Throwable" (6 : Nat)) ∈ vW := se_wd 136 (by decide +kernel) (by decide +kernel)
theorem wd_139 : (Jvm.Cond.methodLink "VehicleChecks" (118 : Nat) ({ cls := "java/lang/IllegalArgumentException", name := "<init>", desc := "(Ljava/lang/String;)V" } : Jvm.MethodName)) ∈ vW := se_wd 139 (by decide +kernel) (by decide +kernel)
theorem wd_140 : (Jvm.Cond.instanceMethod ({ cls := "java/lang/IllegalArgumentException", name := "<init>", desc := "(Ljava/lang/String;)V" } : Jvm.MethodName)) ∈ vW := se_wd 140 (by decide +kernel) (by decide +kernel)
theorem wd_141 : (Jvm.Cond.code ({ cls := "java/lang/IllegalArgumentException", name := "<init>", desc := "(Ljava/lang/String;)V" } : Jvm.MethodName) prog_7_method_2_code (2 : Nat) (Option.none : Option Jvm.ClassFile.FieldType)) ∈ vW := se_wd 141 (by decide +kernel) (by decide +kernel)
theorem wd_142 : (Jvm.Cond.methodLink "java/lang/IllegalArgumentException" (7 : Nat) ({ cls := "java/lang/RuntimeException", name := "<init>", desc := "(Ljava/lang/String;)V" } : Jvm.MethodName)) ∈ vW := se_wd 142 (by decide +kernel) (by decide +kernel)
theorem wd_143 : (Jvm.Cond.instanceMethod ({ cls := "java/lang/RuntimeException", name := "<init>", desc := "(Ljava/lang/String;)V" } : Jvm.MethodName)) ∈ vW := se_wd 143 (by decide +kernel) (by decide +kernel)
theorem wd_144 : (Jvm.Cond.code ({ cls := "java/lang/RuntimeException", name := "<init>", desc := "(Ljava/lang/String;)V" } : Jvm.MethodName) prog_11_method_2_code (2 : Nat) (Option.none : Option Jvm.ClassFile.FieldType)) ∈ vW := se_wd 144 (by decide +kernel) (by decide +kernel)
theorem wd_145 : (Jvm.Cond.methodLink "java/lang/RuntimeException" (7 : Nat) ({ cls := "java/lang/Exception", name := "<init>", desc := "(Ljava/lang/String;)V" } : Jvm.MethodName)) ∈ vW := se_wd 145 (by decide +kernel) (by decide +kernel)
theorem wd_146 : (Jvm.Cond.instanceMethod ({ cls := "java/lang/Exception", name := "<init>", desc := "(Ljava/lang/String;)V" } : Jvm.MethodName)) ∈ vW := se_wd 146 (by decide +kernel) (by decide +kernel)
theorem wd_147 : (Jvm.Cond.code ({ cls := "java/lang/Exception", name := "<init>", desc := "(Ljava/lang/String;)V" } : Jvm.MethodName) prog_6_method_2_code (2 : Nat) (Option.none : Option Jvm.ClassFile.FieldType)) ∈ vW := se_wd 147 (by decide +kernel) (by decide +kernel)
theorem wd_148 : (Jvm.Cond.methodLink "java/lang/Exception" (7 : Nat) ({ cls := "java/lang/Throwable", name := "<init>", desc := "(Ljava/lang/String;)V" } : Jvm.MethodName)) ∈ vW := se_wd 148 (by decide +kernel) (by decide +kernel)
theorem wd_149 : (Jvm.Cond.instanceMethod ({ cls := "java/lang/Throwable", name := "<init>", desc := "(Ljava/lang/String;)V" } : Jvm.MethodName)) ∈ vW := se_wd 149 (by decide +kernel) (by decide +kernel)
theorem wd_150 : (Jvm.Cond.code ({ cls := "java/lang/Throwable", name := "<init>", desc := "(Ljava/lang/String;)V" } : Jvm.MethodName) prog_13_method_2_code (2 : Nat) (Option.none : Option Jvm.ClassFile.FieldType)) ∈ vW := se_wd 150 (by decide +kernel) (by decide +kernel)
theorem wd_151 : (Jvm.Cond.fieldLink "java/lang/Throwable" (198 : Nat) "java/lang/Throwable" "backtrace" "Ljava/lang/Object;") ∈ vW := se_wd 151 (by decide +kernel) (by decide +kernel)
theorem wd_152 : (Jvm.Cond.fieldLink "java/lang/Throwable" (31 : Nat) "java/lang/Throwable" "detailMessage" "Ljava/lang/String;") ∈ vW := se_wd 152 (by decide +kernel) (by decide +kernel)
theorem wd_153 : (Jvm.Cond.fieldLink "java/lang/Throwable" (7 : Nat) "java/lang/Throwable" "cause" "Ljava/lang/Throwable;") ∈ vW := se_wd 153 (by decide +kernel) (by decide +kernel)
theorem wd_154 : (Jvm.Cond.fieldLink "java/lang/Throwable" (17 : Nat) "java/lang/Throwable" "stackTrace" "[Ljava/lang/StackTraceElement;") ∈ vW := se_wd 154 (by decide +kernel) (by decide +kernel)
theorem wd_155 : (Jvm.Cond.fieldLink "java/lang/Throwable" (24 : Nat) "java/lang/Throwable" "suppressedExceptions" "Ljava/util/List;") ∈ vW := se_wd 155 (by decide +kernel) (by decide +kernel)
theorem wd_160 : (Jvm.Cond.lays "java/lang/IllegalArgumentException" "java/lang/Throwable" "depth" "I") ∈ vW := se_wd 160 (by decide +kernel) (by decide +kernel)
theorem wd_164 : (Jvm.Cond.arrayClass Jvm.ClassFile.FieldType.byte) ∈ vW := se_wd 164 (by decide +kernel) (by decide +kernel)
theorem wd_165 : (Jvm.Cond.classLink "VehicleChecks" (40 : Nat) "java/lang/UnsupportedOperationException") ∈ vW := se_wd 165 (by decide +kernel) (by decide +kernel)
theorem wd_166 : (Jvm.Cond.instantiable "java/lang/UnsupportedOperationException" (6 : Nat)) ∈ vW := se_wd 166 (by decide +kernel) (by decide +kernel)
theorem wd_168 : (Jvm.Cond.selects "java/lang/UnsupportedOperationException" ({ cls := "java/lang/Throwable", name := "fillInStackTrace", desc := "(I)Ljava/lang/Throwable;" } : Jvm.MethodName) ({ cls := "java/lang/Throwable", name := "fillInStackTrace", desc := "(I)Ljava/lang/Throwable;" } : Jvm.MethodName)) ∈ vW := se_wd 168 (by decide +kernel) (by decide +kernel)
theorem wd_169 : (Jvm.Cond.lays "java/lang/UnsupportedOperationException" "java/lang/Throwable" "cause" "Ljava/lang/Throwable;") ∈ vW := se_wd 169 (by decide +kernel) (by decide +kernel)
theorem wd_170 : (Jvm.Cond.lays "java/lang/UnsupportedOperationException" "java/lang/Throwable" "stackTrace" "[Ljava/lang/StackTraceElement;") ∈ vW := se_wd 170 (by decide +kernel) (by decide +kernel)
theorem wd_171 : (Jvm.Cond.lays "java/lang/UnsupportedOperationException" "java/lang/Throwable" "suppressedExceptions" "Ljava/util/List;") ∈ vW := se_wd 171 (by decide +kernel) (by decide +kernel)
theorem wd_172 : (Jvm.Cond.lays "java/lang/UnsupportedOperationException" "java/lang/Throwable" "detailMessage" "Ljava/lang/String;") ∈ vW := se_wd 172 (by decide +kernel) (by decide +kernel)
theorem wd_173 : (Jvm.Cond.lays "java/lang/UnsupportedOperationException" "java/lang/Throwable" "backtrace" "Ljava/lang/Object;") ∈ vW := se_wd 173 (by decide +kernel) (by decide +kernel)
theorem wd_175 : (Jvm.Cond.methodLink "VehicleChecks" (44 : Nat) ({ cls := "java/lang/UnsupportedOperationException", name := "<init>", desc := "(Ljava/lang/String;)V" } : Jvm.MethodName)) ∈ vW := se_wd 175 (by decide +kernel) (by decide +kernel)
theorem wd_176 : (Jvm.Cond.instanceMethod ({ cls := "java/lang/UnsupportedOperationException", name := "<init>", desc := "(Ljava/lang/String;)V" } : Jvm.MethodName)) ∈ vW := se_wd 176 (by decide +kernel) (by decide +kernel)
theorem wd_177 : (Jvm.Cond.code ({ cls := "java/lang/UnsupportedOperationException", name := "<init>", desc := "(Ljava/lang/String;)V" } : Jvm.MethodName) prog_14_method_2_code (2 : Nat) (Option.none : Option Jvm.ClassFile.FieldType)) ∈ vW := se_wd 177 (by decide +kernel) (by decide +kernel)
theorem wd_178 : (Jvm.Cond.methodLink "java/lang/UnsupportedOperationException" (7 : Nat) ({ cls := "java/lang/RuntimeException", name := "<init>", desc := "(Ljava/lang/String;)V" } : Jvm.MethodName)) ∈ vW := se_wd 178 (by decide +kernel) (by decide +kernel)
theorem wd_179 : (Jvm.Cond.lays "java/lang/UnsupportedOperationException" "java/lang/Throwable" "depth" "I") ∈ vW := se_wd 179 (by decide +kernel) (by decide +kernel)
theorem wd_181 : (Jvm.Cond.instantiable "VehicleChecks$Vehicle" (16 : Nat)) ∈ vW := se_wd 181 (by decide +kernel) (by decide +kernel)
theorem wd_182 : (Jvm.Cond.methodLink "VehicleChecks" (50 : Nat) ({ cls := "VehicleChecks$Vehicle", name := "<init>", desc := "(ILVehicleChecks$Kind;ZI)V" } : Jvm.MethodName)) ∈ vW := se_wd 182 (by decide +kernel) (by decide +kernel)
theorem wd_183 : (Jvm.Cond.instanceMethod ({ cls := "VehicleChecks$Vehicle", name := "<init>", desc := "(ILVehicleChecks$Kind;ZI)V" } : Jvm.MethodName)) ∈ vW := se_wd 183 (by decide +kernel) (by decide +kernel)
theorem wd_184 : (Jvm.Cond.code ({ cls := "VehicleChecks$Vehicle", name := "<init>", desc := "(ILVehicleChecks$Kind;ZI)V" } : Jvm.MethodName) prog_3_method_1_code (6 : Nat) (Option.none : Option Jvm.ClassFile.FieldType)) ∈ vW := se_wd 184 (by decide +kernel) (by decide +kernel)
theorem wd_185 : (Jvm.Cond.methodLink "VehicleChecks$Vehicle" (3 : Nat) ({ cls := "java/lang/Object", name := "<init>", desc := "()V" } : Jvm.MethodName)) ∈ vW := se_wd 185 (by decide +kernel) (by decide +kernel)
theorem wd_186 : (Jvm.Cond.fieldLink "VehicleChecks$Vehicle" (27 : Nat) "VehicleChecks$Vehicle" "number" "I") ∈ vW := se_wd 186 (by decide +kernel) (by decide +kernel)
theorem wd_187 : (Jvm.Cond.fieldLink "VehicleChecks" (155 : Nat) "VehicleChecks$Vehicle" "number" "I") ∈ vW := se_wd 187 (by decide +kernel) (by decide +kernel)
theorem wd_188 : (Jvm.Cond.fieldLink "VehicleChecks$Vehicle" (31 : Nat) "VehicleChecks$Vehicle" "kind" "LVehicleChecks$Kind;") ∈ vW := se_wd 188 (by decide +kernel) (by decide +kernel)
theorem wd_189 : (Jvm.Cond.fieldLink "VehicleChecks" (82 : Nat) "VehicleChecks$Vehicle" "kind" "LVehicleChecks$Kind;") ∈ vW := se_wd 189 (by decide +kernel) (by decide +kernel)
theorem wd_190 : (Jvm.Cond.fieldLink "VehicleChecks$Vehicle" (35 : Nat) "VehicleChecks$Vehicle" "isSpare" "Z") ∈ vW := se_wd 190 (by decide +kernel) (by decide +kernel)
theorem wd_191 : (Jvm.Cond.fieldLink "VehicleChecks" (261 : Nat) "VehicleChecks$Vehicle" "isSpare" "Z") ∈ vW := se_wd 191 (by decide +kernel) (by decide +kernel)
theorem wd_192 : (Jvm.Cond.fieldLink "VehicleChecks$Vehicle" (39 : Nat) "VehicleChecks$Vehicle" "toldHour" "I") ∈ vW := se_wd 192 (by decide +kernel) (by decide +kernel)
theorem wd_193 : (Jvm.Cond.fieldLink "VehicleChecks$Vehicle" (9 : Nat) "VehicleChecks$Vehicle" "things" "[I") ∈ vW := se_wd 193 (by decide +kernel) (by decide +kernel)
theorem wd_194 : (Jvm.Cond.fieldLink "VehicleChecks" (168 : Nat) "VehicleChecks$Vehicle" "things" "[I") ∈ vW := se_wd 194 (by decide +kernel) (by decide +kernel)
theorem wd_195 : (Jvm.Cond.fieldLink "VehicleChecks$Vehicle" (15 : Nat) "VehicleChecks$Vehicle" "answerValue" "[I") ∈ vW := se_wd 195 (by decide +kernel) (by decide +kernel)
theorem wd_196 : (Jvm.Cond.fieldLink "VehicleChecks" (98 : Nat) "VehicleChecks$Vehicle" "answerValue" "[I") ∈ vW := se_wd 196 (by decide +kernel) (by decide +kernel)
theorem wd_197 : (Jvm.Cond.fieldLink "VehicleChecks$Vehicle" (18 : Nat) "VehicleChecks$Vehicle" "answerHour" "[I") ∈ vW := se_wd 197 (by decide +kernel) (by decide +kernel)
theorem wd_198 : (Jvm.Cond.fieldLink "VehicleChecks" (101 : Nat) "VehicleChecks$Vehicle" "answerHour" "[I") ∈ vW := se_wd 198 (by decide +kernel) (by decide +kernel)
theorem wd_199 : (Jvm.Cond.fieldLink "VehicleChecks$Vehicle" (21 : Nat) "VehicleChecks$Vehicle" "answerPerson" "[I") ∈ vW := se_wd 199 (by decide +kernel) (by decide +kernel)
theorem wd_200 : (Jvm.Cond.fieldLink "VehicleChecks" (104 : Nat) "VehicleChecks$Vehicle" "answerPerson" "[I") ∈ vW := se_wd 200 (by decide +kernel) (by decide +kernel)
theorem wd_201 : (Jvm.Cond.fieldLink "VehicleChecks$Vehicle" (24 : Nat) "VehicleChecks$Vehicle" "usesBeforeAnswer" "[I") ∈ vW := se_wd 201 (by decide +kernel) (by decide +kernel)
theorem wd_202 : (Jvm.Cond.fieldLink "VehicleChecks" (142 : Nat) "VehicleChecks$Vehicle" "isOff" "Z") ∈ vW := se_wd 202 (by decide +kernel) (by decide +kernel)
theorem wd_203 : (Jvm.Cond.fieldLink "VehicleChecks$Vehicle" (48 : Nat) "VehicleChecks$Vehicle" "kilometres" "I") ∈ vW := se_wd 203 (by decide +kernel) (by decide +kernel)
theorem wd_204 : (Jvm.Cond.fieldLink "VehicleChecks" (190 : Nat) "VehicleChecks$Vehicle" "kilometres" "I") ∈ vW := se_wd 204 (by decide +kernel) (by decide +kernel)
theorem wd_205 : (Jvm.Cond.fieldLink "VehicleChecks$Vehicle" (51 : Nat) "VehicleChecks$Vehicle" "lowerTold" "I") ∈ vW := se_wd 205 (by decide +kernel) (by decide +kernel)
theorem wd_206 : (Jvm.Cond.fieldLink "VehicleChecks" (210 : Nat) "VehicleChecks$Vehicle" "lowerTold" "I") ∈ vW := se_wd 206 (by decide +kernel) (by decide +kernel)
theorem wd_207 : (Jvm.Cond.fieldLink "VehicleChecks$Vehicle" (45 : Nat) "VehicleChecks$Vehicle" "uses" "I") ∈ vW := se_wd 207 (by decide +kernel) (by decide +kernel)
theorem wd_208 : (Jvm.Cond.fieldLink "VehicleChecks" (213 : Nat) "VehicleChecks$Vehicle" "uses" "I") ∈ vW := se_wd 208 (by decide +kernel) (by decide +kernel)
theorem wd_209 : (Jvm.Cond.fieldLink "VehicleChecks" (186 : Nat) "VehicleChecks$Vehicle" "filled" "I") ∈ vW := se_wd 209 (by decide +kernel) (by decide +kernel)
theorem wd_210 : (Jvm.Cond.fieldLink "VehicleChecks" (207 : Nat) "VehicleChecks$Vehicle" "costs" "I") ∈ vW := se_wd 210 (by decide +kernel) (by decide +kernel)
theorem wd_211 : (Jvm.Cond.fieldLink "VehicleChecks$Vehicle" (42 : Nat) "VehicleChecks$Vehicle" "keyHolder" "I") ∈ vW := se_wd 211 (by decide +kernel) (by decide +kernel)
theorem wd_212 : (Jvm.Cond.fieldLink "VehicleChecks" (201 : Nat) "VehicleChecks$Vehicle" "keyHolder" "I") ∈ vW := se_wd 212 (by decide +kernel) (by decide +kernel)
theorem wd_213 : (Jvm.Cond.laysFinal "VehicleChecks$Vehicle" "VehicleChecks$Vehicle" "number" "I") ∈ vW := se_wd 213 (by decide +kernel) (by decide +kernel)
theorem wd_215 : (Jvm.Cond.laysFinal "VehicleChecks$Vehicle" "VehicleChecks$Vehicle" "kind" "LVehicleChecks$Kind;") ∈ vW := se_wd 215 (by decide +kernel) (by decide +kernel)
theorem wd_217 : (Jvm.Cond.laysFinal "VehicleChecks$Vehicle" "VehicleChecks$Vehicle" "isSpare" "Z") ∈ vW := se_wd 217 (by decide +kernel) (by decide +kernel)
theorem wd_219 : (Jvm.Cond.laysFinal "VehicleChecks$Vehicle" "VehicleChecks$Vehicle" "toldHour" "I") ∈ vW := se_wd 219 (by decide +kernel) (by decide +kernel)
theorem wd_221 : (Jvm.Cond.laysFinal "VehicleChecks$Vehicle" "VehicleChecks$Vehicle" "things" "[I") ∈ vW := se_wd 221 (by decide +kernel) (by decide +kernel)
theorem wd_223 : (Jvm.Cond.laysFinal "VehicleChecks$Vehicle" "VehicleChecks$Vehicle" "answerValue" "[I") ∈ vW := se_wd 223 (by decide +kernel) (by decide +kernel)
theorem wd_225 : (Jvm.Cond.laysFinal "VehicleChecks$Vehicle" "VehicleChecks$Vehicle" "answerHour" "[I") ∈ vW := se_wd 225 (by decide +kernel) (by decide +kernel)
theorem wd_227 : (Jvm.Cond.laysFinal "VehicleChecks$Vehicle" "VehicleChecks$Vehicle" "answerPerson" "[I") ∈ vW := se_wd 227 (by decide +kernel) (by decide +kernel)
theorem wd_229 : (Jvm.Cond.laysFinal "VehicleChecks$Vehicle" "VehicleChecks$Vehicle" "usesBeforeAnswer" "[I") ∈ vW := se_wd 229 (by decide +kernel) (by decide +kernel)
theorem wd_231 : (Jvm.Cond.lays "VehicleChecks$Vehicle" "VehicleChecks$Vehicle" "isOff" "Z") ∈ vW := se_wd 231 (by decide +kernel) (by decide +kernel)
theorem wd_233 : (Jvm.Cond.lays "VehicleChecks$Vehicle" "VehicleChecks$Vehicle" "kilometres" "I") ∈ vW := se_wd 233 (by decide +kernel) (by decide +kernel)
theorem wd_235 : (Jvm.Cond.lays "VehicleChecks$Vehicle" "VehicleChecks$Vehicle" "lowerTold" "I") ∈ vW := se_wd 235 (by decide +kernel) (by decide +kernel)
theorem wd_237 : (Jvm.Cond.lays "VehicleChecks$Vehicle" "VehicleChecks$Vehicle" "uses" "I") ∈ vW := se_wd 237 (by decide +kernel) (by decide +kernel)
theorem wd_239 : (Jvm.Cond.lays "VehicleChecks$Vehicle" "VehicleChecks$Vehicle" "filled" "I") ∈ vW := se_wd 239 (by decide +kernel) (by decide +kernel)
theorem wd_241 : (Jvm.Cond.lays "VehicleChecks$Vehicle" "VehicleChecks$Vehicle" "costs" "I") ∈ vW := se_wd 241 (by decide +kernel) (by decide +kernel)
theorem wd_243 : (Jvm.Cond.lays "VehicleChecks$Vehicle" "VehicleChecks$Vehicle" "keyHolder" "I") ∈ vW := se_wd 243 (by decide +kernel) (by decide +kernel)
theorem wd_246 : (Jvm.Cond.methodLink "VehicleChecksLaw" (109 : Nat) ({ cls := "VehicleChecksLaw", name := "list", desc := "(LVehicleChecks;IIIIII)I" } : Jvm.MethodName)) ∈ vW := se_wd 246 (by decide +kernel) (by decide +kernel)
theorem wd_247 : (Jvm.Cond.static ({ cls := "VehicleChecksLaw", name := "list", desc := "(LVehicleChecks;IIIIII)I" } : Jvm.MethodName)) ∈ vW := se_wd 247 (by decide +kernel) (by decide +kernel)
theorem wd_248 : (Jvm.Cond.codeWith ({ cls := "VehicleChecksLaw", name := "list", desc := "(LVehicleChecks;IIIIII)I" } : Jvm.MethodName) method_4_code (8 : Nat) (Option.some Jvm.ClassFile.FieldType.int) [((0 : Nat), (13 : Nat), (16 : Nat), (13 : Nat)), ((0 : Nat), (13 : Nat), (20 : Nat), (21 : Nat))]) ∈ vW := se_wd 248 (by decide +kernel) (by decide +kernel)
theorem wd_249 : (Jvm.Cond.classLink "VehicleChecksLaw" (21 : Nat) "java/lang/IndexOutOfBoundsException") ∈ vW := se_wd 249 (by decide +kernel) (by decide +kernel)
theorem wd_250 : (Jvm.Cond.methodLink "VehicleChecksLaw" (17 : Nat) ({ cls := "VehicleChecks", name := "list", desc := "(IIIIII)V" } : Jvm.MethodName)) ∈ vW := se_wd 250 (by decide +kernel) (by decide +kernel)
theorem wd_251 : (Jvm.Cond.instanceMethod ({ cls := "VehicleChecks", name := "list", desc := "(IIIIII)V" } : Jvm.MethodName)) ∈ vW := se_wd 251 (by decide +kernel) (by decide +kernel)
theorem wd_252 : (Jvm.Cond.selects "VehicleChecks" ({ cls := "VehicleChecks", name := "list", desc := "(IIIIII)V" } : Jvm.MethodName) ({ cls := "VehicleChecks", name := "list", desc := "(IIIIII)V" } : Jvm.MethodName)) ∈ vW := se_wd 252 (by decide +kernel) (by decide +kernel)
theorem wd_253 : (Jvm.Cond.code ({ cls := "VehicleChecks", name := "list", desc := "(IIIIII)V" } : Jvm.MethodName) prog_1_method_3_code (8 : Nat) (Option.none : Option Jvm.ClassFile.FieldType)) ∈ vW := se_wd 253 (by decide +kernel) (by decide +kernel)
theorem wd_254 : (Jvm.Cond.methodLink "VehicleChecks" (53 : Nat) ({ cls := "VehicleChecks", name := "checkItem", desc := "(I)V" } : Jvm.MethodName)) ∈ vW := se_wd 254 (by decide +kernel) (by decide +kernel)
theorem wd_255 : (Jvm.Cond.static ({ cls := "VehicleChecks", name := "checkItem", desc := "(I)V" } : Jvm.MethodName)) ∈ vW := se_wd 255 (by decide +kernel) (by decide +kernel)
theorem wd_256 : (Jvm.Cond.code ({ cls := "VehicleChecks", name := "checkItem", desc := "(I)V" } : Jvm.MethodName) prog_1_method_26_code (1 : Nat) (Option.none : Option Jvm.ClassFile.FieldType)) ∈ vW := se_wd 256 (by decide +kernel) (by decide +kernel)
theorem wd_258 : (Jvm.Cond.methodLink "VehicleChecks" (57 : Nat) ({ cls := "VehicleChecks", name := "checkRange", desc := "(III)V" } : Jvm.MethodName)) ∈ vW := se_wd 258 (by decide +kernel) (by decide +kernel)
theorem wd_259 : (Jvm.Cond.static ({ cls := "VehicleChecks", name := "checkRange", desc := "(III)V" } : Jvm.MethodName)) ∈ vW := se_wd 259 (by decide +kernel) (by decide +kernel)
theorem wd_260 : (Jvm.Cond.code ({ cls := "VehicleChecks", name := "checkRange", desc := "(III)V" } : Jvm.MethodName) prog_1_method_29_code (3 : Nat) (Option.none : Option Jvm.ClassFile.FieldType)) ∈ vW := se_wd 260 (by decide +kernel) (by decide +kernel)
theorem wd_261 : (Jvm.Cond.classLink "VehicleChecks" (230 : Nat) "java/lang/IndexOutOfBoundsException") ∈ vW := se_wd 261 (by decide +kernel) (by decide +kernel)
theorem wd_262 : (Jvm.Cond.instantiable "java/lang/IndexOutOfBoundsException" (6 : Nat)) ∈ vW := se_wd 262 (by decide +kernel) (by decide +kernel)
theorem wd_264 : (Jvm.Cond.selects "java/lang/IndexOutOfBoundsException" ({ cls := "java/lang/Throwable", name := "fillInStackTrace", desc := "(I)Ljava/lang/Throwable;" } : Jvm.MethodName) ({ cls := "java/lang/Throwable", name := "fillInStackTrace", desc := "(I)Ljava/lang/Throwable;" } : Jvm.MethodName)) ∈ vW := se_wd 264 (by decide +kernel) (by decide +kernel)
theorem wd_265 : (Jvm.Cond.lays "java/lang/IndexOutOfBoundsException" "java/lang/Throwable" "cause" "Ljava/lang/Throwable;") ∈ vW := se_wd 265 (by decide +kernel) (by decide +kernel)
theorem wd_266 : (Jvm.Cond.lays "java/lang/IndexOutOfBoundsException" "java/lang/Throwable" "stackTrace" "[Ljava/lang/StackTraceElement;") ∈ vW := se_wd 266 (by decide +kernel) (by decide +kernel)
theorem wd_267 : (Jvm.Cond.lays "java/lang/IndexOutOfBoundsException" "java/lang/Throwable" "suppressedExceptions" "Ljava/util/List;") ∈ vW := se_wd 267 (by decide +kernel) (by decide +kernel)
theorem wd_268 : (Jvm.Cond.lays "java/lang/IndexOutOfBoundsException" "java/lang/Throwable" "detailMessage" "Ljava/lang/String;") ∈ vW := se_wd 268 (by decide +kernel) (by decide +kernel)
theorem wd_269 : (Jvm.Cond.lays "java/lang/IndexOutOfBoundsException" "java/lang/Throwable" "backtrace" "Ljava/lang/Object;") ∈ vW := se_wd 269 (by decide +kernel) (by decide +kernel)
theorem wd_271 : (Jvm.Cond.methodLink "VehicleChecks" (234 : Nat) ({ cls := "java/lang/IndexOutOfBoundsException", name := "<init>", desc := "(Ljava/lang/String;)V" } : Jvm.MethodName)) ∈ vW := se_wd 271 (by decide +kernel) (by decide +kernel)
theorem wd_272 : (Jvm.Cond.instanceMethod ({ cls := "java/lang/IndexOutOfBoundsException", name := "<init>", desc := "(Ljava/lang/String;)V" } : Jvm.MethodName)) ∈ vW := se_wd 272 (by decide +kernel) (by decide +kernel)
theorem wd_273 : (Jvm.Cond.code ({ cls := "java/lang/IndexOutOfBoundsException", name := "<init>", desc := "(Ljava/lang/String;)V" } : Jvm.MethodName) prog_9_method_2_code (2 : Nat) (Option.none : Option Jvm.ClassFile.FieldType)) ∈ vW := se_wd 273 (by decide +kernel) (by decide +kernel)
theorem wd_274 : (Jvm.Cond.methodLink "java/lang/IndexOutOfBoundsException" (7 : Nat) ({ cls := "java/lang/RuntimeException", name := "<init>", desc := "(Ljava/lang/String;)V" } : Jvm.MethodName)) ∈ vW := se_wd 274 (by decide +kernel) (by decide +kernel)
theorem wd_275 : (Jvm.Cond.lays "java/lang/IndexOutOfBoundsException" "java/lang/Throwable" "depth" "I") ∈ vW := se_wd 275 (by decide +kernel) (by decide +kernel)
theorem wd_277 : (Jvm.Cond.methodLink "VehicleChecks" (61 : Nat) ({ cls := "VehicleChecks$Kind", name := "enter", desc := "(IIIII)V" } : Jvm.MethodName)) ∈ vW := se_wd 277 (by decide +kernel) (by decide +kernel)
theorem wd_278 : (Jvm.Cond.instanceMethod ({ cls := "VehicleChecks$Kind", name := "enter", desc := "(IIIII)V" } : Jvm.MethodName)) ∈ vW := se_wd 278 (by decide +kernel) (by decide +kernel)
theorem wd_279 : (Jvm.Cond.selects "VehicleChecks$Kind" ({ cls := "VehicleChecks$Kind", name := "enter", desc := "(IIIII)V" } : Jvm.MethodName) ({ cls := "VehicleChecks$Kind", name := "enter", desc := "(IIIII)V" } : Jvm.MethodName)) ∈ vW := se_wd 279 (by decide +kernel) (by decide +kernel)
theorem wd_280 : (Jvm.Cond.code ({ cls := "VehicleChecks$Kind", name := "enter", desc := "(IIIII)V" } : Jvm.MethodName) prog_2_method_2_code (6 : Nat) (Option.none : Option Jvm.ClassFile.FieldType)) ∈ vW := se_wd 280 (by decide +kernel) (by decide +kernel)
theorem wd_281 : (Jvm.Cond.methodLink "VehicleChecksLaw" (113 : Nat) ({ cls := "VehicleChecksLaw", name := "unlist", desc := "(LVehicleChecks;II)I" } : Jvm.MethodName)) ∈ vW := se_wd 281 (by decide +kernel) (by decide +kernel)
theorem wd_282 : (Jvm.Cond.static ({ cls := "VehicleChecksLaw", name := "unlist", desc := "(LVehicleChecks;II)I" } : Jvm.MethodName)) ∈ vW := se_wd 282 (by decide +kernel) (by decide +kernel)
theorem wd_283 : (Jvm.Cond.codeWith ({ cls := "VehicleChecksLaw", name := "unlist", desc := "(LVehicleChecks;II)I" } : Jvm.MethodName) method_5_code (4 : Nat) (Option.some Jvm.ClassFile.FieldType.int) [((0 : Nat), (6 : Nat), (9 : Nat), (13 : Nat)), ((0 : Nat), (6 : Nat), (12 : Nat), (27 : Nat))]) ∈ vW := se_wd 283 (by decide +kernel) (by decide +kernel)
theorem wd_284 : (Jvm.Cond.classLink "VehicleChecksLaw" (27 : Nat) "java/lang/IllegalStateException") ∈ vW := se_wd 284 (by decide +kernel) (by decide +kernel)
theorem wd_285 : (Jvm.Cond.methodLink "VehicleChecksLaw" (23 : Nat) ({ cls := "VehicleChecks", name := "unlist", desc := "(II)V" } : Jvm.MethodName)) ∈ vW := se_wd 285 (by decide +kernel) (by decide +kernel)
theorem wd_286 : (Jvm.Cond.instanceMethod ({ cls := "VehicleChecks", name := "unlist", desc := "(II)V" } : Jvm.MethodName)) ∈ vW := se_wd 286 (by decide +kernel) (by decide +kernel)
theorem wd_287 : (Jvm.Cond.selects "VehicleChecks" ({ cls := "VehicleChecks", name := "unlist", desc := "(II)V" } : Jvm.MethodName) ({ cls := "VehicleChecks", name := "unlist", desc := "(II)V" } : Jvm.MethodName)) ∈ vW := se_wd 287 (by decide +kernel) (by decide +kernel)
theorem wd_288 : (Jvm.Cond.code ({ cls := "VehicleChecks", name := "unlist", desc := "(II)V" } : Jvm.MethodName) prog_1_method_4_code (4 : Nat) (Option.none : Option Jvm.ClassFile.FieldType)) ∈ vW := se_wd 288 (by decide +kernel) (by decide +kernel)
theorem wd_289 : (Jvm.Cond.methodLink "VehicleChecks" (65 : Nat) ({ cls := "VehicleChecks", name := "checkListed", desc := "(LVehicleChecks$Kind;I)V" } : Jvm.MethodName)) ∈ vW := se_wd 289 (by decide +kernel) (by decide +kernel)
theorem wd_290 : (Jvm.Cond.static ({ cls := "VehicleChecks", name := "checkListed", desc := "(LVehicleChecks$Kind;I)V" } : Jvm.MethodName)) ∈ vW := se_wd 290 (by decide +kernel) (by decide +kernel)
theorem wd_291 : (Jvm.Cond.code ({ cls := "VehicleChecks", name := "checkListed", desc := "(LVehicleChecks$Kind;I)V" } : Jvm.MethodName) prog_1_method_31_code (2 : Nat) (Option.none : Option Jvm.ClassFile.FieldType)) ∈ vW := se_wd 291 (by decide +kernel) (by decide +kernel)
theorem wd_292 : (Jvm.Cond.classLink "VehicleChecks" (124 : Nat) "java/lang/IllegalStateException") ∈ vW := se_wd 292 (by decide +kernel) (by decide +kernel)
theorem wd_293 : (Jvm.Cond.instantiable "java/lang/IllegalStateException" (6 : Nat)) ∈ vW := se_wd 293 (by decide +kernel) (by decide +kernel)
theorem wd_295 : (Jvm.Cond.selects "java/lang/IllegalStateException" ({ cls := "java/lang/Throwable", name := "fillInStackTrace", desc := "(I)Ljava/lang/Throwable;" } : Jvm.MethodName) ({ cls := "java/lang/Throwable", name := "fillInStackTrace", desc := "(I)Ljava/lang/Throwable;" } : Jvm.MethodName)) ∈ vW := se_wd 295 (by decide +kernel) (by decide +kernel)
theorem wd_296 : (Jvm.Cond.lays "java/lang/IllegalStateException" "java/lang/Throwable" "cause" "Ljava/lang/Throwable;") ∈ vW := se_wd 296 (by decide +kernel) (by decide +kernel)
theorem wd_297 : (Jvm.Cond.lays "java/lang/IllegalStateException" "java/lang/Throwable" "stackTrace" "[Ljava/lang/StackTraceElement;") ∈ vW := se_wd 297 (by decide +kernel) (by decide +kernel)
theorem wd_298 : (Jvm.Cond.lays "java/lang/IllegalStateException" "java/lang/Throwable" "suppressedExceptions" "Ljava/util/List;") ∈ vW := se_wd 298 (by decide +kernel) (by decide +kernel)
theorem wd_299 : (Jvm.Cond.lays "java/lang/IllegalStateException" "java/lang/Throwable" "detailMessage" "Ljava/lang/String;") ∈ vW := se_wd 299 (by decide +kernel) (by decide +kernel)
theorem wd_300 : (Jvm.Cond.lays "java/lang/IllegalStateException" "java/lang/Throwable" "backtrace" "Ljava/lang/Object;") ∈ vW := se_wd 300 (by decide +kernel) (by decide +kernel)
theorem wd_302 : (Jvm.Cond.methodLink "VehicleChecks" (128 : Nat) ({ cls := "java/lang/IllegalStateException", name := "<init>", desc := "(Ljava/lang/String;)V" } : Jvm.MethodName)) ∈ vW := se_wd 302 (by decide +kernel) (by decide +kernel)
theorem wd_303 : (Jvm.Cond.instanceMethod ({ cls := "java/lang/IllegalStateException", name := "<init>", desc := "(Ljava/lang/String;)V" } : Jvm.MethodName)) ∈ vW := se_wd 303 (by decide +kernel) (by decide +kernel)
theorem wd_304 : (Jvm.Cond.code ({ cls := "java/lang/IllegalStateException", name := "<init>", desc := "(Ljava/lang/String;)V" } : Jvm.MethodName) prog_8_method_2_code (2 : Nat) (Option.none : Option Jvm.ClassFile.FieldType)) ∈ vW := se_wd 304 (by decide +kernel) (by decide +kernel)
theorem wd_305 : (Jvm.Cond.methodLink "java/lang/IllegalStateException" (7 : Nat) ({ cls := "java/lang/RuntimeException", name := "<init>", desc := "(Ljava/lang/String;)V" } : Jvm.MethodName)) ∈ vW := se_wd 305 (by decide +kernel) (by decide +kernel)
theorem wd_306 : (Jvm.Cond.lays "java/lang/IllegalStateException" "java/lang/Throwable" "depth" "I") ∈ vW := se_wd 306 (by decide +kernel) (by decide +kernel)
theorem wd_308 : (Jvm.Cond.methodLink "VehicleChecksLaw" (117 : Nat) ({ cls := "VehicleChecksLaw", name := "answer", desc := "(LVehicleChecks;IIII[J)I" } : Jvm.MethodName)) ∈ vW := se_wd 308 (by decide +kernel) (by decide +kernel)
theorem wd_309 : (Jvm.Cond.static ({ cls := "VehicleChecksLaw", name := "answer", desc := "(LVehicleChecks;IIII[J)I" } : Jvm.MethodName)) ∈ vW := se_wd 309 (by decide +kernel) (by decide +kernel)
theorem wd_310 : (Jvm.Cond.codeWith ({ cls := "VehicleChecksLaw", name := "answer", desc := "(LVehicleChecks;IIII[J)I" } : Jvm.MethodName) method_6_code (7 : Nat) (Option.some Jvm.ClassFile.FieldType.int) [((0 : Nat), (21 : Nat), (24 : Nat), (13 : Nat)), ((0 : Nat), (21 : Nat), (28 : Nat), (21 : Nat)), ((0 : Nat), (21 : Nat), (32 : Nat), (27 : Nat))]) ∈ vW := se_wd 310 (by decide +kernel) (by decide +kernel)
theorem wd_311 : (Jvm.Cond.methodLink "VehicleChecksLaw" (29 : Nat) ({ cls := "VehicleChecks", name := "answer", desc := "(IIII)Z" } : Jvm.MethodName)) ∈ vW := se_wd 311 (by decide +kernel) (by decide +kernel)
theorem wd_312 : (Jvm.Cond.instanceMethod ({ cls := "VehicleChecks", name := "answer", desc := "(IIII)Z" } : Jvm.MethodName)) ∈ vW := se_wd 312 (by decide +kernel) (by decide +kernel)
theorem wd_313 : (Jvm.Cond.selects "VehicleChecks" ({ cls := "VehicleChecks", name := "answer", desc := "(IIII)Z" } : Jvm.MethodName) ({ cls := "VehicleChecks", name := "answer", desc := "(IIII)Z" } : Jvm.MethodName)) ∈ vW := se_wd 313 (by decide +kernel) (by decide +kernel)
theorem wd_314 : (Jvm.Cond.code ({ cls := "VehicleChecks", name := "answer", desc := "(IIII)Z" } : Jvm.MethodName) prog_1_method_5_code (6 : Nat) (Option.some Jvm.ClassFile.FieldType.boolean)) ∈ vW := se_wd 314 (by decide +kernel) (by decide +kernel)
theorem wd_315 : (Jvm.Cond.methodLink "VehicleChecks" (73 : Nat) ({ cls := "VehicleChecks", name := "knownVehicle", desc := "(I)LVehicleChecks$Vehicle;" } : Jvm.MethodName)) ∈ vW := se_wd 315 (by decide +kernel) (by decide +kernel)
theorem wd_317 : (Jvm.Cond.instanceMethod ({ cls := "VehicleChecks", name := "knownVehicle", desc := "(I)LVehicleChecks$Vehicle;" } : Jvm.MethodName)) ∈ vW := se_wd 317 (by decide +kernel) (by decide +kernel)
theorem wd_318 : (Jvm.Cond.code ({ cls := "VehicleChecks", name := "knownVehicle", desc := "(I)LVehicleChecks$Vehicle;" } : Jvm.MethodName) prog_1_method_25_code (2 : Nat) (Option.some (Jvm.ClassFile.FieldType.object "VehicleChecks$Vehicle"))) ∈ vW := se_wd 318 (by decide +kernel) (by decide +kernel)
theorem wd_320 : (Jvm.Cond.methodLink "VehicleChecks" (77 : Nat) ({ cls := "VehicleChecks", name := "checkPerson", desc := "(I)V" } : Jvm.MethodName)) ∈ vW := se_wd 320 (by decide +kernel) (by decide +kernel)
theorem wd_321 : (Jvm.Cond.static ({ cls := "VehicleChecks", name := "checkPerson", desc := "(I)V" } : Jvm.MethodName)) ∈ vW := se_wd 321 (by decide +kernel) (by decide +kernel)
theorem wd_322 : (Jvm.Cond.code ({ cls := "VehicleChecks", name := "checkPerson", desc := "(I)V" } : Jvm.MethodName) prog_1_method_28_code (1 : Nat) (Option.none : Option Jvm.ClassFile.FieldType)) ∈ vW := se_wd 322 (by decide +kernel) (by decide +kernel)
theorem wd_324 : (Jvm.Cond.constant "VehicleChecks" (80 : Nat) (-99999 : Int32)) ∈ vW := se_wd 324 (by decide +kernel) (by decide +kernel)
theorem wd_325 : (Jvm.Cond.constant "VehicleChecks" (81 : Nat) (99999 : Int32)) ∈ vW := se_wd 325 (by decide +kernel) (by decide +kernel)
theorem wd_326 : (Jvm.Cond.methodLink "VehicleChecks" (86 : Nat) ({ cls := "VehicleChecks$Vehicle", name := "keepAnswer", desc := "(IIII)V" } : Jvm.MethodName)) ∈ vW := se_wd 326 (by decide +kernel) (by decide +kernel)
theorem wd_327 : (Jvm.Cond.instanceMethod ({ cls := "VehicleChecks$Vehicle", name := "keepAnswer", desc := "(IIII)V" } : Jvm.MethodName)) ∈ vW := se_wd 327 (by decide +kernel) (by decide +kernel)
theorem wd_328 : (Jvm.Cond.selects "VehicleChecks$Vehicle" ({ cls := "VehicleChecks$Vehicle", name := "keepAnswer", desc := "(IIII)V" } : Jvm.MethodName) ({ cls := "VehicleChecks$Vehicle", name := "keepAnswer", desc := "(IIII)V" } : Jvm.MethodName)) ∈ vW := se_wd 328 (by decide +kernel) (by decide +kernel)
theorem wd_329 : (Jvm.Cond.code ({ cls := "VehicleChecks$Vehicle", name := "keepAnswer", desc := "(IIII)V" } : Jvm.MethodName) prog_3_method_2_code (5 : Nat) (Option.none : Option Jvm.ClassFile.FieldType)) ∈ vW := se_wd 329 (by decide +kernel) (by decide +kernel)
theorem wd_330 : (Jvm.Cond.methodLink "VehicleChecks" (90 : Nat) ({ cls := "VehicleChecks$Kind", name := "isWithin", desc := "(II)Z" } : Jvm.MethodName)) ∈ vW := se_wd 330 (by decide +kernel) (by decide +kernel)
theorem wd_331 : (Jvm.Cond.instanceMethod ({ cls := "VehicleChecks$Kind", name := "isWithin", desc := "(II)Z" } : Jvm.MethodName)) ∈ vW := se_wd 331 (by decide +kernel) (by decide +kernel)
theorem wd_332 : (Jvm.Cond.selects "VehicleChecks$Kind" ({ cls := "VehicleChecks$Kind", name := "isWithin", desc := "(II)Z" } : Jvm.MethodName) ({ cls := "VehicleChecks$Kind", name := "isWithin", desc := "(II)Z" } : Jvm.MethodName)) ∈ vW := se_wd 332 (by decide +kernel) (by decide +kernel)
theorem wd_333 : (Jvm.Cond.code ({ cls := "VehicleChecks$Kind", name := "isWithin", desc := "(II)Z" } : Jvm.MethodName) prog_2_method_3_code (3 : Nat) (Option.some Jvm.ClassFile.FieldType.boolean)) ∈ vW := se_wd 333 (by decide +kernel) (by decide +kernel)
theorem wd_334 : (Jvm.Cond.methodLink "VehicleChecksLaw" (121 : Nat) ({ cls := "VehicleChecksLaw", name := "item", desc := "(LVehicleChecks;III[J)I" } : Jvm.MethodName)) ∈ vW := se_wd 334 (by decide +kernel) (by decide +kernel)
theorem wd_335 : (Jvm.Cond.static ({ cls := "VehicleChecksLaw", name := "item", desc := "(LVehicleChecks;III[J)I" } : Jvm.MethodName)) ∈ vW := se_wd 335 (by decide +kernel) (by decide +kernel)
theorem wd_336 : (Jvm.Cond.codeWith ({ cls := "VehicleChecksLaw", name := "item", desc := "(LVehicleChecks;III[J)I" } : Jvm.MethodName) method_7_code (6 : Nat) (Option.some Jvm.ClassFile.FieldType.int) [((0 : Nat), (12 : Nat), (15 : Nat), (13 : Nat))]) ∈ vW := se_wd 336 (by decide +kernel) (by decide +kernel)
theorem wd_337 : (Jvm.Cond.methodLink "VehicleChecksLaw" (33 : Nat) ({ cls := "VehicleChecks", name := "item", desc := "(III)I" } : Jvm.MethodName)) ∈ vW := se_wd 337 (by decide +kernel) (by decide +kernel)
theorem wd_338 : (Jvm.Cond.instanceMethod ({ cls := "VehicleChecks", name := "item", desc := "(III)I" } : Jvm.MethodName)) ∈ vW := se_wd 338 (by decide +kernel) (by decide +kernel)
theorem wd_339 : (Jvm.Cond.selects "VehicleChecks" ({ cls := "VehicleChecks", name := "item", desc := "(III)I" } : Jvm.MethodName) ({ cls := "VehicleChecks", name := "item", desc := "(III)I" } : Jvm.MethodName)) ∈ vW := se_wd 339 (by decide +kernel) (by decide +kernel)
theorem wd_340 : (Jvm.Cond.code ({ cls := "VehicleChecks", name := "item", desc := "(III)I" } : Jvm.MethodName) prog_1_method_6_code (5 : Nat) (Option.some Jvm.ClassFile.FieldType.int)) ∈ vW := se_wd 340 (by decide +kernel) (by decide +kernel)
theorem wd_341 : (Jvm.Cond.methodLink "VehicleChecks" (94 : Nat) ({ cls := "VehicleChecks", name := "oneOrZero", desc := "(Z)I" } : Jvm.MethodName)) ∈ vW := se_wd 341 (by decide +kernel) (by decide +kernel)
theorem wd_342 : (Jvm.Cond.static ({ cls := "VehicleChecks", name := "oneOrZero", desc := "(Z)I" } : Jvm.MethodName)) ∈ vW := se_wd 342 (by decide +kernel) (by decide +kernel)
theorem wd_343 : (Jvm.Cond.code ({ cls := "VehicleChecks", name := "oneOrZero", desc := "(Z)I" } : Jvm.MethodName) prog_1_method_33_code (1 : Nat) (Option.some Jvm.ClassFile.FieldType.int)) ∈ vW := se_wd 343 (by decide +kernel) (by decide +kernel)
theorem wd_344 : (Jvm.Cond.methodLink "VehicleChecks" (107 : Nat) ({ cls := "VehicleChecks$Vehicle", name := "hasFailed", desc := "(I)Z" } : Jvm.MethodName)) ∈ vW := se_wd 344 (by decide +kernel) (by decide +kernel)
theorem wd_345 : (Jvm.Cond.instanceMethod ({ cls := "VehicleChecks$Vehicle", name := "hasFailed", desc := "(I)Z" } : Jvm.MethodName)) ∈ vW := se_wd 345 (by decide +kernel) (by decide +kernel)
theorem wd_346 : (Jvm.Cond.selects "VehicleChecks$Vehicle" ({ cls := "VehicleChecks$Vehicle", name := "hasFailed", desc := "(I)Z" } : Jvm.MethodName) ({ cls := "VehicleChecks$Vehicle", name := "hasFailed", desc := "(I)Z" } : Jvm.MethodName)) ∈ vW := se_wd 346 (by decide +kernel) (by decide +kernel)
theorem wd_347 : (Jvm.Cond.code ({ cls := "VehicleChecks$Vehicle", name := "hasFailed", desc := "(I)Z" } : Jvm.MethodName) prog_3_method_4_code (2 : Nat) (Option.some Jvm.ClassFile.FieldType.boolean)) ∈ vW := se_wd 347 (by decide +kernel) (by decide +kernel)
theorem wd_348 : (Jvm.Cond.methodLink "VehicleChecks$Vehicle" (60 : Nat) ({ cls := "VehicleChecks$Kind", name := "isWithin", desc := "(II)Z" } : Jvm.MethodName)) ∈ vW := se_wd 348 (by decide +kernel) (by decide +kernel)
theorem wd_349 : (Jvm.Cond.methodLink "VehicleChecks" (111 : Nat) ({ cls := "VehicleChecks$Vehicle", name := "hasSkipped", desc := "(II)Z" } : Jvm.MethodName)) ∈ vW := se_wd 349 (by decide +kernel) (by decide +kernel)
theorem wd_350 : (Jvm.Cond.instanceMethod ({ cls := "VehicleChecks$Vehicle", name := "hasSkipped", desc := "(II)Z" } : Jvm.MethodName)) ∈ vW := se_wd 350 (by decide +kernel) (by decide +kernel)
theorem wd_351 : (Jvm.Cond.selects "VehicleChecks$Vehicle" ({ cls := "VehicleChecks$Vehicle", name := "hasSkipped", desc := "(II)Z" } : Jvm.MethodName) ({ cls := "VehicleChecks$Vehicle", name := "hasSkipped", desc := "(II)Z" } : Jvm.MethodName)) ∈ vW := se_wd 351 (by decide +kernel) (by decide +kernel)
theorem wd_352 : (Jvm.Cond.code ({ cls := "VehicleChecks$Vehicle", name := "hasSkipped", desc := "(II)Z" } : Jvm.MethodName) prog_3_method_5_code (4 : Nat) (Option.some Jvm.ClassFile.FieldType.boolean)) ∈ vW := se_wd 352 (by decide +kernel) (by decide +kernel)
theorem wd_354 : (Jvm.Cond.methodLink "VehicleChecksLaw" (125 : Nat) ({ cls := "VehicleChecksLaw", name := "use", desc := "(LVehicleChecks;II[J)I" } : Jvm.MethodName)) ∈ vW := se_wd 354 (by decide +kernel) (by decide +kernel)
theorem wd_355 : (Jvm.Cond.static ({ cls := "VehicleChecksLaw", name := "use", desc := "(LVehicleChecks;II[J)I" } : Jvm.MethodName)) ∈ vW := se_wd 355 (by decide +kernel) (by decide +kernel)
theorem wd_356 : (Jvm.Cond.codeWith ({ cls := "VehicleChecksLaw", name := "use", desc := "(LVehicleChecks;II[J)I" } : Jvm.MethodName) method_8_code (5 : Nat) (Option.some Jvm.ClassFile.FieldType.int) [((0 : Nat), (17 : Nat), (20 : Nat), (13 : Nat)), ((0 : Nat), (17 : Nat), (24 : Nat), (21 : Nat)), ((0 : Nat), (17 : Nat), (28 : Nat), (27 : Nat))]) ∈ vW := se_wd 356 (by decide +kernel) (by decide +kernel)
theorem wd_357 : (Jvm.Cond.methodLink "VehicleChecksLaw" (37 : Nat) ({ cls := "VehicleChecks", name := "use", desc := "(II)Z" } : Jvm.MethodName)) ∈ vW := se_wd 357 (by decide +kernel) (by decide +kernel)
theorem wd_358 : (Jvm.Cond.instanceMethod ({ cls := "VehicleChecks", name := "use", desc := "(II)Z" } : Jvm.MethodName)) ∈ vW := se_wd 358 (by decide +kernel) (by decide +kernel)
theorem wd_359 : (Jvm.Cond.selects "VehicleChecks" ({ cls := "VehicleChecks", name := "use", desc := "(II)Z" } : Jvm.MethodName) ({ cls := "VehicleChecks", name := "use", desc := "(II)Z" } : Jvm.MethodName)) ∈ vW := se_wd 359 (by decide +kernel) (by decide +kernel)
theorem wd_360 : (Jvm.Cond.code ({ cls := "VehicleChecks", name := "use", desc := "(II)Z" } : Jvm.MethodName) prog_1_method_7_code (4 : Nat) (Option.some Jvm.ClassFile.FieldType.boolean)) ∈ vW := se_wd 360 (by decide +kernel) (by decide +kernel)
theorem wd_361 : (Jvm.Cond.constant "VehicleChecks" (119 : Nat) (1000000 : Int32)) ∈ vW := se_wd 361 (by decide +kernel) (by decide +kernel)
theorem wd_362 : (Jvm.Cond.methodLink "VehicleChecks" (120 : Nat) ({ cls := "VehicleChecks", name := "canRun", desc := "(LVehicleChecks$Vehicle;)Z" } : Jvm.MethodName)) ∈ vW := se_wd 362 (by decide +kernel) (by decide +kernel)
theorem wd_364 : (Jvm.Cond.instanceMethod ({ cls := "VehicleChecks", name := "canRun", desc := "(LVehicleChecks$Vehicle;)Z" } : Jvm.MethodName)) ∈ vW := se_wd 364 (by decide +kernel) (by decide +kernel)
theorem wd_365 : (Jvm.Cond.code ({ cls := "VehicleChecks", name := "canRun", desc := "(LVehicleChecks$Vehicle;)Z" } : Jvm.MethodName) prog_1_method_35_code (2 : Nat) (Option.some Jvm.ClassFile.FieldType.boolean)) ∈ vW := se_wd 365 (by decide +kernel) (by decide +kernel)
theorem wd_366 : (Jvm.Cond.methodLink "VehicleChecks" (246 : Nat) ({ cls := "VehicleChecks$Vehicle", name := "checksWeight", desc := "(I)I" } : Jvm.MethodName)) ∈ vW := se_wd 366 (by decide +kernel) (by decide +kernel)
theorem wd_367 : (Jvm.Cond.instanceMethod ({ cls := "VehicleChecks$Vehicle", name := "checksWeight", desc := "(I)I" } : Jvm.MethodName)) ∈ vW := se_wd 367 (by decide +kernel) (by decide +kernel)
theorem wd_368 : (Jvm.Cond.selects "VehicleChecks$Vehicle" ({ cls := "VehicleChecks$Vehicle", name := "checksWeight", desc := "(I)I" } : Jvm.MethodName) ({ cls := "VehicleChecks$Vehicle", name := "checksWeight", desc := "(I)I" } : Jvm.MethodName)) ∈ vW := se_wd 368 (by decide +kernel) (by decide +kernel)
theorem wd_369 : (Jvm.Cond.code ({ cls := "VehicleChecks$Vehicle", name := "checksWeight", desc := "(I)I" } : Jvm.MethodName) prog_3_method_6_code (5 : Nat) (Option.some Jvm.ClassFile.FieldType.int)) ∈ vW := se_wd 369 (by decide +kernel) (by decide +kernel)
theorem wd_370 : (Jvm.Cond.methodLink "VehicleChecks$Vehicle" (70 : Nat) ({ cls := "VehicleChecks$Vehicle", name := "hasFailed", desc := "(I)Z" } : Jvm.MethodName)) ∈ vW := se_wd 370 (by decide +kernel) (by decide +kernel)
theorem wd_371 : (Jvm.Cond.methodLink "VehicleChecks$Vehicle" (74 : Nat) ({ cls := "VehicleChecks$Vehicle", name := "hasSkipped", desc := "(II)Z" } : Jvm.MethodName)) ∈ vW := se_wd 371 (by decide +kernel) (by decide +kernel)
theorem wd_372 : (Jvm.Cond.methodLink "VehicleChecks" (250 : Nat) ({ cls := "VehicleChecks", name := "damagesWeight", desc := "(LVehicleChecks$Vehicle;)I" } : Jvm.MethodName)) ∈ vW := se_wd 372 (by decide +kernel) (by decide +kernel)
theorem wd_374 : (Jvm.Cond.instanceMethod ({ cls := "VehicleChecks", name := "damagesWeight", desc := "(LVehicleChecks$Vehicle;)I" } : Jvm.MethodName)) ∈ vW := se_wd 374 (by decide +kernel) (by decide +kernel)
theorem wd_375 : (Jvm.Cond.code ({ cls := "VehicleChecks", name := "damagesWeight", desc := "(LVehicleChecks$Vehicle;)I" } : Jvm.MethodName) prog_1_method_37_code (4 : Nat) (Option.some Jvm.ClassFile.FieldType.int)) ∈ vW := se_wd 375 (by decide +kernel) (by decide +kernel)
theorem wd_376 : (Jvm.Cond.methodLink "VehicleChecks" (253 : Nat) ({ cls := "VehicleChecks", name := "isOpenDamage", desc := "(ILVehicleChecks$Vehicle;)Z" } : Jvm.MethodName)) ∈ vW := se_wd 376 (by decide +kernel) (by decide +kernel)
theorem wd_378 : (Jvm.Cond.instanceMethod ({ cls := "VehicleChecks", name := "isOpenDamage", desc := "(ILVehicleChecks$Vehicle;)Z" } : Jvm.MethodName)) ∈ vW := se_wd 378 (by decide +kernel) (by decide +kernel)
theorem wd_379 : (Jvm.Cond.code ({ cls := "VehicleChecks", name := "isOpenDamage", desc := "(ILVehicleChecks$Vehicle;)Z" } : Jvm.MethodName) prog_1_method_36_code (3 : Nat) (Option.some Jvm.ClassFile.FieldType.boolean)) ∈ vW := se_wd 379 (by decide +kernel) (by decide +kernel)
theorem wd_381 : (Jvm.Cond.methodLink "VehicleChecks" (129 : Nat) ({ cls := "VehicleChecks$Vehicle", name := "keepUse", desc := "(I)Z" } : Jvm.MethodName)) ∈ vW := se_wd 381 (by decide +kernel) (by decide +kernel)
theorem wd_382 : (Jvm.Cond.instanceMethod ({ cls := "VehicleChecks$Vehicle", name := "keepUse", desc := "(I)Z" } : Jvm.MethodName)) ∈ vW := se_wd 382 (by decide +kernel) (by decide +kernel)
theorem wd_383 : (Jvm.Cond.selects "VehicleChecks$Vehicle" ({ cls := "VehicleChecks$Vehicle", name := "keepUse", desc := "(I)Z" } : Jvm.MethodName) ({ cls := "VehicleChecks$Vehicle", name := "keepUse", desc := "(I)Z" } : Jvm.MethodName)) ∈ vW := se_wd 383 (by decide +kernel) (by decide +kernel)
theorem wd_384 : (Jvm.Cond.code ({ cls := "VehicleChecks$Vehicle", name := "keepUse", desc := "(I)Z" } : Jvm.MethodName) prog_3_method_3_code (2 : Nat) (Option.some Jvm.ClassFile.FieldType.boolean)) ∈ vW := se_wd 384 (by decide +kernel) (by decide +kernel)
theorem wd_385 : (Jvm.Cond.methodLink "VehicleChecksLaw" (129 : Nat) ({ cls := "VehicleChecksLaw", name := "runs", desc := "(LVehicleChecks;I[J)I" } : Jvm.MethodName)) ∈ vW := se_wd 385 (by decide +kernel) (by decide +kernel)
theorem wd_386 : (Jvm.Cond.static ({ cls := "VehicleChecksLaw", name := "runs", desc := "(LVehicleChecks;I[J)I" } : Jvm.MethodName)) ∈ vW := se_wd 386 (by decide +kernel) (by decide +kernel)
theorem wd_387 : (Jvm.Cond.codeWith ({ cls := "VehicleChecksLaw", name := "runs", desc := "(LVehicleChecks;I[J)I" } : Jvm.MethodName) method_9_code (4 : Nat) (Option.some Jvm.ClassFile.FieldType.int) [((0 : Nat), (16 : Nat), (19 : Nat), (13 : Nat))]) ∈ vW := se_wd 387 (by decide +kernel) (by decide +kernel)
theorem wd_388 : (Jvm.Cond.methodLink "VehicleChecksLaw" (41 : Nat) ({ cls := "VehicleChecks", name := "runs", desc := "(I)Z" } : Jvm.MethodName)) ∈ vW := se_wd 388 (by decide +kernel) (by decide +kernel)
theorem wd_389 : (Jvm.Cond.instanceMethod ({ cls := "VehicleChecks", name := "runs", desc := "(I)Z" } : Jvm.MethodName)) ∈ vW := se_wd 389 (by decide +kernel) (by decide +kernel)
theorem wd_390 : (Jvm.Cond.selects "VehicleChecks" ({ cls := "VehicleChecks", name := "runs", desc := "(I)Z" } : Jvm.MethodName) ({ cls := "VehicleChecks", name := "runs", desc := "(I)Z" } : Jvm.MethodName)) ∈ vW := se_wd 390 (by decide +kernel) (by decide +kernel)
theorem wd_391 : (Jvm.Cond.code ({ cls := "VehicleChecks", name := "runs", desc := "(I)Z" } : Jvm.MethodName) prog_1_method_8_code (2 : Nat) (Option.some Jvm.ClassFile.FieldType.boolean)) ∈ vW := se_wd 391 (by decide +kernel) (by decide +kernel)
theorem wd_392 : (Jvm.Cond.methodLink "VehicleChecksLaw" (133 : Nat) ({ cls := "VehicleChecksLaw", name := "reason", desc := "(LVehicleChecks;II[J)I" } : Jvm.MethodName)) ∈ vW := se_wd 392 (by decide +kernel) (by decide +kernel)
theorem wd_393 : (Jvm.Cond.static ({ cls := "VehicleChecksLaw", name := "reason", desc := "(LVehicleChecks;II[J)I" } : Jvm.MethodName)) ∈ vW := se_wd 393 (by decide +kernel) (by decide +kernel)
theorem wd_394 : (Jvm.Cond.codeWith ({ cls := "VehicleChecksLaw", name := "reason", desc := "(LVehicleChecks;II[J)I" } : Jvm.MethodName) method_10_code (5 : Nat) (Option.some Jvm.ClassFile.FieldType.int) [((0 : Nat), (10 : Nat), (13 : Nat), (13 : Nat)), ((0 : Nat), (10 : Nat), (17 : Nat), (21 : Nat))]) ∈ vW := se_wd 394 (by decide +kernel) (by decide +kernel)
theorem wd_395 : (Jvm.Cond.methodLink "VehicleChecksLaw" (45 : Nat) ({ cls := "VehicleChecks", name := "reason", desc := "(II)I" } : Jvm.MethodName)) ∈ vW := se_wd 395 (by decide +kernel) (by decide +kernel)
theorem wd_396 : (Jvm.Cond.instanceMethod ({ cls := "VehicleChecks", name := "reason", desc := "(II)I" } : Jvm.MethodName)) ∈ vW := se_wd 396 (by decide +kernel) (by decide +kernel)
theorem wd_397 : (Jvm.Cond.selects "VehicleChecks" ({ cls := "VehicleChecks", name := "reason", desc := "(II)I" } : Jvm.MethodName) ({ cls := "VehicleChecks", name := "reason", desc := "(II)I" } : Jvm.MethodName)) ∈ vW := se_wd 397 (by decide +kernel) (by decide +kernel)
theorem wd_398 : (Jvm.Cond.code ({ cls := "VehicleChecks", name := "reason", desc := "(II)I" } : Jvm.MethodName) prog_1_method_9_code (6 : Nat) (Option.some Jvm.ClassFile.FieldType.int)) ∈ vW := se_wd 398 (by decide +kernel) (by decide +kernel)
theorem wd_399 : (Jvm.Cond.methodLink "VehicleChecks" (132 : Nat) ({ cls := "VehicleChecks", name := "checkPlace", desc := "(I)V" } : Jvm.MethodName)) ∈ vW := se_wd 399 (by decide +kernel) (by decide +kernel)
theorem wd_400 : (Jvm.Cond.static ({ cls := "VehicleChecks", name := "checkPlace", desc := "(I)V" } : Jvm.MethodName)) ∈ vW := se_wd 400 (by decide +kernel) (by decide +kernel)
theorem wd_401 : (Jvm.Cond.code ({ cls := "VehicleChecks", name := "checkPlace", desc := "(I)V" } : Jvm.MethodName) prog_1_method_30_code (1 : Nat) (Option.none : Option Jvm.ClassFile.FieldType)) ∈ vW := se_wd 401 (by decide +kernel) (by decide +kernel)
theorem wd_403 : (Jvm.Cond.methodLink "VehicleChecks" (138 : Nat) ({ cls := "VehicleChecks", name := "damageReason", desc := "(LVehicleChecks$Vehicle;I)I" } : Jvm.MethodName)) ∈ vW := se_wd 403 (by decide +kernel) (by decide +kernel)
theorem wd_405 : (Jvm.Cond.instanceMethod ({ cls := "VehicleChecks", name := "damageReason", desc := "(LVehicleChecks$Vehicle;I)I" } : Jvm.MethodName)) ∈ vW := se_wd 405 (by decide +kernel) (by decide +kernel)
theorem wd_406 : (Jvm.Cond.code ({ cls := "VehicleChecks", name := "damageReason", desc := "(LVehicleChecks$Vehicle;I)I" } : Jvm.MethodName) prog_1_method_39_code (5 : Nat) (Option.some Jvm.ClassFile.FieldType.int)) ∈ vW := se_wd 406 (by decide +kernel) (by decide +kernel)
theorem wd_407 : (Jvm.Cond.methodLink "VehicleChecksLaw" (136 : Nat) ({ cls := "VehicleChecksLaw", name := "off", desc := "(LVehicleChecks;IZII)I" } : Jvm.MethodName)) ∈ vW := se_wd 407 (by decide +kernel) (by decide +kernel)
theorem wd_408 : (Jvm.Cond.static ({ cls := "VehicleChecksLaw", name := "off", desc := "(LVehicleChecks;IZII)I" } : Jvm.MethodName)) ∈ vW := se_wd 408 (by decide +kernel) (by decide +kernel)
theorem wd_409 : (Jvm.Cond.codeWith ({ cls := "VehicleChecksLaw", name := "off", desc := "(LVehicleChecks;IZII)I" } : Jvm.MethodName) method_11_code (6 : Nat) (Option.some Jvm.ClassFile.FieldType.int) [((0 : Nat), (9 : Nat), (12 : Nat), (13 : Nat)), ((0 : Nat), (9 : Nat), (16 : Nat), (27 : Nat))]) ∈ vW := se_wd 409 (by decide +kernel) (by decide +kernel)
theorem wd_410 : (Jvm.Cond.methodLink "VehicleChecksLaw" (49 : Nat) ({ cls := "VehicleChecks", name := "off", desc := "(IZII)V" } : Jvm.MethodName)) ∈ vW := se_wd 410 (by decide +kernel) (by decide +kernel)
theorem wd_411 : (Jvm.Cond.instanceMethod ({ cls := "VehicleChecks", name := "off", desc := "(IZII)V" } : Jvm.MethodName)) ∈ vW := se_wd 411 (by decide +kernel) (by decide +kernel)
theorem wd_412 : (Jvm.Cond.selects "VehicleChecks" ({ cls := "VehicleChecks", name := "off", desc := "(IZII)V" } : Jvm.MethodName) ({ cls := "VehicleChecks", name := "off", desc := "(IZII)V" } : Jvm.MethodName)) ∈ vW := se_wd 412 (by decide +kernel) (by decide +kernel)
theorem wd_413 : (Jvm.Cond.code ({ cls := "VehicleChecks", name := "off", desc := "(IZII)V" } : Jvm.MethodName) prog_1_method_10_code (6 : Nat) (Option.none : Option Jvm.ClassFile.FieldType)) ∈ vW := se_wd 413 (by decide +kernel) (by decide +kernel)
theorem wd_416 : (Jvm.Cond.methodLink "VehicleChecksLaw" (140 : Nat) ({ cls := "VehicleChecksLaw", name := "damage", desc := "(LVehicleChecks;II[J)I" } : Jvm.MethodName)) ∈ vW := se_wd 416 (by decide +kernel) (by decide +kernel)
theorem wd_417 : (Jvm.Cond.static ({ cls := "VehicleChecksLaw", name := "damage", desc := "(LVehicleChecks;II[J)I" } : Jvm.MethodName)) ∈ vW := se_wd 417 (by decide +kernel) (by decide +kernel)
theorem wd_418 : (Jvm.Cond.codeWith ({ cls := "VehicleChecksLaw", name := "damage", desc := "(LVehicleChecks;II[J)I" } : Jvm.MethodName) method_12_code (5 : Nat) (Option.some Jvm.ClassFile.FieldType.int) [((0 : Nat), (10 : Nat), (13 : Nat), (13 : Nat)), ((0 : Nat), (10 : Nat), (17 : Nat), (21 : Nat)), ((0 : Nat), (10 : Nat), (21 : Nat), (15 : Nat))]) ∈ vW := se_wd 418 (by decide +kernel) (by decide +kernel)
theorem wd_419 : (Jvm.Cond.methodLink "VehicleChecksLaw" (53 : Nat) ({ cls := "VehicleChecks", name := "damage", desc := "(II)I" } : Jvm.MethodName)) ∈ vW := se_wd 419 (by decide +kernel) (by decide +kernel)
theorem wd_420 : (Jvm.Cond.instanceMethod ({ cls := "VehicleChecks", name := "damage", desc := "(II)I" } : Jvm.MethodName)) ∈ vW := se_wd 420 (by decide +kernel) (by decide +kernel)
theorem wd_421 : (Jvm.Cond.selects "VehicleChecks" ({ cls := "VehicleChecks", name := "damage", desc := "(II)I" } : Jvm.MethodName) ({ cls := "VehicleChecks", name := "damage", desc := "(II)I" } : Jvm.MethodName)) ∈ vW := se_wd 421 (by decide +kernel) (by decide +kernel)
theorem wd_422 : (Jvm.Cond.code ({ cls := "VehicleChecks", name := "damage", desc := "(II)I" } : Jvm.MethodName) prog_1_method_11_code (5 : Nat) (Option.some Jvm.ClassFile.FieldType.int)) ∈ vW := se_wd 422 (by decide +kernel) (by decide +kernel)
theorem wd_424 : (Jvm.Cond.methodLink "VehicleChecksLaw" (143 : Nat) ({ cls := "VehicleChecksLaw", name := "proof", desc := "(LVehicleChecks;II)I" } : Jvm.MethodName)) ∈ vW := se_wd 424 (by decide +kernel) (by decide +kernel)
theorem wd_425 : (Jvm.Cond.static ({ cls := "VehicleChecksLaw", name := "proof", desc := "(LVehicleChecks;II)I" } : Jvm.MethodName)) ∈ vW := se_wd 425 (by decide +kernel) (by decide +kernel)
theorem wd_426 : (Jvm.Cond.codeWith ({ cls := "VehicleChecksLaw", name := "proof", desc := "(LVehicleChecks;II)I" } : Jvm.MethodName) method_13_code (4 : Nat) (Option.some Jvm.ClassFile.FieldType.int) [((0 : Nat), (6 : Nat), (9 : Nat), (13 : Nat)), ((0 : Nat), (6 : Nat), (12 : Nat), (21 : Nat)), ((0 : Nat), (6 : Nat), (15 : Nat), (27 : Nat))]) ∈ vW := se_wd 426 (by decide +kernel) (by decide +kernel)
theorem wd_427 : (Jvm.Cond.methodLink "VehicleChecksLaw" (56 : Nat) ({ cls := "VehicleChecks", name := "proof", desc := "(II)V" } : Jvm.MethodName)) ∈ vW := se_wd 427 (by decide +kernel) (by decide +kernel)
theorem wd_428 : (Jvm.Cond.instanceMethod ({ cls := "VehicleChecks", name := "proof", desc := "(II)V" } : Jvm.MethodName)) ∈ vW := se_wd 428 (by decide +kernel) (by decide +kernel)
theorem wd_429 : (Jvm.Cond.selects "VehicleChecks" ({ cls := "VehicleChecks", name := "proof", desc := "(II)V" } : Jvm.MethodName) ({ cls := "VehicleChecks", name := "proof", desc := "(II)V" } : Jvm.MethodName)) ∈ vW := se_wd 429 (by decide +kernel) (by decide +kernel)
theorem wd_430 : (Jvm.Cond.code ({ cls := "VehicleChecks", name := "proof", desc := "(II)V" } : Jvm.MethodName) prog_1_method_12_code (3 : Nat) (Option.none : Option Jvm.ClassFile.FieldType)) ∈ vW := se_wd 430 (by decide +kernel) (by decide +kernel)
theorem wd_433 : (Jvm.Cond.methodLink "VehicleChecksLaw" (146 : Nat) ({ cls := "VehicleChecksLaw", name := "need", desc := "(LVehicleChecks;III)I" } : Jvm.MethodName)) ∈ vW := se_wd 433 (by decide +kernel) (by decide +kernel)
theorem wd_434 : (Jvm.Cond.static ({ cls := "VehicleChecksLaw", name := "need", desc := "(LVehicleChecks;III)I" } : Jvm.MethodName)) ∈ vW := se_wd 434 (by decide +kernel) (by decide +kernel)
theorem wd_435 : (Jvm.Cond.codeWith ({ cls := "VehicleChecksLaw", name := "need", desc := "(LVehicleChecks;III)I" } : Jvm.MethodName) method_14_code (5 : Nat) (Option.some Jvm.ClassFile.FieldType.int) [((0 : Nat), (7 : Nat), (10 : Nat), (13 : Nat)), ((0 : Nat), (7 : Nat), (14 : Nat), (21 : Nat))]) ∈ vW := se_wd 435 (by decide +kernel) (by decide +kernel)
theorem wd_436 : (Jvm.Cond.methodLink "VehicleChecksLaw" (59 : Nat) ({ cls := "VehicleChecks", name := "need", desc := "(III)V" } : Jvm.MethodName)) ∈ vW := se_wd 436 (by decide +kernel) (by decide +kernel)
theorem wd_437 : (Jvm.Cond.instanceMethod ({ cls := "VehicleChecks", name := "need", desc := "(III)V" } : Jvm.MethodName)) ∈ vW := se_wd 437 (by decide +kernel) (by decide +kernel)
theorem wd_438 : (Jvm.Cond.selects "VehicleChecks" ({ cls := "VehicleChecks", name := "need", desc := "(III)V" } : Jvm.MethodName) ({ cls := "VehicleChecks", name := "need", desc := "(III)V" } : Jvm.MethodName)) ∈ vW := se_wd 438 (by decide +kernel) (by decide +kernel)
theorem wd_439 : (Jvm.Cond.code ({ cls := "VehicleChecks", name := "need", desc := "(III)V" } : Jvm.MethodName) prog_1_method_13_code (5 : Nat) (Option.none : Option Jvm.ClassFile.FieldType)) ∈ vW := se_wd 439 (by decide +kernel) (by decide +kernel)
theorem wd_440 : (Jvm.Cond.methodLink "VehicleChecks" (162 : Nat) ({ cls := "VehicleChecks", name := "checkThing", desc := "(I)V" } : Jvm.MethodName)) ∈ vW := se_wd 440 (by decide +kernel) (by decide +kernel)
theorem wd_441 : (Jvm.Cond.static ({ cls := "VehicleChecks", name := "checkThing", desc := "(I)V" } : Jvm.MethodName)) ∈ vW := se_wd 441 (by decide +kernel) (by decide +kernel)
theorem wd_442 : (Jvm.Cond.code ({ cls := "VehicleChecks", name := "checkThing", desc := "(I)V" } : Jvm.MethodName) prog_1_method_27_code (1 : Nat) (Option.none : Option Jvm.ClassFile.FieldType)) ∈ vW := se_wd 442 (by decide +kernel) (by decide +kernel)
theorem wd_444 : (Jvm.Cond.methodLink "VehicleChecksLaw" (150 : Nat) ({ cls := "VehicleChecksLaw", name := "put", desc := "(LVehicleChecks;III[J)I" } : Jvm.MethodName)) ∈ vW := se_wd 444 (by decide +kernel) (by decide +kernel)
theorem wd_445 : (Jvm.Cond.static ({ cls := "VehicleChecksLaw", name := "put", desc := "(LVehicleChecks;III[J)I" } : Jvm.MethodName)) ∈ vW := se_wd 445 (by decide +kernel) (by decide +kernel)
theorem wd_446 : (Jvm.Cond.codeWith ({ cls := "VehicleChecksLaw", name := "put", desc := "(LVehicleChecks;III[J)I" } : Jvm.MethodName) method_15_code (6 : Nat) (Option.some Jvm.ClassFile.FieldType.int) [((0 : Nat), (12 : Nat), (15 : Nat), (13 : Nat)), ((0 : Nat), (12 : Nat), (19 : Nat), (21 : Nat)), ((0 : Nat), (12 : Nat), (23 : Nat), (15 : Nat))]) ∈ vW := se_wd 446 (by decide +kernel) (by decide +kernel)
theorem wd_447 : (Jvm.Cond.methodLink "VehicleChecksLaw" (63 : Nat) ({ cls := "VehicleChecks", name := "put", desc := "(III)I" } : Jvm.MethodName)) ∈ vW := se_wd 447 (by decide +kernel) (by decide +kernel)
theorem wd_448 : (Jvm.Cond.instanceMethod ({ cls := "VehicleChecks", name := "put", desc := "(III)I" } : Jvm.MethodName)) ∈ vW := se_wd 448 (by decide +kernel) (by decide +kernel)
theorem wd_449 : (Jvm.Cond.selects "VehicleChecks" ({ cls := "VehicleChecks", name := "put", desc := "(III)I" } : Jvm.MethodName) ({ cls := "VehicleChecks", name := "put", desc := "(III)I" } : Jvm.MethodName)) ∈ vW := se_wd 449 (by decide +kernel) (by decide +kernel)
theorem wd_450 : (Jvm.Cond.code ({ cls := "VehicleChecks", name := "put", desc := "(III)I" } : Jvm.MethodName) prog_1_method_14_code (5 : Nat) (Option.some Jvm.ClassFile.FieldType.int)) ∈ vW := se_wd 450 (by decide +kernel) (by decide +kernel)
theorem wd_451 : (Jvm.Cond.methodLink "VehicleChecks" (171 : Nat) ({ cls := "VehicleChecks", name := "checkRoom", desc := "(III)V" } : Jvm.MethodName)) ∈ vW := se_wd 451 (by decide +kernel) (by decide +kernel)
theorem wd_452 : (Jvm.Cond.static ({ cls := "VehicleChecks", name := "checkRoom", desc := "(III)V" } : Jvm.MethodName)) ∈ vW := se_wd 452 (by decide +kernel) (by decide +kernel)
theorem wd_453 : (Jvm.Cond.code ({ cls := "VehicleChecks", name := "checkRoom", desc := "(III)V" } : Jvm.MethodName) prog_1_method_32_code (3 : Nat) (Option.none : Option Jvm.ClassFile.FieldType)) ∈ vW := se_wd 453 (by decide +kernel) (by decide +kernel)
theorem wd_455 : (Jvm.Cond.methodLink "VehicleChecksLaw" (153 : Nat) ({ cls := "VehicleChecksLaw", name := "swap", desc := "(LVehicleChecks;III[J)I" } : Jvm.MethodName)) ∈ vW := se_wd 455 (by decide +kernel) (by decide +kernel)
theorem wd_456 : (Jvm.Cond.static ({ cls := "VehicleChecksLaw", name := "swap", desc := "(LVehicleChecks;III[J)I" } : Jvm.MethodName)) ∈ vW := se_wd 456 (by decide +kernel) (by decide +kernel)
theorem wd_457 : (Jvm.Cond.codeWith ({ cls := "VehicleChecksLaw", name := "swap", desc := "(LVehicleChecks;III[J)I" } : Jvm.MethodName) method_16_code (6 : Nat) (Option.some Jvm.ClassFile.FieldType.int) [((0 : Nat), (12 : Nat), (15 : Nat), (13 : Nat)), ((0 : Nat), (12 : Nat), (19 : Nat), (27 : Nat))]) ∈ vW := se_wd 457 (by decide +kernel) (by decide +kernel)
theorem wd_458 : (Jvm.Cond.methodLink "VehicleChecksLaw" (66 : Nat) ({ cls := "VehicleChecks", name := "swap", desc := "(III)I" } : Jvm.MethodName)) ∈ vW := se_wd 458 (by decide +kernel) (by decide +kernel)
theorem wd_459 : (Jvm.Cond.instanceMethod ({ cls := "VehicleChecks", name := "swap", desc := "(III)I" } : Jvm.MethodName)) ∈ vW := se_wd 459 (by decide +kernel) (by decide +kernel)
theorem wd_460 : (Jvm.Cond.selects "VehicleChecks" ({ cls := "VehicleChecks", name := "swap", desc := "(III)I" } : Jvm.MethodName) ({ cls := "VehicleChecks", name := "swap", desc := "(III)I" } : Jvm.MethodName)) ∈ vW := se_wd 460 (by decide +kernel) (by decide +kernel)
theorem wd_461 : (Jvm.Cond.code ({ cls := "VehicleChecks", name := "swap", desc := "(III)I" } : Jvm.MethodName) prog_1_method_15_code (7 : Nat) (Option.some Jvm.ClassFile.FieldType.int)) ∈ vW := se_wd 461 (by decide +kernel) (by decide +kernel)
theorem wd_464 : (Jvm.Cond.methodLink "VehicleChecksLaw" (156 : Nat) ({ cls := "VehicleChecksLaw", name := "spare", desc := "(LVehicleChecks;I[J)I" } : Jvm.MethodName)) ∈ vW := se_wd 464 (by decide +kernel) (by decide +kernel)
theorem wd_465 : (Jvm.Cond.static ({ cls := "VehicleChecksLaw", name := "spare", desc := "(LVehicleChecks;I[J)I" } : Jvm.MethodName)) ∈ vW := se_wd 465 (by decide +kernel) (by decide +kernel)
theorem wd_466 : (Jvm.Cond.codeWith ({ cls := "VehicleChecksLaw", name := "spare", desc := "(LVehicleChecks;I[J)I" } : Jvm.MethodName) method_17_code (4 : Nat) (Option.some Jvm.ClassFile.FieldType.int) [((0 : Nat), (9 : Nat), (12 : Nat), (13 : Nat))]) ∈ vW := se_wd 466 (by decide +kernel) (by decide +kernel)
theorem wd_467 : (Jvm.Cond.methodLink "VehicleChecksLaw" (69 : Nat) ({ cls := "VehicleChecks", name := "spare", desc := "(I)I" } : Jvm.MethodName)) ∈ vW := se_wd 467 (by decide +kernel) (by decide +kernel)
theorem wd_468 : (Jvm.Cond.instanceMethod ({ cls := "VehicleChecks", name := "spare", desc := "(I)I" } : Jvm.MethodName)) ∈ vW := se_wd 468 (by decide +kernel) (by decide +kernel)
theorem wd_469 : (Jvm.Cond.selects "VehicleChecks" ({ cls := "VehicleChecks", name := "spare", desc := "(I)I" } : Jvm.MethodName) ({ cls := "VehicleChecks", name := "spare", desc := "(I)I" } : Jvm.MethodName)) ∈ vW := se_wd 469 (by decide +kernel) (by decide +kernel)
theorem wd_470 : (Jvm.Cond.code ({ cls := "VehicleChecks", name := "spare", desc := "(I)I" } : Jvm.MethodName) prog_1_method_16_code (4 : Nat) (Option.some Jvm.ClassFile.FieldType.int)) ∈ vW := se_wd 470 (by decide +kernel) (by decide +kernel)
theorem wd_471 : (Jvm.Cond.methodLink "VehicleChecks" (178 : Nat) ({ cls := "VehicleChecks", name := "bestSpare", desc := "(LVehicleChecks$Vehicle;)LVehicleChecks$Vehicle;" } : Jvm.MethodName)) ∈ vW := se_wd 471 (by decide +kernel) (by decide +kernel)
theorem wd_473 : (Jvm.Cond.instanceMethod ({ cls := "VehicleChecks", name := "bestSpare", desc := "(LVehicleChecks$Vehicle;)LVehicleChecks$Vehicle;" } : Jvm.MethodName)) ∈ vW := se_wd 473 (by decide +kernel) (by decide +kernel)
theorem wd_474 : (Jvm.Cond.code ({ cls := "VehicleChecks", name := "bestSpare", desc := "(LVehicleChecks$Vehicle;)LVehicleChecks$Vehicle;" } : Jvm.MethodName) prog_1_method_40_code (5 : Nat) (Option.some (Jvm.ClassFile.FieldType.object "VehicleChecks$Vehicle"))) ∈ vW := se_wd 474 (by decide +kernel) (by decide +kernel)
theorem wd_475 : (Jvm.Cond.methodLink "VehicleChecks" (257 : Nat) ({ cls := "VehicleChecks", name := "isSpareFor", desc := "(LVehicleChecks$Vehicle;LVehicleChecks$Vehicle;)Z" } : Jvm.MethodName)) ∈ vW := se_wd 475 (by decide +kernel) (by decide +kernel)
theorem wd_477 : (Jvm.Cond.instanceMethod ({ cls := "VehicleChecks", name := "isSpareFor", desc := "(LVehicleChecks$Vehicle;LVehicleChecks$Vehicle;)Z" } : Jvm.MethodName)) ∈ vW := se_wd 477 (by decide +kernel) (by decide +kernel)
theorem wd_478 : (Jvm.Cond.code ({ cls := "VehicleChecks", name := "isSpareFor", desc := "(LVehicleChecks$Vehicle;LVehicleChecks$Vehicle;)Z" } : Jvm.MethodName) prog_1_method_41_code (3 : Nat) (Option.some Jvm.ClassFile.FieldType.boolean)) ∈ vW := se_wd 478 (by decide +kernel) (by decide +kernel)
theorem wd_479 : (Jvm.Cond.methodLink "VehicleChecks" (182 : Nat) ({ cls := "VehicleChecks$Vehicle", name := "lowestLacking", desc := "()I" } : Jvm.MethodName)) ∈ vW := se_wd 479 (by decide +kernel) (by decide +kernel)
theorem wd_480 : (Jvm.Cond.instanceMethod ({ cls := "VehicleChecks$Vehicle", name := "lowestLacking", desc := "()I" } : Jvm.MethodName)) ∈ vW := se_wd 480 (by decide +kernel) (by decide +kernel)
theorem wd_481 : (Jvm.Cond.selects "VehicleChecks$Vehicle" ({ cls := "VehicleChecks$Vehicle", name := "lowestLacking", desc := "()I" } : Jvm.MethodName) ({ cls := "VehicleChecks$Vehicle", name := "lowestLacking", desc := "()I" } : Jvm.MethodName)) ∈ vW := se_wd 481 (by decide +kernel) (by decide +kernel)
theorem wd_482 : (Jvm.Cond.code ({ cls := "VehicleChecks$Vehicle", name := "lowestLacking", desc := "()I" } : Jvm.MethodName) prog_3_method_7_code (2 : Nat) (Option.some Jvm.ClassFile.FieldType.int)) ∈ vW := se_wd 482 (by decide +kernel) (by decide +kernel)
theorem wd_483 : (Jvm.Cond.methodLink "VehicleChecksLaw" (159 : Nat) ({ cls := "VehicleChecksLaw", name := "fuel", desc := "(LVehicleChecks;II[J)I" } : Jvm.MethodName)) ∈ vW := se_wd 483 (by decide +kernel) (by decide +kernel)
theorem wd_484 : (Jvm.Cond.static ({ cls := "VehicleChecksLaw", name := "fuel", desc := "(LVehicleChecks;II[J)I" } : Jvm.MethodName)) ∈ vW := se_wd 484 (by decide +kernel) (by decide +kernel)
theorem wd_485 : (Jvm.Cond.codeWith ({ cls := "VehicleChecksLaw", name := "fuel", desc := "(LVehicleChecks;II[J)I" } : Jvm.MethodName) method_18_code (5 : Nat) (Option.some Jvm.ClassFile.FieldType.int) [((0 : Nat), (10 : Nat), (13 : Nat), (13 : Nat)), ((0 : Nat), (10 : Nat), (17 : Nat), (21 : Nat)), ((0 : Nat), (10 : Nat), (21 : Nat), (15 : Nat))]) ∈ vW := se_wd 485 (by decide +kernel) (by decide +kernel)
theorem wd_486 : (Jvm.Cond.methodLink "VehicleChecksLaw" (73 : Nat) ({ cls := "VehicleChecks", name := "fuel", desc := "(II)I" } : Jvm.MethodName)) ∈ vW := se_wd 486 (by decide +kernel) (by decide +kernel)
theorem wd_487 : (Jvm.Cond.instanceMethod ({ cls := "VehicleChecks", name := "fuel", desc := "(II)I" } : Jvm.MethodName)) ∈ vW := se_wd 487 (by decide +kernel) (by decide +kernel)
theorem wd_488 : (Jvm.Cond.selects "VehicleChecks" ({ cls := "VehicleChecks", name := "fuel", desc := "(II)I" } : Jvm.MethodName) ({ cls := "VehicleChecks", name := "fuel", desc := "(II)I" } : Jvm.MethodName)) ∈ vW := se_wd 488 (by decide +kernel) (by decide +kernel)
theorem wd_489 : (Jvm.Cond.code ({ cls := "VehicleChecks", name := "fuel", desc := "(II)I" } : Jvm.MethodName) prog_1_method_17_code (4 : Nat) (Option.some Jvm.ClassFile.FieldType.int)) ∈ vW := se_wd 489 (by decide +kernel) (by decide +kernel)
theorem wd_490 : (Jvm.Cond.constant "VehicleChecks" (189 : Nat) (1000000000 : Int32)) ∈ vW := se_wd 490 (by decide +kernel) (by decide +kernel)
theorem wd_491 : (Jvm.Cond.methodLink "VehicleChecksLaw" (162 : Nat) ({ cls := "VehicleChecksLaw", name := "using", desc := "(LVehicleChecks;II[J)I" } : Jvm.MethodName)) ∈ vW := se_wd 491 (by decide +kernel) (by decide +kernel)
theorem wd_492 : (Jvm.Cond.static ({ cls := "VehicleChecksLaw", name := "using", desc := "(LVehicleChecks;II[J)I" } : Jvm.MethodName)) ∈ vW := se_wd 492 (by decide +kernel) (by decide +kernel)
theorem wd_493 : (Jvm.Cond.codeWith ({ cls := "VehicleChecksLaw", name := "using", desc := "(LVehicleChecks;II[J)I" } : Jvm.MethodName) method_19_code (5 : Nat) (Option.some Jvm.ClassFile.FieldType.int) [((0 : Nat), (9 : Nat), (12 : Nat), (13 : Nat)), ((0 : Nat), (9 : Nat), (16 : Nat), (27 : Nat))]) ∈ vW := se_wd 493 (by decide +kernel) (by decide +kernel)
theorem wd_494 : (Jvm.Cond.methodLink "VehicleChecksLaw" (76 : Nat) ({ cls := "VehicleChecks", name := "using", desc := "(II)J" } : Jvm.MethodName)) ∈ vW := se_wd 494 (by decide +kernel) (by decide +kernel)
theorem wd_495 : (Jvm.Cond.instanceMethod ({ cls := "VehicleChecks", name := "using", desc := "(II)J" } : Jvm.MethodName)) ∈ vW := se_wd 495 (by decide +kernel) (by decide +kernel)
theorem wd_496 : (Jvm.Cond.selects "VehicleChecks" ({ cls := "VehicleChecks", name := "using", desc := "(II)J" } : Jvm.MethodName) ({ cls := "VehicleChecks", name := "using", desc := "(II)J" } : Jvm.MethodName)) ∈ vW := se_wd 496 (by decide +kernel) (by decide +kernel)
theorem wd_497 : (Jvm.Cond.code ({ cls := "VehicleChecks", name := "using", desc := "(II)J" } : Jvm.MethodName) prog_1_method_18_code (10 : Nat) (Option.some Jvm.ClassFile.FieldType.long)) ∈ vW := se_wd 497 (by decide +kernel) (by decide +kernel)
theorem wd_499 : (Jvm.Cond.constantLong "VehicleChecks" (195 : Nat) (100 : Int64)) ∈ vW := se_wd 499 (by decide +kernel) (by decide +kernel)
theorem wd_500 : (Jvm.Cond.methodLink "VehicleChecks" (197 : Nat) ({ cls := "VehicleChecks", name := "commonDivisor", desc := "(JJ)J" } : Jvm.MethodName)) ∈ vW := se_wd 500 (by decide +kernel) (by decide +kernel)
theorem wd_501 : (Jvm.Cond.static ({ cls := "VehicleChecks", name := "commonDivisor", desc := "(JJ)J" } : Jvm.MethodName)) ∈ vW := se_wd 501 (by decide +kernel) (by decide +kernel)
theorem wd_502 : (Jvm.Cond.code ({ cls := "VehicleChecks", name := "commonDivisor", desc := "(JJ)J" } : Jvm.MethodName) prog_1_method_34_code (11 : Nat) (Option.some Jvm.ClassFile.FieldType.long)) ∈ vW := se_wd 502 (by decide +kernel) (by decide +kernel)
theorem wd_503 : (Jvm.Cond.methodLink "VehicleChecks" (241 : Nat) ({ cls := "java/lang/Math", name := "max", desc := "(JJ)J" } : Jvm.MethodName)) ∈ vW := se_wd 503 (by decide +kernel) (by decide +kernel)
theorem wd_504 : (Jvm.Cond.static ({ cls := "java/lang/Math", name := "max", desc := "(JJ)J" } : Jvm.MethodName)) ∈ vW := se_wd 504 (by decide +kernel) (by decide +kernel)
theorem wd_505 : (Jvm.Cond.code ({ cls := "java/lang/Math", name := "max", desc := "(JJ)J" } : Jvm.MethodName) prog_10_method_66_code (4 : Nat) (Option.some Jvm.ClassFile.FieldType.long)) ∈ vW := se_wd 505 (by decide +kernel) (by decide +kernel)
theorem wd_506 : (Jvm.Cond.methodLink "VehicleChecksLaw" (165 : Nat) ({ cls := "VehicleChecksLaw", name := "key", desc := "(LVehicleChecks;II[J)I" } : Jvm.MethodName)) ∈ vW := se_wd 506 (by decide +kernel) (by decide +kernel)
theorem wd_507 : (Jvm.Cond.static ({ cls := "VehicleChecksLaw", name := "key", desc := "(LVehicleChecks;II[J)I" } : Jvm.MethodName)) ∈ vW := se_wd 507 (by decide +kernel) (by decide +kernel)
theorem wd_508 : (Jvm.Cond.codeWith ({ cls := "VehicleChecksLaw", name := "key", desc := "(LVehicleChecks;II[J)I" } : Jvm.MethodName) method_20_code (5 : Nat) (Option.some Jvm.ClassFile.FieldType.int) [((0 : Nat), (10 : Nat), (13 : Nat), (13 : Nat)), ((0 : Nat), (10 : Nat), (17 : Nat), (27 : Nat))]) ∈ vW := se_wd 508 (by decide +kernel) (by decide +kernel)
theorem wd_509 : (Jvm.Cond.methodLink "VehicleChecksLaw" (80 : Nat) ({ cls := "VehicleChecks", name := "key", desc := "(II)I" } : Jvm.MethodName)) ∈ vW := se_wd 509 (by decide +kernel) (by decide +kernel)
theorem wd_510 : (Jvm.Cond.instanceMethod ({ cls := "VehicleChecks", name := "key", desc := "(II)I" } : Jvm.MethodName)) ∈ vW := se_wd 510 (by decide +kernel) (by decide +kernel)
theorem wd_511 : (Jvm.Cond.selects "VehicleChecks" ({ cls := "VehicleChecks", name := "key", desc := "(II)I" } : Jvm.MethodName) ({ cls := "VehicleChecks", name := "key", desc := "(II)I" } : Jvm.MethodName)) ∈ vW := se_wd 511 (by decide +kernel) (by decide +kernel)
theorem wd_512 : (Jvm.Cond.code ({ cls := "VehicleChecks", name := "key", desc := "(II)I" } : Jvm.MethodName) prog_1_method_19_code (5 : Nat) (Option.some Jvm.ClassFile.FieldType.int)) ∈ vW := se_wd 512 (by decide +kernel) (by decide +kernel)
theorem wd_514 : (Jvm.Cond.methodLink "VehicleChecksLaw" (168 : Nat) ({ cls := "VehicleChecksLaw", name := "cost", desc := "(LVehicleChecks;II[J)I" } : Jvm.MethodName)) ∈ vW := se_wd 514 (by decide +kernel) (by decide +kernel)
theorem wd_515 : (Jvm.Cond.static ({ cls := "VehicleChecksLaw", name := "cost", desc := "(LVehicleChecks;II[J)I" } : Jvm.MethodName)) ∈ vW := se_wd 515 (by decide +kernel) (by decide +kernel)
theorem wd_516 : (Jvm.Cond.codeWith ({ cls := "VehicleChecksLaw", name := "cost", desc := "(LVehicleChecks;II[J)I" } : Jvm.MethodName) method_21_code (5 : Nat) (Option.some Jvm.ClassFile.FieldType.int) [((0 : Nat), (10 : Nat), (13 : Nat), (13 : Nat)), ((0 : Nat), (10 : Nat), (17 : Nat), (21 : Nat)), ((0 : Nat), (10 : Nat), (21 : Nat), (15 : Nat))]) ∈ vW := se_wd 516 (by decide +kernel) (by decide +kernel)
theorem wd_517 : (Jvm.Cond.methodLink "VehicleChecksLaw" (83 : Nat) ({ cls := "VehicleChecks", name := "cost", desc := "(II)I" } : Jvm.MethodName)) ∈ vW := se_wd 517 (by decide +kernel) (by decide +kernel)
theorem wd_518 : (Jvm.Cond.instanceMethod ({ cls := "VehicleChecks", name := "cost", desc := "(II)I" } : Jvm.MethodName)) ∈ vW := se_wd 518 (by decide +kernel) (by decide +kernel)
theorem wd_519 : (Jvm.Cond.selects "VehicleChecks" ({ cls := "VehicleChecks", name := "cost", desc := "(II)I" } : Jvm.MethodName) ({ cls := "VehicleChecks", name := "cost", desc := "(II)I" } : Jvm.MethodName)) ∈ vW := se_wd 519 (by decide +kernel) (by decide +kernel)
theorem wd_520 : (Jvm.Cond.code ({ cls := "VehicleChecks", name := "cost", desc := "(II)I" } : Jvm.MethodName) prog_1_method_20_code (4 : Nat) (Option.some Jvm.ClassFile.FieldType.int)) ∈ vW := se_wd 520 (by decide +kernel) (by decide +kernel)
theorem wd_521 : (Jvm.Cond.constant "VehicleChecks" (206 : Nat) (10000000 : Int32)) ∈ vW := se_wd 521 (by decide +kernel) (by decide +kernel)
theorem wd_522 : (Jvm.Cond.methodLink "VehicleChecksLaw" (171 : Nat) ({ cls := "VehicleChecksLaw", name := "skipped", desc := "(LVehicleChecks;I[J)I" } : Jvm.MethodName)) ∈ vW := se_wd 522 (by decide +kernel) (by decide +kernel)
theorem wd_523 : (Jvm.Cond.static ({ cls := "VehicleChecksLaw", name := "skipped", desc := "(LVehicleChecks;I[J)I" } : Jvm.MethodName)) ∈ vW := se_wd 523 (by decide +kernel) (by decide +kernel)
theorem wd_524 : (Jvm.Cond.codeWith ({ cls := "VehicleChecksLaw", name := "skipped", desc := "(LVehicleChecks;I[J)I" } : Jvm.MethodName) method_22_code (4 : Nat) (Option.some Jvm.ClassFile.FieldType.int) [((0 : Nat), (9 : Nat), (12 : Nat), (21 : Nat))]) ∈ vW := se_wd 524 (by decide +kernel) (by decide +kernel)
theorem wd_525 : (Jvm.Cond.methodLink "VehicleChecksLaw" (86 : Nat) ({ cls := "VehicleChecks", name := "skipped", desc := "(I)I" } : Jvm.MethodName)) ∈ vW := se_wd 525 (by decide +kernel) (by decide +kernel)
theorem wd_526 : (Jvm.Cond.instanceMethod ({ cls := "VehicleChecks", name := "skipped", desc := "(I)I" } : Jvm.MethodName)) ∈ vW := se_wd 526 (by decide +kernel) (by decide +kernel)
theorem wd_527 : (Jvm.Cond.selects "VehicleChecks" ({ cls := "VehicleChecks", name := "skipped", desc := "(I)I" } : Jvm.MethodName) ({ cls := "VehicleChecks", name := "skipped", desc := "(I)I" } : Jvm.MethodName)) ∈ vW := se_wd 527 (by decide +kernel) (by decide +kernel)
theorem wd_528 : (Jvm.Cond.code ({ cls := "VehicleChecks", name := "skipped", desc := "(I)I" } : Jvm.MethodName) prog_1_method_21_code (5 : Nat) (Option.some Jvm.ClassFile.FieldType.int)) ∈ vW := se_wd 528 (by decide +kernel) (by decide +kernel)
theorem wd_529 : (Jvm.Cond.methodLink "VehicleChecksLaw" (174 : Nat) ({ cls := "VehicleChecksLaw", name := "tick", desc := "(LVehicleChecks;I[J)I" } : Jvm.MethodName)) ∈ vW := se_wd 529 (by decide +kernel) (by decide +kernel)
theorem wd_530 : (Jvm.Cond.static ({ cls := "VehicleChecksLaw", name := "tick", desc := "(LVehicleChecks;I[J)I" } : Jvm.MethodName)) ∈ vW := se_wd 530 (by decide +kernel) (by decide +kernel)
theorem wd_531 : (Jvm.Cond.codeWith ({ cls := "VehicleChecksLaw", name := "tick", desc := "(LVehicleChecks;I[J)I" } : Jvm.MethodName) method_23_code (4 : Nat) (Option.some Jvm.ClassFile.FieldType.int) [((0 : Nat), (9 : Nat), (12 : Nat), (21 : Nat))]) ∈ vW := se_wd 531 (by decide +kernel) (by decide +kernel)
theorem wd_532 : (Jvm.Cond.methodLink "VehicleChecksLaw" (89 : Nat) ({ cls := "VehicleChecks", name := "tick", desc := "(I)I" } : Jvm.MethodName)) ∈ vW := se_wd 532 (by decide +kernel) (by decide +kernel)
theorem wd_533 : (Jvm.Cond.instanceMethod ({ cls := "VehicleChecks", name := "tick", desc := "(I)I" } : Jvm.MethodName)) ∈ vW := se_wd 533 (by decide +kernel) (by decide +kernel)
theorem wd_534 : (Jvm.Cond.selects "VehicleChecks" ({ cls := "VehicleChecks", name := "tick", desc := "(I)I" } : Jvm.MethodName) ({ cls := "VehicleChecks", name := "tick", desc := "(I)I" } : Jvm.MethodName)) ∈ vW := se_wd 534 (by decide +kernel) (by decide +kernel)
theorem wd_535 : (Jvm.Cond.code ({ cls := "VehicleChecks", name := "tick", desc := "(I)I" } : Jvm.MethodName) prog_1_method_22_code (4 : Nat) (Option.some Jvm.ClassFile.FieldType.int)) ∈ vW := se_wd 535 (by decide +kernel) (by decide +kernel)
theorem wd_536 : (Jvm.Cond.methodLink "VehicleChecksLaw" (177 : Nat) ({ cls := "VehicleChecksLaw", name := "vehicleAt", desc := "(LVehicleChecks;II[J)I" } : Jvm.MethodName)) ∈ vW := se_wd 536 (by decide +kernel) (by decide +kernel)
theorem wd_537 : (Jvm.Cond.static ({ cls := "VehicleChecksLaw", name := "vehicleAt", desc := "(LVehicleChecks;II[J)I" } : Jvm.MethodName)) ∈ vW := se_wd 537 (by decide +kernel) (by decide +kernel)
theorem wd_538 : (Jvm.Cond.codeWith ({ cls := "VehicleChecksLaw", name := "vehicleAt", desc := "(LVehicleChecks;II[J)I" } : Jvm.MethodName) method_24_code (5 : Nat) (Option.some Jvm.ClassFile.FieldType.int) [((0 : Nat), (10 : Nat), (13 : Nat), (13 : Nat))]) ∈ vW := se_wd 538 (by decide +kernel) (by decide +kernel)
theorem wd_539 : (Jvm.Cond.methodLink "VehicleChecksLaw" (92 : Nat) ({ cls := "VehicleChecks", name := "vehicleAt", desc := "(II)I" } : Jvm.MethodName)) ∈ vW := se_wd 539 (by decide +kernel) (by decide +kernel)
theorem wd_540 : (Jvm.Cond.instanceMethod ({ cls := "VehicleChecks", name := "vehicleAt", desc := "(II)I" } : Jvm.MethodName)) ∈ vW := se_wd 540 (by decide +kernel) (by decide +kernel)
theorem wd_541 : (Jvm.Cond.selects "VehicleChecks" ({ cls := "VehicleChecks", name := "vehicleAt", desc := "(II)I" } : Jvm.MethodName) ({ cls := "VehicleChecks", name := "vehicleAt", desc := "(II)I" } : Jvm.MethodName)) ∈ vW := se_wd 541 (by decide +kernel) (by decide +kernel)
theorem wd_542 : (Jvm.Cond.code ({ cls := "VehicleChecks", name := "vehicleAt", desc := "(II)I" } : Jvm.MethodName) prog_1_method_23_code (4 : Nat) (Option.some Jvm.ClassFile.FieldType.int)) ∈ vW := se_wd 542 (by decide +kernel) (by decide +kernel)
theorem wd_543 : (Jvm.Cond.methodLink "VehicleChecks" (216 : Nat) ({ cls := "VehicleChecks", name := "openDamages", desc := "(LVehicleChecks$Vehicle;)I" } : Jvm.MethodName)) ∈ vW := se_wd 543 (by decide +kernel) (by decide +kernel)
theorem wd_545 : (Jvm.Cond.instanceMethod ({ cls := "VehicleChecks", name := "openDamages", desc := "(LVehicleChecks$Vehicle;)I" } : Jvm.MethodName)) ∈ vW := se_wd 545 (by decide +kernel) (by decide +kernel)
theorem wd_546 : (Jvm.Cond.code ({ cls := "VehicleChecks", name := "openDamages", desc := "(LVehicleChecks$Vehicle;)I" } : Jvm.MethodName) prog_1_method_38_code (4 : Nat) (Option.some Jvm.ClassFile.FieldType.int)) ∈ vW := se_wd 546 (by decide +kernel) (by decide +kernel)
theorem wd_547 : (Jvm.Cond.classLink "VehicleChecksLaw" (96 : Nat) "VehicleChecksModel") ∈ vW := se_wd 547 (by decide +kernel) (by decide +kernel)
theorem wd_548 : (Jvm.Cond.instantiable "VehicleChecksModel" (29 : Nat)) ∈ vW := se_wd 548 (by decide +kernel) (by decide +kernel)
theorem wd_549 : (Jvm.Cond.methodLink "VehicleChecksLaw" (98 : Nat) ({ cls := "VehicleChecksModel", name := "<init>", desc := "()V" } : Jvm.MethodName)) ∈ vW := se_wd 549 (by decide +kernel) (by decide +kernel)
theorem wd_550 : (Jvm.Cond.instanceMethod ({ cls := "VehicleChecksModel", name := "<init>", desc := "()V" } : Jvm.MethodName)) ∈ vW := se_wd 550 (by decide +kernel) (by decide +kernel)
theorem wd_551 : (Jvm.Cond.code ({ cls := "VehicleChecksModel", name := "<init>", desc := "()V" } : Jvm.MethodName) prog_5_method_1_code (1 : Nat) (Option.none : Option Jvm.ClassFile.FieldType)) ∈ vW := se_wd 551 (by decide +kernel) (by decide +kernel)
theorem wd_552 : (Jvm.Cond.methodLink "VehicleChecksModel" (1 : Nat) ({ cls := "java/lang/Object", name := "<init>", desc := "()V" } : Jvm.MethodName)) ∈ vW := se_wd 552 (by decide +kernel) (by decide +kernel)
theorem wd_553 : (Jvm.Cond.fieldLink "VehicleChecksModel" (86 : Nat) "VehicleChecksModel" "thrown" "I") ∈ vW := se_wd 553 (by decide +kernel) (by decide +kernel)
theorem wd_554 : (Jvm.Cond.fieldLink "VehicleChecksModel" (105 : Nat) "VehicleChecksModel" "hour" "I") ∈ vW := se_wd 554 (by decide +kernel) (by decide +kernel)
theorem wd_555 : (Jvm.Cond.fieldLink "VehicleChecksModel" (7 : Nat) "VehicleChecksModel" "listed" "[Z") ∈ vW := se_wd 555 (by decide +kernel) (by decide +kernel)
theorem wd_556 : (Jvm.Cond.fieldLink "VehicleChecksModel" (13 : Nat) "VehicleChecksModel" "low" "[I") ∈ vW := se_wd 556 (by decide +kernel) (by decide +kernel)
theorem wd_557 : (Jvm.Cond.fieldLink "VehicleChecksModel" (17 : Nat) "VehicleChecksModel" "high" "[I") ∈ vW := se_wd 557 (by decide +kernel) (by decide +kernel)
theorem wd_558 : (Jvm.Cond.fieldLink "VehicleChecksModel" (20 : Nat) "VehicleChecksModel" "grade" "[I") ∈ vW := se_wd 558 (by decide +kernel) (by decide +kernel)
theorem wd_559 : (Jvm.Cond.fieldLink "VehicleChecksModel" (23 : Nat) "VehicleChecksModel" "every" "[I") ∈ vW := se_wd 559 (by decide +kernel) (by decide +kernel)
theorem wd_560 : (Jvm.Cond.fieldLink "VehicleChecksModel" (26 : Nat) "VehicleChecksModel" "needs" "[I") ∈ vW := se_wd 560 (by decide +kernel) (by decide +kernel)
theorem wd_561 : (Jvm.Cond.fieldLink "VehicleChecksModel" (90 : Nat) "VehicleChecksModel" "vehicles" "I") ∈ vW := se_wd 561 (by decide +kernel) (by decide +kernel)
theorem wd_562 : (Jvm.Cond.fieldLink "VehicleChecksModel" (29 : Nat) "VehicleChecksModel" "kind" "[I") ∈ vW := se_wd 562 (by decide +kernel) (by decide +kernel)
theorem wd_563 : (Jvm.Cond.fieldLink "VehicleChecksModel" (32 : Nat) "VehicleChecksModel" "spare" "[Z") ∈ vW := se_wd 563 (by decide +kernel) (by decide +kernel)
theorem wd_564 : (Jvm.Cond.fieldLink "VehicleChecksModel" (35 : Nat) "VehicleChecksModel" "off" "[Z") ∈ vW := se_wd 564 (by decide +kernel) (by decide +kernel)
theorem wd_565 : (Jvm.Cond.fieldLink "VehicleChecksModel" (38 : Nat) "VehicleChecksModel" "told" "[I") ∈ vW := se_wd 565 (by decide +kernel) (by decide +kernel)
theorem wd_566 : (Jvm.Cond.fieldLink "VehicleChecksModel" (41 : Nat) "VehicleChecksModel" "km" "[I") ∈ vW := se_wd 566 (by decide +kernel) (by decide +kernel)
theorem wd_567 : (Jvm.Cond.fieldLink "VehicleChecksModel" (44 : Nat) "VehicleChecksModel" "lower" "[I") ∈ vW := se_wd 567 (by decide +kernel) (by decide +kernel)
theorem wd_568 : (Jvm.Cond.fieldLink "VehicleChecksModel" (47 : Nat) "VehicleChecksModel" "uses" "[I") ∈ vW := se_wd 568 (by decide +kernel) (by decide +kernel)
theorem wd_569 : (Jvm.Cond.fieldLink "VehicleChecksModel" (50 : Nat) "VehicleChecksModel" "fuel" "[I") ∈ vW := se_wd 569 (by decide +kernel) (by decide +kernel)
theorem wd_570 : (Jvm.Cond.fieldLink "VehicleChecksModel" (53 : Nat) "VehicleChecksModel" "cost" "[I") ∈ vW := se_wd 570 (by decide +kernel) (by decide +kernel)
theorem wd_571 : (Jvm.Cond.fieldLink "VehicleChecksModel" (56 : Nat) "VehicleChecksModel" "key" "[I") ∈ vW := se_wd 571 (by decide +kernel) (by decide +kernel)
theorem wd_572 : (Jvm.Cond.fieldLink "VehicleChecksModel" (59 : Nat) "VehicleChecksModel" "things" "[I") ∈ vW := se_wd 572 (by decide +kernel) (by decide +kernel)
theorem wd_573 : (Jvm.Cond.fieldLink "VehicleChecksModel" (62 : Nat) "VehicleChecksModel" "answered" "[Z") ∈ vW := se_wd 573 (by decide +kernel) (by decide +kernel)
theorem wd_574 : (Jvm.Cond.fieldLink "VehicleChecksModel" (65 : Nat) "VehicleChecksModel" "value" "[I") ∈ vW := se_wd 574 (by decide +kernel) (by decide +kernel)
theorem wd_575 : (Jvm.Cond.fieldLink "VehicleChecksModel" (68 : Nat) "VehicleChecksModel" "at" "[I") ∈ vW := se_wd 575 (by decide +kernel) (by decide +kernel)
theorem wd_576 : (Jvm.Cond.fieldLink "VehicleChecksModel" (71 : Nat) "VehicleChecksModel" "by" "[I") ∈ vW := se_wd 576 (by decide +kernel) (by decide +kernel)
theorem wd_577 : (Jvm.Cond.fieldLink "VehicleChecksModel" (74 : Nat) "VehicleChecksModel" "usesThen" "[I") ∈ vW := se_wd 577 (by decide +kernel) (by decide +kernel)
theorem wd_578 : (Jvm.Cond.fieldLink "VehicleChecksModel" (133 : Nat) "VehicleChecksModel" "damages" "I") ∈ vW := se_wd 578 (by decide +kernel) (by decide +kernel)
theorem wd_579 : (Jvm.Cond.fieldLink "VehicleChecksModel" (77 : Nat) "VehicleChecksModel" "damageOf" "[I") ∈ vW := se_wd 579 (by decide +kernel) (by decide +kernel)
theorem wd_580 : (Jvm.Cond.fieldLink "VehicleChecksModel" (80 : Nat) "VehicleChecksModel" "damageGrade" "[I") ∈ vW := se_wd 580 (by decide +kernel) (by decide +kernel)
theorem wd_581 : (Jvm.Cond.fieldLink "VehicleChecksModel" (83 : Nat) "VehicleChecksModel" "proof" "[I") ∈ vW := se_wd 581 (by decide +kernel) (by decide +kernel)
theorem wd_582 : (Jvm.Cond.lays "VehicleChecksModel" "VehicleChecksModel" "thrown" "I") ∈ vW := se_wd 582 (by decide +kernel) (by decide +kernel)
theorem wd_584 : (Jvm.Cond.lays "VehicleChecksModel" "VehicleChecksModel" "hour" "I") ∈ vW := se_wd 584 (by decide +kernel) (by decide +kernel)
theorem wd_586 : (Jvm.Cond.laysFinal "VehicleChecksModel" "VehicleChecksModel" "listed" "[Z") ∈ vW := se_wd 586 (by decide +kernel) (by decide +kernel)
theorem wd_588 : (Jvm.Cond.laysFinal "VehicleChecksModel" "VehicleChecksModel" "low" "[I") ∈ vW := se_wd 588 (by decide +kernel) (by decide +kernel)
theorem wd_590 : (Jvm.Cond.laysFinal "VehicleChecksModel" "VehicleChecksModel" "high" "[I") ∈ vW := se_wd 590 (by decide +kernel) (by decide +kernel)
theorem wd_592 : (Jvm.Cond.laysFinal "VehicleChecksModel" "VehicleChecksModel" "grade" "[I") ∈ vW := se_wd 592 (by decide +kernel) (by decide +kernel)
theorem wd_594 : (Jvm.Cond.laysFinal "VehicleChecksModel" "VehicleChecksModel" "every" "[I") ∈ vW := se_wd 594 (by decide +kernel) (by decide +kernel)
theorem wd_596 : (Jvm.Cond.laysFinal "VehicleChecksModel" "VehicleChecksModel" "needs" "[I") ∈ vW := se_wd 596 (by decide +kernel) (by decide +kernel)
theorem wd_598 : (Jvm.Cond.lays "VehicleChecksModel" "VehicleChecksModel" "vehicles" "I") ∈ vW := se_wd 598 (by decide +kernel) (by decide +kernel)
theorem wd_600 : (Jvm.Cond.laysFinal "VehicleChecksModel" "VehicleChecksModel" "kind" "[I") ∈ vW := se_wd 600 (by decide +kernel) (by decide +kernel)
theorem wd_602 : (Jvm.Cond.laysFinal "VehicleChecksModel" "VehicleChecksModel" "spare" "[Z") ∈ vW := se_wd 602 (by decide +kernel) (by decide +kernel)
theorem wd_604 : (Jvm.Cond.laysFinal "VehicleChecksModel" "VehicleChecksModel" "off" "[Z") ∈ vW := se_wd 604 (by decide +kernel) (by decide +kernel)
theorem wd_606 : (Jvm.Cond.laysFinal "VehicleChecksModel" "VehicleChecksModel" "told" "[I") ∈ vW := se_wd 606 (by decide +kernel) (by decide +kernel)
theorem wd_608 : (Jvm.Cond.laysFinal "VehicleChecksModel" "VehicleChecksModel" "km" "[I") ∈ vW := se_wd 608 (by decide +kernel) (by decide +kernel)
theorem wd_610 : (Jvm.Cond.laysFinal "VehicleChecksModel" "VehicleChecksModel" "lower" "[I") ∈ vW := se_wd 610 (by decide +kernel) (by decide +kernel)
theorem wd_612 : (Jvm.Cond.laysFinal "VehicleChecksModel" "VehicleChecksModel" "uses" "[I") ∈ vW := se_wd 612 (by decide +kernel) (by decide +kernel)
theorem wd_614 : (Jvm.Cond.laysFinal "VehicleChecksModel" "VehicleChecksModel" "fuel" "[I") ∈ vW := se_wd 614 (by decide +kernel) (by decide +kernel)
theorem wd_616 : (Jvm.Cond.laysFinal "VehicleChecksModel" "VehicleChecksModel" "cost" "[I") ∈ vW := se_wd 616 (by decide +kernel) (by decide +kernel)
theorem wd_618 : (Jvm.Cond.laysFinal "VehicleChecksModel" "VehicleChecksModel" "key" "[I") ∈ vW := se_wd 618 (by decide +kernel) (by decide +kernel)
theorem wd_620 : (Jvm.Cond.laysFinal "VehicleChecksModel" "VehicleChecksModel" "things" "[I") ∈ vW := se_wd 620 (by decide +kernel) (by decide +kernel)
theorem wd_622 : (Jvm.Cond.laysFinal "VehicleChecksModel" "VehicleChecksModel" "answered" "[Z") ∈ vW := se_wd 622 (by decide +kernel) (by decide +kernel)
theorem wd_624 : (Jvm.Cond.laysFinal "VehicleChecksModel" "VehicleChecksModel" "value" "[I") ∈ vW := se_wd 624 (by decide +kernel) (by decide +kernel)
theorem wd_626 : (Jvm.Cond.laysFinal "VehicleChecksModel" "VehicleChecksModel" "at" "[I") ∈ vW := se_wd 626 (by decide +kernel) (by decide +kernel)
theorem wd_628 : (Jvm.Cond.laysFinal "VehicleChecksModel" "VehicleChecksModel" "by" "[I") ∈ vW := se_wd 628 (by decide +kernel) (by decide +kernel)
theorem wd_630 : (Jvm.Cond.laysFinal "VehicleChecksModel" "VehicleChecksModel" "usesThen" "[I") ∈ vW := se_wd 630 (by decide +kernel) (by decide +kernel)
theorem wd_632 : (Jvm.Cond.lays "VehicleChecksModel" "VehicleChecksModel" "damages" "I") ∈ vW := se_wd 632 (by decide +kernel) (by decide +kernel)
theorem wd_634 : (Jvm.Cond.laysFinal "VehicleChecksModel" "VehicleChecksModel" "damageOf" "[I") ∈ vW := se_wd 634 (by decide +kernel) (by decide +kernel)
theorem wd_636 : (Jvm.Cond.laysFinal "VehicleChecksModel" "VehicleChecksModel" "damageGrade" "[I") ∈ vW := se_wd 636 (by decide +kernel) (by decide +kernel)
theorem wd_638 : (Jvm.Cond.laysFinal "VehicleChecksModel" "VehicleChecksModel" "proof" "[I") ∈ vW := se_wd 638 (by decide +kernel) (by decide +kernel)
theorem wd_641 : (Jvm.Cond.methodLink "VehicleChecksLaw" (105 : Nat) ({ cls := "VehicleChecksModel", name := "thrown", desc := "()I" } : Jvm.MethodName)) ∈ vW := se_wd 641 (by decide +kernel) (by decide +kernel)
theorem wd_642 : (Jvm.Cond.instanceMethod ({ cls := "VehicleChecksModel", name := "thrown", desc := "()I" } : Jvm.MethodName)) ∈ vW := se_wd 642 (by decide +kernel) (by decide +kernel)
theorem wd_643 : (Jvm.Cond.selects "VehicleChecksModel" ({ cls := "VehicleChecksModel", name := "thrown", desc := "()I" } : Jvm.MethodName) ({ cls := "VehicleChecksModel", name := "thrown", desc := "()I" } : Jvm.MethodName)) ∈ vW := se_wd 643 (by decide +kernel) (by decide +kernel)
theorem wd_644 : (Jvm.Cond.code ({ cls := "VehicleChecksModel", name := "thrown", desc := "()I" } : Jvm.MethodName) prog_5_method_2_code (1 : Nat) (Option.some Jvm.ClassFile.FieldType.int)) ∈ vW := se_wd 644 (by decide +kernel) (by decide +kernel)
theorem wd_645 : (Jvm.Cond.methodLink "VehicleChecksLaw" (104 : Nat) ({ cls := "VehicleChecksModel", name := "vehicle", desc := "(IZ)I" } : Jvm.MethodName)) ∈ vW := se_wd 645 (by decide +kernel) (by decide +kernel)
theorem wd_646 : (Jvm.Cond.instanceMethod ({ cls := "VehicleChecksModel", name := "vehicle", desc := "(IZ)I" } : Jvm.MethodName)) ∈ vW := se_wd 646 (by decide +kernel) (by decide +kernel)
theorem wd_647 : (Jvm.Cond.selects "VehicleChecksModel" ({ cls := "VehicleChecksModel", name := "vehicle", desc := "(IZ)I" } : Jvm.MethodName) ({ cls := "VehicleChecksModel", name := "vehicle", desc := "(IZ)I" } : Jvm.MethodName)) ∈ vW := se_wd 647 (by decide +kernel) (by decide +kernel)
theorem wd_648 : (Jvm.Cond.code ({ cls := "VehicleChecksModel", name := "vehicle", desc := "(IZ)I" } : Jvm.MethodName) prog_5_method_9_code (3 : Nat) (Option.some Jvm.ClassFile.FieldType.int)) ∈ vW := se_wd 648 (by decide +kernel) (by decide +kernel)
theorem wd_649 : (Jvm.Cond.methodLink "VehicleChecksModel" (97 : Nat) ({ cls := "VehicleChecksModel", name := "isKind", desc := "(I)Z" } : Jvm.MethodName)) ∈ vW := se_wd 649 (by decide +kernel) (by decide +kernel)
theorem wd_650 : (Jvm.Cond.static ({ cls := "VehicleChecksModel", name := "isKind", desc := "(I)Z" } : Jvm.MethodName)) ∈ vW := se_wd 650 (by decide +kernel) (by decide +kernel)
theorem wd_651 : (Jvm.Cond.code ({ cls := "VehicleChecksModel", name := "isKind", desc := "(I)Z" } : Jvm.MethodName) prog_5_method_7_code (1 : Nat) (Option.some Jvm.ClassFile.FieldType.boolean)) ∈ vW := se_wd 651 (by decide +kernel) (by decide +kernel)
theorem wd_652 : (Jvm.Cond.methodLink "VehicleChecksModel" (93 : Nat) ({ cls := "VehicleChecksModel", name := "in", desc := "(III)Z" } : Jvm.MethodName)) ∈ vW := se_wd 652 (by decide +kernel) (by decide +kernel)
theorem wd_653 : (Jvm.Cond.static ({ cls := "VehicleChecksModel", name := "in", desc := "(III)Z" } : Jvm.MethodName)) ∈ vW := se_wd 653 (by decide +kernel) (by decide +kernel)
theorem wd_654 : (Jvm.Cond.code ({ cls := "VehicleChecksModel", name := "in", desc := "(III)Z" } : Jvm.MethodName) prog_5_method_3_code (3 : Nat) (Option.some Jvm.ClassFile.FieldType.boolean)) ∈ vW := se_wd 654 (by decide +kernel) (by decide +kernel)
theorem wd_655 : (Jvm.Cond.methodLink "VehicleChecksModel" (101 : Nat) ({ cls := "VehicleChecksModel", name := "goes", desc := "(ZZZ)Z" } : Jvm.MethodName)) ∈ vW := se_wd 655 (by decide +kernel) (by decide +kernel)
theorem wd_657 : (Jvm.Cond.instanceMethod ({ cls := "VehicleChecksModel", name := "goes", desc := "(ZZZ)Z" } : Jvm.MethodName)) ∈ vW := se_wd 657 (by decide +kernel) (by decide +kernel)
theorem wd_658 : (Jvm.Cond.code ({ cls := "VehicleChecksModel", name := "goes", desc := "(ZZZ)Z" } : Jvm.MethodName) prog_5_method_4_code (4 : Nat) (Option.some Jvm.ClassFile.FieldType.boolean)) ∈ vW := se_wd 658 (by decide +kernel) (by decide +kernel)
theorem wd_659 : (Jvm.Cond.methodLink "VehicleChecksLaw" (112 : Nat) ({ cls := "VehicleChecksModel", name := "list", desc := "(IIIIII)V" } : Jvm.MethodName)) ∈ vW := se_wd 659 (by decide +kernel) (by decide +kernel)
theorem wd_660 : (Jvm.Cond.instanceMethod ({ cls := "VehicleChecksModel", name := "list", desc := "(IIIIII)V" } : Jvm.MethodName)) ∈ vW := se_wd 660 (by decide +kernel) (by decide +kernel)
theorem wd_661 : (Jvm.Cond.selects "VehicleChecksModel" ({ cls := "VehicleChecksModel", name := "list", desc := "(IIIIII)V" } : Jvm.MethodName) ({ cls := "VehicleChecksModel", name := "list", desc := "(IIIIII)V" } : Jvm.MethodName)) ∈ vW := se_wd 661 (by decide +kernel) (by decide +kernel)
theorem wd_662 : (Jvm.Cond.code ({ cls := "VehicleChecksModel", name := "list", desc := "(IIIIII)V" } : Jvm.MethodName) prog_5_method_10_code (7 : Nat) (Option.none : Option Jvm.ClassFile.FieldType)) ∈ vW := se_wd 662 (by decide +kernel) (by decide +kernel)
theorem wd_663 : (Jvm.Cond.methodLink "VehicleChecksModel" (108 : Nat) ({ cls := "VehicleChecksModel", name := "isItem", desc := "(I)Z" } : Jvm.MethodName)) ∈ vW := se_wd 663 (by decide +kernel) (by decide +kernel)
theorem wd_664 : (Jvm.Cond.static ({ cls := "VehicleChecksModel", name := "isItem", desc := "(I)Z" } : Jvm.MethodName)) ∈ vW := se_wd 664 (by decide +kernel) (by decide +kernel)
theorem wd_665 : (Jvm.Cond.code ({ cls := "VehicleChecksModel", name := "isItem", desc := "(I)Z" } : Jvm.MethodName) prog_5_method_6_code (1 : Nat) (Option.some Jvm.ClassFile.FieldType.boolean)) ∈ vW := se_wd 665 (by decide +kernel) (by decide +kernel)
theorem wd_666 : (Jvm.Cond.methodLink "VehicleChecksLaw" (116 : Nat) ({ cls := "VehicleChecksModel", name := "unlist", desc := "(II)V" } : Jvm.MethodName)) ∈ vW := se_wd 666 (by decide +kernel) (by decide +kernel)
theorem wd_667 : (Jvm.Cond.instanceMethod ({ cls := "VehicleChecksModel", name := "unlist", desc := "(II)V" } : Jvm.MethodName)) ∈ vW := se_wd 667 (by decide +kernel) (by decide +kernel)
theorem wd_668 : (Jvm.Cond.selects "VehicleChecksModel" ({ cls := "VehicleChecksModel", name := "unlist", desc := "(II)V" } : Jvm.MethodName) ({ cls := "VehicleChecksModel", name := "unlist", desc := "(II)V" } : Jvm.MethodName)) ∈ vW := se_wd 668 (by decide +kernel) (by decide +kernel)
theorem wd_669 : (Jvm.Cond.code ({ cls := "VehicleChecksModel", name := "unlist", desc := "(II)V" } : Jvm.MethodName) prog_5_method_11_code (4 : Nat) (Option.none : Option Jvm.ClassFile.FieldType)) ∈ vW := se_wd 669 (by decide +kernel) (by decide +kernel)
theorem wd_670 : (Jvm.Cond.methodLink "VehicleChecksLaw" (120 : Nat) ({ cls := "VehicleChecksModel", name := "answer", desc := "(IIII)Z" } : Jvm.MethodName)) ∈ vW := se_wd 670 (by decide +kernel) (by decide +kernel)
theorem wd_671 : (Jvm.Cond.instanceMethod ({ cls := "VehicleChecksModel", name := "answer", desc := "(IIII)Z" } : Jvm.MethodName)) ∈ vW := se_wd 671 (by decide +kernel) (by decide +kernel)
theorem wd_672 : (Jvm.Cond.selects "VehicleChecksModel" ({ cls := "VehicleChecksModel", name := "answer", desc := "(IIII)Z" } : Jvm.MethodName) ({ cls := "VehicleChecksModel", name := "answer", desc := "(IIII)Z" } : Jvm.MethodName)) ∈ vW := se_wd 672 (by decide +kernel) (by decide +kernel)
theorem wd_673 : (Jvm.Cond.code ({ cls := "VehicleChecksModel", name := "answer", desc := "(IIII)Z" } : Jvm.MethodName) prog_5_method_14_code (7 : Nat) (Option.some Jvm.ClassFile.FieldType.boolean)) ∈ vW := se_wd 673 (by decide +kernel) (by decide +kernel)
theorem wd_674 : (Jvm.Cond.methodLink "VehicleChecksModel" (115 : Nat) ({ cls := "VehicleChecksModel", name := "isVehicle", desc := "(I)Z" } : Jvm.MethodName)) ∈ vW := se_wd 674 (by decide +kernel) (by decide +kernel)
theorem wd_676 : (Jvm.Cond.instanceMethod ({ cls := "VehicleChecksModel", name := "isVehicle", desc := "(I)Z" } : Jvm.MethodName)) ∈ vW := se_wd 676 (by decide +kernel) (by decide +kernel)
theorem wd_677 : (Jvm.Cond.code ({ cls := "VehicleChecksModel", name := "isVehicle", desc := "(I)Z" } : Jvm.MethodName) prog_5_method_5_code (2 : Nat) (Option.some Jvm.ClassFile.FieldType.boolean)) ∈ vW := se_wd 677 (by decide +kernel) (by decide +kernel)
theorem wd_678 : (Jvm.Cond.methodLink "VehicleChecksModel" (118 : Nat) ({ cls := "VehicleChecksModel", name := "isPerson", desc := "(I)Z" } : Jvm.MethodName)) ∈ vW := se_wd 678 (by decide +kernel) (by decide +kernel)
theorem wd_679 : (Jvm.Cond.static ({ cls := "VehicleChecksModel", name := "isPerson", desc := "(I)Z" } : Jvm.MethodName)) ∈ vW := se_wd 679 (by decide +kernel) (by decide +kernel)
theorem wd_680 : (Jvm.Cond.code ({ cls := "VehicleChecksModel", name := "isPerson", desc := "(I)Z" } : Jvm.MethodName) prog_5_method_8_code (1 : Nat) (Option.some Jvm.ClassFile.FieldType.boolean)) ∈ vW := se_wd 680 (by decide +kernel) (by decide +kernel)
theorem wd_681 : (Jvm.Cond.constant "VehicleChecksModel" (121 : Nat) (-99999 : Int32)) ∈ vW := se_wd 681 (by decide +kernel) (by decide +kernel)
theorem wd_682 : (Jvm.Cond.constant "VehicleChecksModel" (122 : Nat) (99999 : Int32)) ∈ vW := se_wd 682 (by decide +kernel) (by decide +kernel)
theorem wd_683 : (Jvm.Cond.methodLink "VehicleChecksModel" (111 : Nat) ({ cls := "VehicleChecksModel", name := "rule", desc := "(II)I" } : Jvm.MethodName)) ∈ vW := se_wd 683 (by decide +kernel) (by decide +kernel)
theorem wd_685 : (Jvm.Cond.instanceMethod ({ cls := "VehicleChecksModel", name := "rule", desc := "(II)I" } : Jvm.MethodName)) ∈ vW := se_wd 685 (by decide +kernel) (by decide +kernel)
theorem wd_686 : (Jvm.Cond.code ({ cls := "VehicleChecksModel", name := "rule", desc := "(II)I" } : Jvm.MethodName) prog_5_method_12_code (3 : Nat) (Option.some Jvm.ClassFile.FieldType.int)) ∈ vW := se_wd 686 (by decide +kernel) (by decide +kernel)
theorem wd_687 : (Jvm.Cond.methodLink "VehicleChecksModel" (123 : Nat) ({ cls := "VehicleChecksModel", name := "isWithin", desc := "(III)Z" } : Jvm.MethodName)) ∈ vW := se_wd 687 (by decide +kernel) (by decide +kernel)
theorem wd_689 : (Jvm.Cond.instanceMethod ({ cls := "VehicleChecksModel", name := "isWithin", desc := "(III)Z" } : Jvm.MethodName)) ∈ vW := se_wd 689 (by decide +kernel) (by decide +kernel)
theorem wd_690 : (Jvm.Cond.code ({ cls := "VehicleChecksModel", name := "isWithin", desc := "(III)Z" } : Jvm.MethodName) prog_5_method_13_code (4 : Nat) (Option.some Jvm.ClassFile.FieldType.boolean)) ∈ vW := se_wd 690 (by decide +kernel) (by decide +kernel)
theorem wd_691 : (Jvm.Cond.methodLink "VehicleChecksLaw" (124 : Nat) ({ cls := "VehicleChecksModel", name := "item", desc := "(III)I" } : Jvm.MethodName)) ∈ vW := se_wd 691 (by decide +kernel) (by decide +kernel)
theorem wd_692 : (Jvm.Cond.instanceMethod ({ cls := "VehicleChecksModel", name := "item", desc := "(III)I" } : Jvm.MethodName)) ∈ vW := se_wd 692 (by decide +kernel) (by decide +kernel)
theorem wd_693 : (Jvm.Cond.selects "VehicleChecksModel" ({ cls := "VehicleChecksModel", name := "item", desc := "(III)I" } : Jvm.MethodName) ({ cls := "VehicleChecksModel", name := "item", desc := "(III)I" } : Jvm.MethodName)) ∈ vW := se_wd 693 (by decide +kernel) (by decide +kernel)
theorem wd_694 : (Jvm.Cond.code ({ cls := "VehicleChecksModel", name := "item", desc := "(III)I" } : Jvm.MethodName) prog_5_method_17_code (5 : Nat) (Option.some Jvm.ClassFile.FieldType.int)) ∈ vW := se_wd 694 (by decide +kernel) (by decide +kernel)
theorem wd_695 : (Jvm.Cond.methodLink "VehicleChecksModel" (126 : Nat) ({ cls := "VehicleChecksModel", name := "fails", desc := "(II)Z" } : Jvm.MethodName)) ∈ vW := se_wd 695 (by decide +kernel) (by decide +kernel)
theorem wd_697 : (Jvm.Cond.instanceMethod ({ cls := "VehicleChecksModel", name := "fails", desc := "(II)Z" } : Jvm.MethodName)) ∈ vW := se_wd 697 (by decide +kernel) (by decide +kernel)
theorem wd_698 : (Jvm.Cond.code ({ cls := "VehicleChecksModel", name := "fails", desc := "(II)Z" } : Jvm.MethodName) prog_5_method_15_code (3 : Nat) (Option.some Jvm.ClassFile.FieldType.boolean)) ∈ vW := se_wd 698 (by decide +kernel) (by decide +kernel)
theorem wd_699 : (Jvm.Cond.methodLink "VehicleChecksModel" (130 : Nat) ({ cls := "VehicleChecksModel", name := "isSkipped", desc := "(II)Z" } : Jvm.MethodName)) ∈ vW := se_wd 699 (by decide +kernel) (by decide +kernel)
theorem wd_701 : (Jvm.Cond.instanceMethod ({ cls := "VehicleChecksModel", name := "isSkipped", desc := "(II)Z" } : Jvm.MethodName)) ∈ vW := se_wd 701 (by decide +kernel) (by decide +kernel)
theorem wd_702 : (Jvm.Cond.code ({ cls := "VehicleChecksModel", name := "isSkipped", desc := "(II)Z" } : Jvm.MethodName) prog_5_method_16_code (5 : Nat) (Option.some Jvm.ClassFile.FieldType.boolean)) ∈ vW := se_wd 702 (by decide +kernel) (by decide +kernel)
theorem wd_703 : (Jvm.Cond.methodLink "VehicleChecksLaw" (135 : Nat) ({ cls := "VehicleChecksModel", name := "reason", desc := "(II)I" } : Jvm.MethodName)) ∈ vW := se_wd 703 (by decide +kernel) (by decide +kernel)
theorem wd_704 : (Jvm.Cond.instanceMethod ({ cls := "VehicleChecksModel", name := "reason", desc := "(II)I" } : Jvm.MethodName)) ∈ vW := se_wd 704 (by decide +kernel) (by decide +kernel)
theorem wd_705 : (Jvm.Cond.selects "VehicleChecksModel" ({ cls := "VehicleChecksModel", name := "reason", desc := "(II)I" } : Jvm.MethodName) ({ cls := "VehicleChecksModel", name := "reason", desc := "(II)I" } : Jvm.MethodName)) ∈ vW := se_wd 705 (by decide +kernel) (by decide +kernel)
theorem wd_706 : (Jvm.Cond.code ({ cls := "VehicleChecksModel", name := "reason", desc := "(II)I" } : Jvm.MethodName) prog_5_method_19_code (3 : Nat) (Option.some Jvm.ClassFile.FieldType.int)) ∈ vW := se_wd 706 (by decide +kernel) (by decide +kernel)
theorem wd_707 : (Jvm.Cond.methodLink "VehicleChecksModel" (136 : Nat) ({ cls := "VehicleChecksModel", name := "reasonOf", desc := "(II)I" } : Jvm.MethodName)) ∈ vW := se_wd 707 (by decide +kernel) (by decide +kernel)
theorem wd_709 : (Jvm.Cond.instanceMethod ({ cls := "VehicleChecksModel", name := "reasonOf", desc := "(II)I" } : Jvm.MethodName)) ∈ vW := se_wd 709 (by decide +kernel) (by decide +kernel)
theorem wd_710 : (Jvm.Cond.code ({ cls := "VehicleChecksModel", name := "reasonOf", desc := "(II)I" } : Jvm.MethodName) prog_5_method_18_code (5 : Nat) (Option.some Jvm.ClassFile.FieldType.int)) ∈ vW := se_wd 710 (by decide +kernel) (by decide +kernel)
theorem wd_711 : (Jvm.Cond.methodLink "VehicleChecksLaw" (132 : Nat) ({ cls := "VehicleChecksModel", name := "runs", desc := "(I)Z" } : Jvm.MethodName)) ∈ vW := se_wd 711 (by decide +kernel) (by decide +kernel)
theorem wd_712 : (Jvm.Cond.instanceMethod ({ cls := "VehicleChecksModel", name := "runs", desc := "(I)Z" } : Jvm.MethodName)) ∈ vW := se_wd 712 (by decide +kernel) (by decide +kernel)
theorem wd_713 : (Jvm.Cond.selects "VehicleChecksModel" ({ cls := "VehicleChecksModel", name := "runs", desc := "(I)Z" } : Jvm.MethodName) ({ cls := "VehicleChecksModel", name := "runs", desc := "(I)Z" } : Jvm.MethodName)) ∈ vW := se_wd 713 (by decide +kernel) (by decide +kernel)
theorem wd_714 : (Jvm.Cond.code ({ cls := "VehicleChecksModel", name := "runs", desc := "(I)Z" } : Jvm.MethodName) prog_5_method_21_code (2 : Nat) (Option.some Jvm.ClassFile.FieldType.boolean)) ∈ vW := se_wd 714 (by decide +kernel) (by decide +kernel)
theorem wd_715 : (Jvm.Cond.methodLink "VehicleChecksModel" (139 : Nat) ({ cls := "VehicleChecksModel", name := "isRunning", desc := "(I)Z" } : Jvm.MethodName)) ∈ vW := se_wd 715 (by decide +kernel) (by decide +kernel)
theorem wd_717 : (Jvm.Cond.instanceMethod ({ cls := "VehicleChecksModel", name := "isRunning", desc := "(I)Z" } : Jvm.MethodName)) ∈ vW := se_wd 717 (by decide +kernel) (by decide +kernel)
theorem wd_718 : (Jvm.Cond.code ({ cls := "VehicleChecksModel", name := "isRunning", desc := "(I)Z" } : Jvm.MethodName) prog_5_method_20_code (5 : Nat) (Option.some Jvm.ClassFile.FieldType.boolean)) ∈ vW := se_wd 718 (by decide +kernel) (by decide +kernel)
theorem wd_719 : (Jvm.Cond.methodLink "VehicleChecksLaw" (128 : Nat) ({ cls := "VehicleChecksModel", name := "use", desc := "(II)Z" } : Jvm.MethodName)) ∈ vW := se_wd 719 (by decide +kernel) (by decide +kernel)
theorem wd_720 : (Jvm.Cond.instanceMethod ({ cls := "VehicleChecksModel", name := "use", desc := "(II)Z" } : Jvm.MethodName)) ∈ vW := se_wd 720 (by decide +kernel) (by decide +kernel)
theorem wd_721 : (Jvm.Cond.selects "VehicleChecksModel" ({ cls := "VehicleChecksModel", name := "use", desc := "(II)Z" } : Jvm.MethodName) ({ cls := "VehicleChecksModel", name := "use", desc := "(II)Z" } : Jvm.MethodName)) ∈ vW := se_wd 721 (by decide +kernel) (by decide +kernel)
theorem wd_722 : (Jvm.Cond.code ({ cls := "VehicleChecksModel", name := "use", desc := "(II)Z" } : Jvm.MethodName) prog_5_method_22_code (3 : Nat) (Option.some Jvm.ClassFile.FieldType.boolean)) ∈ vW := se_wd 722 (by decide +kernel) (by decide +kernel)
theorem wd_723 : (Jvm.Cond.constant "VehicleChecksModel" (142 : Nat) (1000000 : Int32)) ∈ vW := se_wd 723 (by decide +kernel) (by decide +kernel)
theorem wd_724 : (Jvm.Cond.methodLink "VehicleChecksLaw" (139 : Nat) ({ cls := "VehicleChecksModel", name := "off", desc := "(IZII)V" } : Jvm.MethodName)) ∈ vW := se_wd 724 (by decide +kernel) (by decide +kernel)
theorem wd_725 : (Jvm.Cond.instanceMethod ({ cls := "VehicleChecksModel", name := "off", desc := "(IZII)V" } : Jvm.MethodName)) ∈ vW := se_wd 725 (by decide +kernel) (by decide +kernel)
theorem wd_726 : (Jvm.Cond.selects "VehicleChecksModel" ({ cls := "VehicleChecksModel", name := "off", desc := "(IZII)V" } : Jvm.MethodName) ({ cls := "VehicleChecksModel", name := "off", desc := "(IZII)V" } : Jvm.MethodName)) ∈ vW := se_wd 726 (by decide +kernel) (by decide +kernel)
theorem wd_727 : (Jvm.Cond.code ({ cls := "VehicleChecksModel", name := "off", desc := "(IZII)V" } : Jvm.MethodName) prog_5_method_23_code (6 : Nat) (Option.none : Option Jvm.ClassFile.FieldType)) ∈ vW := se_wd 727 (by decide +kernel) (by decide +kernel)
theorem wd_728 : (Jvm.Cond.methodLink "VehicleChecksLaw" (142 : Nat) ({ cls := "VehicleChecksModel", name := "damage", desc := "(II)I" } : Jvm.MethodName)) ∈ vW := se_wd 728 (by decide +kernel) (by decide +kernel)
theorem wd_729 : (Jvm.Cond.instanceMethod ({ cls := "VehicleChecksModel", name := "damage", desc := "(II)I" } : Jvm.MethodName)) ∈ vW := se_wd 729 (by decide +kernel) (by decide +kernel)
theorem wd_730 : (Jvm.Cond.selects "VehicleChecksModel" ({ cls := "VehicleChecksModel", name := "damage", desc := "(II)I" } : Jvm.MethodName) ({ cls := "VehicleChecksModel", name := "damage", desc := "(II)I" } : Jvm.MethodName)) ∈ vW := se_wd 730 (by decide +kernel) (by decide +kernel)
theorem wd_731 : (Jvm.Cond.code ({ cls := "VehicleChecksModel", name := "damage", desc := "(II)I" } : Jvm.MethodName) prog_5_method_24_code (3 : Nat) (Option.some Jvm.ClassFile.FieldType.int)) ∈ vW := se_wd 731 (by decide +kernel) (by decide +kernel)
theorem wd_732 : (Jvm.Cond.methodLink "VehicleChecksLaw" (145 : Nat) ({ cls := "VehicleChecksModel", name := "proof", desc := "(II)V" } : Jvm.MethodName)) ∈ vW := se_wd 732 (by decide +kernel) (by decide +kernel)
theorem wd_733 : (Jvm.Cond.instanceMethod ({ cls := "VehicleChecksModel", name := "proof", desc := "(II)V" } : Jvm.MethodName)) ∈ vW := se_wd 733 (by decide +kernel) (by decide +kernel)
theorem wd_734 : (Jvm.Cond.selects "VehicleChecksModel" ({ cls := "VehicleChecksModel", name := "proof", desc := "(II)V" } : Jvm.MethodName) ({ cls := "VehicleChecksModel", name := "proof", desc := "(II)V" } : Jvm.MethodName)) ∈ vW := se_wd 734 (by decide +kernel) (by decide +kernel)
theorem wd_735 : (Jvm.Cond.code ({ cls := "VehicleChecksModel", name := "proof", desc := "(II)V" } : Jvm.MethodName) prog_5_method_25_code (4 : Nat) (Option.none : Option Jvm.ClassFile.FieldType)) ∈ vW := se_wd 735 (by decide +kernel) (by decide +kernel)
theorem wd_736 : (Jvm.Cond.methodLink "VehicleChecksLaw" (149 : Nat) ({ cls := "VehicleChecksModel", name := "need", desc := "(III)V" } : Jvm.MethodName)) ∈ vW := se_wd 736 (by decide +kernel) (by decide +kernel)
theorem wd_737 : (Jvm.Cond.instanceMethod ({ cls := "VehicleChecksModel", name := "need", desc := "(III)V" } : Jvm.MethodName)) ∈ vW := se_wd 737 (by decide +kernel) (by decide +kernel)
theorem wd_738 : (Jvm.Cond.selects "VehicleChecksModel" ({ cls := "VehicleChecksModel", name := "need", desc := "(III)V" } : Jvm.MethodName) ({ cls := "VehicleChecksModel", name := "need", desc := "(III)V" } : Jvm.MethodName)) ∈ vW := se_wd 738 (by decide +kernel) (by decide +kernel)
theorem wd_739 : (Jvm.Cond.code ({ cls := "VehicleChecksModel", name := "need", desc := "(III)V" } : Jvm.MethodName) prog_5_method_27_code (4 : Nat) (Option.none : Option Jvm.ClassFile.FieldType)) ∈ vW := se_wd 739 (by decide +kernel) (by decide +kernel)
theorem wd_740 : (Jvm.Cond.methodLink "VehicleChecksModel" (143 : Nat) ({ cls := "VehicleChecksModel", name := "isThing", desc := "(I)Z" } : Jvm.MethodName)) ∈ vW := se_wd 740 (by decide +kernel) (by decide +kernel)
theorem wd_741 : (Jvm.Cond.static ({ cls := "VehicleChecksModel", name := "isThing", desc := "(I)Z" } : Jvm.MethodName)) ∈ vW := se_wd 741 (by decide +kernel) (by decide +kernel)
theorem wd_742 : (Jvm.Cond.code ({ cls := "VehicleChecksModel", name := "isThing", desc := "(I)Z" } : Jvm.MethodName) prog_5_method_26_code (1 : Nat) (Option.some Jvm.ClassFile.FieldType.boolean)) ∈ vW := se_wd 742 (by decide +kernel) (by decide +kernel)
theorem wd_743 : (Jvm.Cond.methodLink "VehicleChecksLaw" (152 : Nat) ({ cls := "VehicleChecksModel", name := "put", desc := "(III)I" } : Jvm.MethodName)) ∈ vW := se_wd 743 (by decide +kernel) (by decide +kernel)
theorem wd_744 : (Jvm.Cond.instanceMethod ({ cls := "VehicleChecksModel", name := "put", desc := "(III)I" } : Jvm.MethodName)) ∈ vW := se_wd 744 (by decide +kernel) (by decide +kernel)
theorem wd_745 : (Jvm.Cond.selects "VehicleChecksModel" ({ cls := "VehicleChecksModel", name := "put", desc := "(III)I" } : Jvm.MethodName) ({ cls := "VehicleChecksModel", name := "put", desc := "(III)I" } : Jvm.MethodName)) ∈ vW := se_wd 745 (by decide +kernel) (by decide +kernel)
theorem wd_746 : (Jvm.Cond.code ({ cls := "VehicleChecksModel", name := "put", desc := "(III)I" } : Jvm.MethodName) prog_5_method_28_code (5 : Nat) (Option.some Jvm.ClassFile.FieldType.int)) ∈ vW := se_wd 746 (by decide +kernel) (by decide +kernel)
theorem wd_747 : (Jvm.Cond.methodLink "VehicleChecksLaw" (155 : Nat) ({ cls := "VehicleChecksModel", name := "swap", desc := "(III)I" } : Jvm.MethodName)) ∈ vW := se_wd 747 (by decide +kernel) (by decide +kernel)
theorem wd_748 : (Jvm.Cond.instanceMethod ({ cls := "VehicleChecksModel", name := "swap", desc := "(III)I" } : Jvm.MethodName)) ∈ vW := se_wd 748 (by decide +kernel) (by decide +kernel)
theorem wd_749 : (Jvm.Cond.selects "VehicleChecksModel" ({ cls := "VehicleChecksModel", name := "swap", desc := "(III)I" } : Jvm.MethodName) ({ cls := "VehicleChecksModel", name := "swap", desc := "(III)I" } : Jvm.MethodName)) ∈ vW := se_wd 749 (by decide +kernel) (by decide +kernel)
theorem wd_750 : (Jvm.Cond.code ({ cls := "VehicleChecksModel", name := "swap", desc := "(III)I" } : Jvm.MethodName) prog_5_method_29_code (6 : Nat) (Option.some Jvm.ClassFile.FieldType.int)) ∈ vW := se_wd 750 (by decide +kernel) (by decide +kernel)
theorem wd_751 : (Jvm.Cond.methodLink "VehicleChecksLaw" (158 : Nat) ({ cls := "VehicleChecksModel", name := "spare", desc := "(I)I" } : Jvm.MethodName)) ∈ vW := se_wd 751 (by decide +kernel) (by decide +kernel)
theorem wd_752 : (Jvm.Cond.instanceMethod ({ cls := "VehicleChecksModel", name := "spare", desc := "(I)I" } : Jvm.MethodName)) ∈ vW := se_wd 752 (by decide +kernel) (by decide +kernel)
theorem wd_753 : (Jvm.Cond.selects "VehicleChecksModel" ({ cls := "VehicleChecksModel", name := "spare", desc := "(I)I" } : Jvm.MethodName) ({ cls := "VehicleChecksModel", name := "spare", desc := "(I)I" } : Jvm.MethodName)) ∈ vW := se_wd 753 (by decide +kernel) (by decide +kernel)
theorem wd_754 : (Jvm.Cond.code ({ cls := "VehicleChecksModel", name := "spare", desc := "(I)I" } : Jvm.MethodName) prog_5_method_30_code (4 : Nat) (Option.some Jvm.ClassFile.FieldType.int)) ∈ vW := se_wd 754 (by decide +kernel) (by decide +kernel)
theorem wd_755 : (Jvm.Cond.methodLink "VehicleChecksLaw" (161 : Nat) ({ cls := "VehicleChecksModel", name := "fuel", desc := "(II)I" } : Jvm.MethodName)) ∈ vW := se_wd 755 (by decide +kernel) (by decide +kernel)
theorem wd_756 : (Jvm.Cond.instanceMethod ({ cls := "VehicleChecksModel", name := "fuel", desc := "(II)I" } : Jvm.MethodName)) ∈ vW := se_wd 756 (by decide +kernel) (by decide +kernel)
theorem wd_757 : (Jvm.Cond.selects "VehicleChecksModel" ({ cls := "VehicleChecksModel", name := "fuel", desc := "(II)I" } : Jvm.MethodName) ({ cls := "VehicleChecksModel", name := "fuel", desc := "(II)I" } : Jvm.MethodName)) ∈ vW := se_wd 757 (by decide +kernel) (by decide +kernel)
theorem wd_758 : (Jvm.Cond.code ({ cls := "VehicleChecksModel", name := "fuel", desc := "(II)I" } : Jvm.MethodName) prog_5_method_31_code (3 : Nat) (Option.some Jvm.ClassFile.FieldType.int)) ∈ vW := se_wd 758 (by decide +kernel) (by decide +kernel)
theorem wd_759 : (Jvm.Cond.constant "VehicleChecksModel" (146 : Nat) (1000000000 : Int32)) ∈ vW := se_wd 759 (by decide +kernel) (by decide +kernel)
theorem wd_760 : (Jvm.Cond.methodLink "VehicleChecksLaw" (164 : Nat) ({ cls := "VehicleChecksModel", name := "using", desc := "(II)J" } : Jvm.MethodName)) ∈ vW := se_wd 760 (by decide +kernel) (by decide +kernel)
theorem wd_761 : (Jvm.Cond.instanceMethod ({ cls := "VehicleChecksModel", name := "using", desc := "(II)J" } : Jvm.MethodName)) ∈ vW := se_wd 761 (by decide +kernel) (by decide +kernel)
theorem wd_762 : (Jvm.Cond.selects "VehicleChecksModel" ({ cls := "VehicleChecksModel", name := "using", desc := "(II)J" } : Jvm.MethodName) ({ cls := "VehicleChecksModel", name := "using", desc := "(II)J" } : Jvm.MethodName)) ∈ vW := se_wd 762 (by decide +kernel) (by decide +kernel)
theorem wd_763 : (Jvm.Cond.code ({ cls := "VehicleChecksModel", name := "using", desc := "(II)J" } : Jvm.MethodName) prog_5_method_32_code (14 : Nat) (Option.some Jvm.ClassFile.FieldType.long)) ∈ vW := se_wd 763 (by decide +kernel) (by decide +kernel)
theorem wd_764 : (Jvm.Cond.constantLong "VehicleChecksModel" (147 : Nat) (100 : Int64)) ∈ vW := se_wd 764 (by decide +kernel) (by decide +kernel)
theorem wd_765 : (Jvm.Cond.methodLink "VehicleChecksLaw" (167 : Nat) ({ cls := "VehicleChecksModel", name := "key", desc := "(II)I" } : Jvm.MethodName)) ∈ vW := se_wd 765 (by decide +kernel) (by decide +kernel)
theorem wd_766 : (Jvm.Cond.instanceMethod ({ cls := "VehicleChecksModel", name := "key", desc := "(II)I" } : Jvm.MethodName)) ∈ vW := se_wd 766 (by decide +kernel) (by decide +kernel)
theorem wd_767 : (Jvm.Cond.selects "VehicleChecksModel" ({ cls := "VehicleChecksModel", name := "key", desc := "(II)I" } : Jvm.MethodName) ({ cls := "VehicleChecksModel", name := "key", desc := "(II)I" } : Jvm.MethodName)) ∈ vW := se_wd 767 (by decide +kernel) (by decide +kernel)
theorem wd_768 : (Jvm.Cond.code ({ cls := "VehicleChecksModel", name := "key", desc := "(II)I" } : Jvm.MethodName) prog_5_method_33_code (5 : Nat) (Option.some Jvm.ClassFile.FieldType.int)) ∈ vW := se_wd 768 (by decide +kernel) (by decide +kernel)
theorem wd_769 : (Jvm.Cond.methodLink "VehicleChecksLaw" (170 : Nat) ({ cls := "VehicleChecksModel", name := "cost", desc := "(II)I" } : Jvm.MethodName)) ∈ vW := se_wd 769 (by decide +kernel) (by decide +kernel)
theorem wd_770 : (Jvm.Cond.instanceMethod ({ cls := "VehicleChecksModel", name := "cost", desc := "(II)I" } : Jvm.MethodName)) ∈ vW := se_wd 770 (by decide +kernel) (by decide +kernel)
theorem wd_771 : (Jvm.Cond.selects "VehicleChecksModel" ({ cls := "VehicleChecksModel", name := "cost", desc := "(II)I" } : Jvm.MethodName) ({ cls := "VehicleChecksModel", name := "cost", desc := "(II)I" } : Jvm.MethodName)) ∈ vW := se_wd 771 (by decide +kernel) (by decide +kernel)
theorem wd_772 : (Jvm.Cond.code ({ cls := "VehicleChecksModel", name := "cost", desc := "(II)I" } : Jvm.MethodName) prog_5_method_34_code (3 : Nat) (Option.some Jvm.ClassFile.FieldType.int)) ∈ vW := se_wd 772 (by decide +kernel) (by decide +kernel)
theorem wd_773 : (Jvm.Cond.constant "VehicleChecksModel" (149 : Nat) (10000000 : Int32)) ∈ vW := se_wd 773 (by decide +kernel) (by decide +kernel)
theorem wd_774 : (Jvm.Cond.methodLink "VehicleChecksLaw" (173 : Nat) ({ cls := "VehicleChecksModel", name := "skipped", desc := "(I)I" } : Jvm.MethodName)) ∈ vW := se_wd 774 (by decide +kernel) (by decide +kernel)
theorem wd_775 : (Jvm.Cond.instanceMethod ({ cls := "VehicleChecksModel", name := "skipped", desc := "(I)I" } : Jvm.MethodName)) ∈ vW := se_wd 775 (by decide +kernel) (by decide +kernel)
theorem wd_776 : (Jvm.Cond.selects "VehicleChecksModel" ({ cls := "VehicleChecksModel", name := "skipped", desc := "(I)I" } : Jvm.MethodName) ({ cls := "VehicleChecksModel", name := "skipped", desc := "(I)I" } : Jvm.MethodName)) ∈ vW := se_wd 776 (by decide +kernel) (by decide +kernel)
theorem wd_777 : (Jvm.Cond.code ({ cls := "VehicleChecksModel", name := "skipped", desc := "(I)I" } : Jvm.MethodName) prog_5_method_35_code (4 : Nat) (Option.some Jvm.ClassFile.FieldType.int)) ∈ vW := se_wd 777 (by decide +kernel) (by decide +kernel)
theorem wd_778 : (Jvm.Cond.methodLink "VehicleChecksLaw" (176 : Nat) ({ cls := "VehicleChecksModel", name := "tick", desc := "(I)I" } : Jvm.MethodName)) ∈ vW := se_wd 778 (by decide +kernel) (by decide +kernel)
theorem wd_779 : (Jvm.Cond.instanceMethod ({ cls := "VehicleChecksModel", name := "tick", desc := "(I)I" } : Jvm.MethodName)) ∈ vW := se_wd 779 (by decide +kernel) (by decide +kernel)
theorem wd_780 : (Jvm.Cond.selects "VehicleChecksModel" ({ cls := "VehicleChecksModel", name := "tick", desc := "(I)I" } : Jvm.MethodName) ({ cls := "VehicleChecksModel", name := "tick", desc := "(I)I" } : Jvm.MethodName)) ∈ vW := se_wd 780 (by decide +kernel) (by decide +kernel)
theorem wd_781 : (Jvm.Cond.code ({ cls := "VehicleChecksModel", name := "tick", desc := "(I)I" } : Jvm.MethodName) prog_5_method_36_code (4 : Nat) (Option.some Jvm.ClassFile.FieldType.int)) ∈ vW := se_wd 781 (by decide +kernel) (by decide +kernel)
theorem wd_782 : (Jvm.Cond.methodLink "VehicleChecksLaw" (179 : Nat) ({ cls := "VehicleChecksModel", name := "vehicleAt", desc := "(II)I" } : Jvm.MethodName)) ∈ vW := se_wd 782 (by decide +kernel) (by decide +kernel)
theorem wd_783 : (Jvm.Cond.instanceMethod ({ cls := "VehicleChecksModel", name := "vehicleAt", desc := "(II)I" } : Jvm.MethodName)) ∈ vW := se_wd 783 (by decide +kernel) (by decide +kernel)
theorem wd_784 : (Jvm.Cond.selects "VehicleChecksModel" ({ cls := "VehicleChecksModel", name := "vehicleAt", desc := "(II)I" } : Jvm.MethodName) ({ cls := "VehicleChecksModel", name := "vehicleAt", desc := "(II)I" } : Jvm.MethodName)) ∈ vW := se_wd 784 (by decide +kernel) (by decide +kernel)
theorem wd_785 : (Jvm.Cond.code ({ cls := "VehicleChecksModel", name := "vehicleAt", desc := "(II)I" } : Jvm.MethodName) prog_5_method_37_code (5 : Nat) (Option.some Jvm.ClassFile.FieldType.int)) ∈ vW := se_wd 785 (by decide +kernel) (by decide +kernel)
theorem wd_786 : (Jvm.Cond.arrayClass Jvm.ClassFile.FieldType.long) ∈ vW := se_wd 786 (by decide +kernel) (by decide +kernel)
theorem sl_0 : Cond.selects "VehicleChecks" ⟨"VehicleChecks", "knownKind", "(I)LVehicleChecks$Kind;"⟩ ⟨"VehicleChecks", "knownKind", "(I)LVehicleChecks$Kind;"⟩ ∈ vW := se_wsl 0 (by decide +kernel) (by decide +kernel)
theorem sl_1 : Cond.selects "java/lang/Throwable" ⟨"java/lang/Throwable", "fillInStackTrace", "(I)Ljava/lang/Throwable;"⟩ ⟨"java/lang/Throwable", "fillInStackTrace", "(I)Ljava/lang/Throwable;"⟩ ∈ vW := se_wsl 1 (by decide +kernel) (by decide +kernel)
theorem sl_2 : Cond.selects "VehicleChecks" ⟨"VehicleChecks", "knownVehicle", "(I)LVehicleChecks$Vehicle;"⟩ ⟨"VehicleChecks", "knownVehicle", "(I)LVehicleChecks$Vehicle;"⟩ ∈ vW := se_wsl 2 (by decide +kernel) (by decide +kernel)
theorem sl_3 : Cond.selects "VehicleChecks" ⟨"VehicleChecks", "canRun", "(LVehicleChecks$Vehicle;)Z"⟩ ⟨"VehicleChecks", "canRun", "(LVehicleChecks$Vehicle;)Z"⟩ ∈ vW := se_wsl 3 (by decide +kernel) (by decide +kernel)
theorem sl_4 : Cond.selects "VehicleChecks" ⟨"VehicleChecks", "damagesWeight", "(LVehicleChecks$Vehicle;)I"⟩ ⟨"VehicleChecks", "damagesWeight", "(LVehicleChecks$Vehicle;)I"⟩ ∈ vW := se_wsl 4 (by decide +kernel) (by decide +kernel)
theorem sl_5 : Cond.selects "VehicleChecks" ⟨"VehicleChecks", "isOpenDamage", "(ILVehicleChecks$Vehicle;)Z"⟩ ⟨"VehicleChecks", "isOpenDamage", "(ILVehicleChecks$Vehicle;)Z"⟩ ∈ vW := se_wsl 5 (by decide +kernel) (by decide +kernel)
theorem sl_6 : Cond.selects "VehicleChecks" ⟨"VehicleChecks", "damageReason", "(LVehicleChecks$Vehicle;I)I"⟩ ⟨"VehicleChecks", "damageReason", "(LVehicleChecks$Vehicle;I)I"⟩ ∈ vW := se_wsl 6 (by decide +kernel) (by decide +kernel)
theorem sl_7 : Cond.selects "VehicleChecks" ⟨"VehicleChecks", "bestSpare", "(LVehicleChecks$Vehicle;)LVehicleChecks$Vehicle;"⟩ ⟨"VehicleChecks", "bestSpare", "(LVehicleChecks$Vehicle;)LVehicleChecks$Vehicle;"⟩ ∈ vW := se_wsl 7 (by decide +kernel) (by decide +kernel)
theorem sl_8 : Cond.selects "VehicleChecks" ⟨"VehicleChecks", "isSpareFor", "(LVehicleChecks$Vehicle;LVehicleChecks$Vehicle;)Z"⟩ ⟨"VehicleChecks", "isSpareFor", "(LVehicleChecks$Vehicle;LVehicleChecks$Vehicle;)Z"⟩ ∈ vW := se_wsl 8 (by decide +kernel) (by decide +kernel)
theorem sl_9 : Cond.selects "VehicleChecks" ⟨"VehicleChecks", "openDamages", "(LVehicleChecks$Vehicle;)I"⟩ ⟨"VehicleChecks", "openDamages", "(LVehicleChecks$Vehicle;)I"⟩ ∈ vW := se_wsl 9 (by decide +kernel) (by decide +kernel)
theorem sl_10 : Cond.selects "VehicleChecksModel" ⟨"VehicleChecksModel", "goes", "(ZZZ)Z"⟩ ⟨"VehicleChecksModel", "goes", "(ZZZ)Z"⟩ ∈ vW := se_wsl 10 (by decide +kernel) (by decide +kernel)
theorem sl_11 : Cond.selects "VehicleChecksModel" ⟨"VehicleChecksModel", "isVehicle", "(I)Z"⟩ ⟨"VehicleChecksModel", "isVehicle", "(I)Z"⟩ ∈ vW := se_wsl 11 (by decide +kernel) (by decide +kernel)
theorem sl_12 : Cond.selects "VehicleChecksModel" ⟨"VehicleChecksModel", "rule", "(II)I"⟩ ⟨"VehicleChecksModel", "rule", "(II)I"⟩ ∈ vW := se_wsl 12 (by decide +kernel) (by decide +kernel)
theorem sl_13 : Cond.selects "VehicleChecksModel" ⟨"VehicleChecksModel", "isWithin", "(III)Z"⟩ ⟨"VehicleChecksModel", "isWithin", "(III)Z"⟩ ∈ vW := se_wsl 13 (by decide +kernel) (by decide +kernel)
theorem sl_14 : Cond.selects "VehicleChecksModel" ⟨"VehicleChecksModel", "fails", "(II)Z"⟩ ⟨"VehicleChecksModel", "fails", "(II)Z"⟩ ∈ vW := se_wsl 14 (by decide +kernel) (by decide +kernel)
theorem sl_15 : Cond.selects "VehicleChecksModel" ⟨"VehicleChecksModel", "isSkipped", "(II)Z"⟩ ⟨"VehicleChecksModel", "isSkipped", "(II)Z"⟩ ∈ vW := se_wsl 15 (by decide +kernel) (by decide +kernel)
theorem sl_16 : Cond.selects "VehicleChecksModel" ⟨"VehicleChecksModel", "reasonOf", "(II)I"⟩ ⟨"VehicleChecksModel", "reasonOf", "(II)I"⟩ ∈ vW := se_wsl 16 (by decide +kernel) (by decide +kernel)
theorem sl_17 : Cond.selects "VehicleChecksModel" ⟨"VehicleChecksModel", "isRunning", "(I)Z"⟩ ⟨"VehicleChecksModel", "isRunning", "(I)Z"⟩ ∈ vW := se_wsl 17 (by decide +kernel) (by decide +kernel)
theorem inK : ∀ w ∈ u_ws rK TK 6, w ∈ vW := by decide +kernel
theorem tyK : ∀ k, k < 6 → parseFieldDescriptor (TK k).2.2.1 = some (yK k) := by decide +kernel
theorem nmK : ∀ a, a < 6 → ∀ b, b < 6 → a ≠ b → (TK a).2.1 ≠ (TK b).2.1 := by decide +kernel
theorem inV : ∀ w ∈ u_ws rV TV 16, w ∈ vW := by decide +kernel
theorem tyV : ∀ k, k < 16 → parseFieldDescriptor (TV k).2.2.1 = some (yV k) := by decide +kernel
theorem nmV : ∀ a, a < 16 → ∀ b, b < 16 → a ≠ b → (TV a).2.1 ≠ (TV b).2.1 := by decide +kernel
theorem inC : ∀ w ∈ u_ws rC TC 8, w ∈ vW := by decide +kernel
theorem tyC : ∀ k, k < 8 → parseFieldDescriptor (TC k).2.2.1 = some (yC k) := by decide +kernel
theorem nmC : ∀ a, a < 8 → ∀ b, b < 8 → a ≠ b → (TC a).2.1 ≠ (TC b).2.1 := by decide +kernel
theorem inR : ∀ w ∈ u_ws rR TR 29, w ∈ vW := by decide +kernel
theorem tyR : ∀ k, k < 29 → parseFieldDescriptor (TR k).2.2.1 = some (yR k) := by decide +kernel
theorem nmR : ∀ a, a < 29 → ∀ b, b < 29 → a ≠ b → (TR a).2.1 ≠ (TR b).2.1 := by decide +kernel
/-- words that are no good words but stay -/
def vN1 : List Cond := [(Jvm.Cond.arrayOver (Jvm.ClassFile.FieldType.object "VehicleChecks$Kind")), (Jvm.Cond.methodLinkNest "VehicleChecks" (15 : Nat) ({ cls := "VehicleChecks$Kind", name := "<init>", desc := "()V" } : Jvm.MethodName) "VehicleChecks"), (Jvm.Cond.arrayOver (Jvm.ClassFile.FieldType.object "VehicleChecks$Vehicle")), (Jvm.Cond.castable "java/lang/IllegalArgumentException" "java/lang/IllegalArgumentException"), (Jvm.Cond.declares ({ cls := "java/lang/RuntimeException", name := "<init>", desc := "()V" } : Jvm.MethodName)), (Jvm.Cond.declares ({ cls := "java/lang/RuntimeException", name := "<init>", desc := "(Ljava/lang/String;)V" } : Jvm.MethodName)), (Jvm.Cond.declares ({ cls := "java/lang/Exception", name := "<init>", desc := "()V" } : Jvm.MethodName)), (Jvm.Cond.declares ({ cls := "java/lang/Exception", name := "<init>", desc := "(Ljava/lang/String;)V" } : Jvm.MethodName)), (Jvm.Cond.declares ({ cls := "java/lang/Throwable", name := "<init>", desc := "()V" } : Jvm.MethodName)), (Jvm.Cond.declares ({ cls := "java/lang/Throwable", name := "<init>", desc := "(Ljava/lang/String;)V" } : Jvm.MethodName)), (Jvm.Cond.castable "java/lang/UnsupportedOperationException" "java/lang/UnsupportedOperationException"), (Jvm.Cond.castable "java/lang/IndexOutOfBoundsException" "java/lang/IndexOutOfBoundsException"), (Jvm.Cond.castable "java/lang/IllegalStateException" "java/lang/IllegalStateException")]
def vN2 : List Cond := [Cond.not (.castable "java/lang/IllegalArgumentException" "java/lang/IndexOutOfBoundsException"), Cond.not (.castable "java/lang/IllegalArgumentException" "java/lang/IllegalStateException"), Cond.not (.castable "java/lang/IllegalArgumentException" "java/lang/UnsupportedOperationException"), Cond.not (.castable "java/lang/IndexOutOfBoundsException" "java/lang/IllegalArgumentException"), Cond.not (.castable "java/lang/IndexOutOfBoundsException" "java/lang/IllegalStateException"), Cond.not (.castable "java/lang/IndexOutOfBoundsException" "java/lang/UnsupportedOperationException"), Cond.not (.castable "java/lang/IllegalStateException" "java/lang/IllegalArgumentException"), Cond.not (.castable "java/lang/IllegalStateException" "java/lang/IndexOutOfBoundsException"), Cond.not (.castable "java/lang/IllegalStateException" "java/lang/UnsupportedOperationException"), Cond.not (.castable "java/lang/UnsupportedOperationException" "java/lang/IllegalArgumentException"), Cond.not (.castable "java/lang/UnsupportedOperationException" "java/lang/IndexOutOfBoundsException"), Cond.not (.castable "java/lang/UnsupportedOperationException" "java/lang/IllegalStateException")]
def vN : List Cond := vN1 ++ vN2
theorem se_warmC {E nm : String} {s U : State} (hW : s.WarmedH U.vm) (hZ : va_Nw (.castable E nm) s) : va_Nw (.castable E nm) U := va_tabs rfl (rfl : (s.setVm U.vm).vm = U.vm) (by rw [Cond.castable_setVm hW.alike]; exact hZ)
theorem se_warmN {E nm : String} {s U : State} (hW : s.WarmedH U.vm) (hZ : va_Nw (.not (.castable E nm)) s) : va_Nw (.not (.castable E nm)) U := by
  obtain ⟨c, t, h1, h2, h3⟩ := va_Nc.moved hW.alike (va_Nc.of hZ)
  show (Cond.not (.castable E nm)).before #[] U = true
  simp [Cond.before, Cond.holds, Cond.value, h1, h2, h3]
theorem at_IllegalArgumentException : ∀ w ∈ vx_atS "VehicleChecks" 118 "java/lang/IllegalArgumentException" ["java/lang/RuntimeException", "java/lang/Exception"], w ∈ vW ∨ (w ∈ vN1 ∧ w.onTables = true) := by decide +kernel
theorem at_IndexOutOfBoundsException : ∀ w ∈ vx_atS "VehicleChecks" 234 "java/lang/IndexOutOfBoundsException" ["java/lang/RuntimeException", "java/lang/Exception"], w ∈ vW ∨ (w ∈ vN1 ∧ w.onTables = true) := by decide +kernel
theorem at_IllegalStateException : ∀ w ∈ vx_atS "VehicleChecks" 128 "java/lang/IllegalStateException" ["java/lang/RuntimeException", "java/lang/Exception"], w ∈ vW ∨ (w ∈ vN1 ∧ w.onTables = true) := by decide +kernel
theorem at_UnsupportedOperationException : ∀ w ∈ vx_atS "VehicleChecks" 44 "java/lang/UnsupportedOperationException" ["java/lang/RuntimeException", "java/lang/Exception"], w ∈ vW ∨ (w ∈ vN1 ∧ w.onTables = true) := by decide +kernel
end
section
theorem dK_init_0 : decode mK_init.2.1 0 = .ok (.aload_n 0, 1) := by decide +kernel
theorem dK_init_1 : decode mK_init.2.1 1 = .ok (.invokespecial 3, 3) := by decide +kernel
theorem dK_init_4 : decode mK_init.2.1 4 = .ok (.aload_n 0, 1) := by decide +kernel
theorem dK_init_5 : decode mK_init.2.1 5 = .ok (.bipush 10, 2) := by decide +kernel
theorem dK_init_7 : decode mK_init.2.1 7 = .ok (.newarray .boolean, 2) := by decide +kernel
theorem dK_init_9 : decode mK_init.2.1 9 = .ok (.putfield 9, 3) := by decide +kernel
theorem dK_init_12 : decode mK_init.2.1 12 = .ok (.aload_n 0, 1) := by decide +kernel
theorem dK_init_13 : decode mK_init.2.1 13 = .ok (.bipush 10, 2) := by decide +kernel
theorem dK_init_15 : decode mK_init.2.1 15 = .ok (.newarray .int, 2) := by decide +kernel
theorem dK_init_17 : decode mK_init.2.1 17 = .ok (.putfield 15, 3) := by decide +kernel
theorem dK_init_20 : decode mK_init.2.1 20 = .ok (.aload_n 0, 1) := by decide +kernel
theorem dK_init_21 : decode mK_init.2.1 21 = .ok (.bipush 10, 2) := by decide +kernel
theorem dK_init_23 : decode mK_init.2.1 23 = .ok (.newarray .int, 2) := by decide +kernel
theorem dK_init_25 : decode mK_init.2.1 25 = .ok (.putfield 19, 3) := by decide +kernel
theorem dK_init_28 : decode mK_init.2.1 28 = .ok (.aload_n 0, 1) := by decide +kernel
theorem dK_init_29 : decode mK_init.2.1 29 = .ok (.bipush 10, 2) := by decide +kernel
theorem dK_init_31 : decode mK_init.2.1 31 = .ok (.newarray .int, 2) := by decide +kernel
theorem dK_init_33 : decode mK_init.2.1 33 = .ok (.putfield 22, 3) := by decide +kernel
theorem dK_init_36 : decode mK_init.2.1 36 = .ok (.aload_n 0, 1) := by decide +kernel
theorem dK_init_37 : decode mK_init.2.1 37 = .ok (.bipush 10, 2) := by decide +kernel
theorem dK_init_39 : decode mK_init.2.1 39 = .ok (.newarray .int, 2) := by decide +kernel
theorem dK_init_41 : decode mK_init.2.1 41 = .ok (.putfield 25, 3) := by decide +kernel
theorem dK_init_44 : decode mK_init.2.1 44 = .ok (.aload_n 0, 1) := by decide +kernel
theorem dK_init_45 : decode mK_init.2.1 45 = .ok (.bipush 10, 2) := by decide +kernel
theorem dK_init_47 : decode mK_init.2.1 47 = .ok (.newarray .int, 2) := by decide +kernel
theorem dK_init_49 : decode mK_init.2.1 49 = .ok (.putfield 28, 3) := by decide +kernel
theorem dK_init_52 : decode mK_init.2.1 52 = .ok (.return_, 1) := by decide +kernel
theorem dK_enter_0 : decode mK_enter.2.1 0 = .ok (.aload_n 0, 1) := by decide +kernel
theorem dK_enter_1 : decode mK_enter.2.1 1 = .ok (.getfield 9, 3) := by decide +kernel
theorem dK_enter_4 : decode mK_enter.2.1 4 = .ok (.iload_n 1, 1) := by decide +kernel
theorem dK_enter_5 : decode mK_enter.2.1 5 = .ok (.iconst 1, 1) := by decide +kernel
theorem dK_enter_6 : decode mK_enter.2.1 6 = .ok (.bastore, 1) := by decide +kernel
theorem dK_enter_7 : decode mK_enter.2.1 7 = .ok (.aload_n 0, 1) := by decide +kernel
theorem dK_enter_8 : decode mK_enter.2.1 8 = .ok (.getfield 15, 3) := by decide +kernel
theorem dK_enter_11 : decode mK_enter.2.1 11 = .ok (.iload_n 1, 1) := by decide +kernel
theorem dK_enter_12 : decode mK_enter.2.1 12 = .ok (.iload_n 2, 1) := by decide +kernel
theorem dK_enter_13 : decode mK_enter.2.1 13 = .ok (.iastore, 1) := by decide +kernel
theorem dK_enter_14 : decode mK_enter.2.1 14 = .ok (.aload_n 0, 1) := by decide +kernel
theorem dK_enter_15 : decode mK_enter.2.1 15 = .ok (.getfield 19, 3) := by decide +kernel
theorem dK_enter_18 : decode mK_enter.2.1 18 = .ok (.iload_n 1, 1) := by decide +kernel
theorem dK_enter_19 : decode mK_enter.2.1 19 = .ok (.iload_n 3, 1) := by decide +kernel
theorem dK_enter_20 : decode mK_enter.2.1 20 = .ok (.iastore, 1) := by decide +kernel
theorem dK_enter_21 : decode mK_enter.2.1 21 = .ok (.aload_n 0, 1) := by decide +kernel
theorem dK_enter_22 : decode mK_enter.2.1 22 = .ok (.getfield 22, 3) := by decide +kernel
theorem dK_enter_25 : decode mK_enter.2.1 25 = .ok (.iload_n 1, 1) := by decide +kernel
theorem dK_enter_26 : decode mK_enter.2.1 26 = .ok (.iload 4, 2) := by decide +kernel
theorem dK_enter_28 : decode mK_enter.2.1 28 = .ok (.iastore, 1) := by decide +kernel
theorem dK_enter_29 : decode mK_enter.2.1 29 = .ok (.aload_n 0, 1) := by decide +kernel
theorem dK_enter_30 : decode mK_enter.2.1 30 = .ok (.getfield 25, 3) := by decide +kernel
theorem dK_enter_33 : decode mK_enter.2.1 33 = .ok (.iload_n 1, 1) := by decide +kernel
theorem dK_enter_34 : decode mK_enter.2.1 34 = .ok (.iload 5, 2) := by decide +kernel
theorem dK_enter_36 : decode mK_enter.2.1 36 = .ok (.iastore, 1) := by decide +kernel
theorem dK_enter_37 : decode mK_enter.2.1 37 = .ok (.return_, 1) := by decide +kernel
theorem dK_isWithin_0 : decode mK_isWithin.2.1 0 = .ok (.iload_n 2, 1) := by decide +kernel
theorem dK_isWithin_1 : decode mK_isWithin.2.1 1 = .ok (.aload_n 0, 1) := by decide +kernel
theorem dK_isWithin_2 : decode mK_isWithin.2.1 2 = .ok (.getfield 15, 3) := by decide +kernel
theorem dK_isWithin_5 : decode mK_isWithin.2.1 5 = .ok (.iload_n 1, 1) := by decide +kernel
theorem dK_isWithin_6 : decode mK_isWithin.2.1 6 = .ok (.iaload, 1) := by decide +kernel
theorem dK_isWithin_7 : decode mK_isWithin.2.1 7 = .ok (.if_icmp .lt 17, 3) := by decide +kernel
theorem dK_isWithin_10 : decode mK_isWithin.2.1 10 = .ok (.iload_n 2, 1) := by decide +kernel
theorem dK_isWithin_11 : decode mK_isWithin.2.1 11 = .ok (.aload_n 0, 1) := by decide +kernel
theorem dK_isWithin_12 : decode mK_isWithin.2.1 12 = .ok (.getfield 19, 3) := by decide +kernel
theorem dK_isWithin_15 : decode mK_isWithin.2.1 15 = .ok (.iload_n 1, 1) := by decide +kernel
theorem dK_isWithin_16 : decode mK_isWithin.2.1 16 = .ok (.iaload, 1) := by decide +kernel
theorem dK_isWithin_17 : decode mK_isWithin.2.1 17 = .ok (.if_icmp .gt 7, 3) := by decide +kernel
theorem dK_isWithin_20 : decode mK_isWithin.2.1 20 = .ok (.iconst 1, 1) := by decide +kernel
theorem dK_isWithin_21 : decode mK_isWithin.2.1 21 = .ok (.goto 4, 3) := by decide +kernel
theorem dK_isWithin_24 : decode mK_isWithin.2.1 24 = .ok (.iconst 0, 1) := by decide +kernel
theorem dK_isWithin_25 : decode mK_isWithin.2.1 25 = .ok (.ireturn, 1) := by decide +kernel
theorem dV_init_0 : decode mV_init.2.1 0 = .ok (.aload_n 0, 1) := by decide +kernel
theorem dV_init_1 : decode mV_init.2.1 1 = .ok (.invokespecial 3, 3) := by decide +kernel
theorem dV_init_4 : decode mV_init.2.1 4 = .ok (.aload_n 0, 1) := by decide +kernel
theorem dV_init_5 : decode mV_init.2.1 5 = .ok (.bipush 10, 2) := by decide +kernel
theorem dV_init_7 : decode mV_init.2.1 7 = .ok (.newarray .int, 2) := by decide +kernel
theorem dV_init_9 : decode mV_init.2.1 9 = .ok (.putfield 9, 3) := by decide +kernel
theorem dV_init_12 : decode mV_init.2.1 12 = .ok (.aload_n 0, 1) := by decide +kernel
theorem dV_init_13 : decode mV_init.2.1 13 = .ok (.bipush 10, 2) := by decide +kernel
theorem dV_init_15 : decode mV_init.2.1 15 = .ok (.newarray .int, 2) := by decide +kernel
theorem dV_init_17 : decode mV_init.2.1 17 = .ok (.putfield 15, 3) := by decide +kernel
theorem dV_init_20 : decode mV_init.2.1 20 = .ok (.aload_n 0, 1) := by decide +kernel
theorem dV_init_21 : decode mV_init.2.1 21 = .ok (.bipush 10, 2) := by decide +kernel
theorem dV_init_23 : decode mV_init.2.1 23 = .ok (.newarray .int, 2) := by decide +kernel
theorem dV_init_25 : decode mV_init.2.1 25 = .ok (.putfield 18, 3) := by decide +kernel
theorem dV_init_28 : decode mV_init.2.1 28 = .ok (.aload_n 0, 1) := by decide +kernel
theorem dV_init_29 : decode mV_init.2.1 29 = .ok (.bipush 10, 2) := by decide +kernel
theorem dV_init_31 : decode mV_init.2.1 31 = .ok (.newarray .int, 2) := by decide +kernel
theorem dV_init_33 : decode mV_init.2.1 33 = .ok (.putfield 21, 3) := by decide +kernel
theorem dV_init_36 : decode mV_init.2.1 36 = .ok (.aload_n 0, 1) := by decide +kernel
theorem dV_init_37 : decode mV_init.2.1 37 = .ok (.bipush 10, 2) := by decide +kernel
theorem dV_init_39 : decode mV_init.2.1 39 = .ok (.newarray .int, 2) := by decide +kernel
theorem dV_init_41 : decode mV_init.2.1 41 = .ok (.putfield 24, 3) := by decide +kernel
theorem dV_init_44 : decode mV_init.2.1 44 = .ok (.aload_n 0, 1) := by decide +kernel
theorem dV_init_45 : decode mV_init.2.1 45 = .ok (.iload_n 1, 1) := by decide +kernel
theorem dV_init_46 : decode mV_init.2.1 46 = .ok (.putfield 27, 3) := by decide +kernel
theorem dV_init_49 : decode mV_init.2.1 49 = .ok (.aload_n 0, 1) := by decide +kernel
theorem dV_init_50 : decode mV_init.2.1 50 = .ok (.aload_n 2, 1) := by decide +kernel
theorem dV_init_51 : decode mV_init.2.1 51 = .ok (.putfield 31, 3) := by decide +kernel
theorem dV_init_54 : decode mV_init.2.1 54 = .ok (.aload_n 0, 1) := by decide +kernel
theorem dV_init_55 : decode mV_init.2.1 55 = .ok (.iload_n 3, 1) := by decide +kernel
theorem dV_init_56 : decode mV_init.2.1 56 = .ok (.putfield 35, 3) := by decide +kernel
theorem dV_init_59 : decode mV_init.2.1 59 = .ok (.aload_n 0, 1) := by decide +kernel
theorem dV_init_60 : decode mV_init.2.1 60 = .ok (.iload 4, 2) := by decide +kernel
theorem dV_init_62 : decode mV_init.2.1 62 = .ok (.putfield 39, 3) := by decide +kernel
theorem dV_init_65 : decode mV_init.2.1 65 = .ok (.aload_n 0, 1) := by decide +kernel
theorem dV_init_66 : decode mV_init.2.1 66 = .ok (.iconst (-1), 1) := by decide +kernel
theorem dV_init_67 : decode mV_init.2.1 67 = .ok (.putfield 42, 3) := by decide +kernel
theorem dV_init_70 : decode mV_init.2.1 70 = .ok (.iconst 0, 1) := by decide +kernel
theorem dV_init_71 : decode mV_init.2.1 71 = .ok (.istore 5, 2) := by decide +kernel
theorem dV_init_73 : decode mV_init.2.1 73 = .ok (.iload 5, 2) := by decide +kernel
theorem dV_init_75 : decode mV_init.2.1 75 = .ok (.bipush 10, 2) := by decide +kernel
theorem dV_init_77 : decode mV_init.2.1 77 = .ok (.if_icmp .ge 25, 3) := by decide +kernel
theorem dV_init_80 : decode mV_init.2.1 80 = .ok (.aload_n 0, 1) := by decide +kernel
theorem dV_init_81 : decode mV_init.2.1 81 = .ok (.getfield 18, 3) := by decide +kernel
theorem dV_init_84 : decode mV_init.2.1 84 = .ok (.iload 5, 2) := by decide +kernel
theorem dV_init_86 : decode mV_init.2.1 86 = .ok (.iconst (-1), 1) := by decide +kernel
theorem dV_init_87 : decode mV_init.2.1 87 = .ok (.iastore, 1) := by decide +kernel
theorem dV_init_88 : decode mV_init.2.1 88 = .ok (.aload_n 0, 1) := by decide +kernel
theorem dV_init_89 : decode mV_init.2.1 89 = .ok (.getfield 21, 3) := by decide +kernel
theorem dV_init_92 : decode mV_init.2.1 92 = .ok (.iload 5, 2) := by decide +kernel
theorem dV_init_94 : decode mV_init.2.1 94 = .ok (.iconst (-1), 1) := by decide +kernel
theorem dV_init_95 : decode mV_init.2.1 95 = .ok (.iastore, 1) := by decide +kernel
theorem dV_init_96 : decode mV_init.2.1 96 = .ok (.iinc 5 1, 3) := by decide +kernel
theorem dV_init_99 : decode mV_init.2.1 99 = .ok (.goto (-26), 3) := by decide +kernel
theorem dV_init_102 : decode mV_init.2.1 102 = .ok (.return_, 1) := by decide +kernel
theorem dV_keepAnswer_0 : decode mV_keepAnswer.2.1 0 = .ok (.aload_n 0, 1) := by decide +kernel
theorem dV_keepAnswer_1 : decode mV_keepAnswer.2.1 1 = .ok (.getfield 15, 3) := by decide +kernel
theorem dV_keepAnswer_4 : decode mV_keepAnswer.2.1 4 = .ok (.iload_n 1, 1) := by decide +kernel
theorem dV_keepAnswer_5 : decode mV_keepAnswer.2.1 5 = .ok (.iload_n 2, 1) := by decide +kernel
theorem dV_keepAnswer_6 : decode mV_keepAnswer.2.1 6 = .ok (.iastore, 1) := by decide +kernel
theorem dV_keepAnswer_7 : decode mV_keepAnswer.2.1 7 = .ok (.aload_n 0, 1) := by decide +kernel
theorem dV_keepAnswer_8 : decode mV_keepAnswer.2.1 8 = .ok (.getfield 18, 3) := by decide +kernel
theorem dV_keepAnswer_11 : decode mV_keepAnswer.2.1 11 = .ok (.iload_n 1, 1) := by decide +kernel
theorem dV_keepAnswer_12 : decode mV_keepAnswer.2.1 12 = .ok (.iload_n 3, 1) := by decide +kernel
theorem dV_keepAnswer_13 : decode mV_keepAnswer.2.1 13 = .ok (.iastore, 1) := by decide +kernel
theorem dV_keepAnswer_14 : decode mV_keepAnswer.2.1 14 = .ok (.aload_n 0, 1) := by decide +kernel
theorem dV_keepAnswer_15 : decode mV_keepAnswer.2.1 15 = .ok (.getfield 21, 3) := by decide +kernel
theorem dV_keepAnswer_18 : decode mV_keepAnswer.2.1 18 = .ok (.iload_n 1, 1) := by decide +kernel
theorem dV_keepAnswer_19 : decode mV_keepAnswer.2.1 19 = .ok (.iload 4, 2) := by decide +kernel
theorem dV_keepAnswer_21 : decode mV_keepAnswer.2.1 21 = .ok (.iastore, 1) := by decide +kernel
theorem dV_keepAnswer_22 : decode mV_keepAnswer.2.1 22 = .ok (.aload_n 0, 1) := by decide +kernel
theorem dV_keepAnswer_23 : decode mV_keepAnswer.2.1 23 = .ok (.getfield 24, 3) := by decide +kernel
theorem dV_keepAnswer_26 : decode mV_keepAnswer.2.1 26 = .ok (.iload_n 1, 1) := by decide +kernel
theorem dV_keepAnswer_27 : decode mV_keepAnswer.2.1 27 = .ok (.aload_n 0, 1) := by decide +kernel
theorem dV_keepAnswer_28 : decode mV_keepAnswer.2.1 28 = .ok (.getfield 45, 3) := by decide +kernel
theorem dV_keepAnswer_31 : decode mV_keepAnswer.2.1 31 = .ok (.iastore, 1) := by decide +kernel
theorem dV_keepAnswer_32 : decode mV_keepAnswer.2.1 32 = .ok (.return_, 1) := by decide +kernel
theorem dV_hasFailed_0 : decode mV_hasFailed.2.1 0 = .ok (.aload_n 0, 1) := by decide +kernel
theorem dV_hasFailed_1 : decode mV_hasFailed.2.1 1 = .ok (.getfield 31, 3) := by decide +kernel
theorem dV_hasFailed_4 : decode mV_hasFailed.2.1 4 = .ok (.getfield 54, 3) := by decide +kernel
theorem dV_hasFailed_7 : decode mV_hasFailed.2.1 7 = .ok (.iload_n 1, 1) := by decide +kernel
theorem dV_hasFailed_8 : decode mV_hasFailed.2.1 8 = .ok (.baload, 1) := by decide +kernel
theorem dV_hasFailed_9 : decode mV_hasFailed.2.1 9 = .ok (.ifCond .eq 34, 3) := by decide +kernel
theorem dV_hasFailed_12 : decode mV_hasFailed.2.1 12 = .ok (.aload_n 0, 1) := by decide +kernel
theorem dV_hasFailed_13 : decode mV_hasFailed.2.1 13 = .ok (.getfield 18, 3) := by decide +kernel
theorem dV_hasFailed_16 : decode mV_hasFailed.2.1 16 = .ok (.iload_n 1, 1) := by decide +kernel
theorem dV_hasFailed_17 : decode mV_hasFailed.2.1 17 = .ok (.iaload, 1) := by decide +kernel
theorem dV_hasFailed_18 : decode mV_hasFailed.2.1 18 = .ok (.iconst (-1), 1) := by decide +kernel
theorem dV_hasFailed_19 : decode mV_hasFailed.2.1 19 = .ok (.if_icmp .eq 24, 3) := by decide +kernel
theorem dV_hasFailed_22 : decode mV_hasFailed.2.1 22 = .ok (.aload_n 0, 1) := by decide +kernel
theorem dV_hasFailed_23 : decode mV_hasFailed.2.1 23 = .ok (.getfield 31, 3) := by decide +kernel
theorem dV_hasFailed_26 : decode mV_hasFailed.2.1 26 = .ok (.iload_n 1, 1) := by decide +kernel
theorem dV_hasFailed_27 : decode mV_hasFailed.2.1 27 = .ok (.aload_n 0, 1) := by decide +kernel
theorem dV_hasFailed_28 : decode mV_hasFailed.2.1 28 = .ok (.getfield 15, 3) := by decide +kernel
theorem dV_hasFailed_31 : decode mV_hasFailed.2.1 31 = .ok (.iload_n 1, 1) := by decide +kernel
theorem dV_hasFailed_32 : decode mV_hasFailed.2.1 32 = .ok (.iaload, 1) := by decide +kernel
theorem dV_hasFailed_33 : decode mV_hasFailed.2.1 33 = .ok (.invokevirtual 60, 3) := by decide +kernel
theorem dV_hasFailed_36 : decode mV_hasFailed.2.1 36 = .ok (.ifCond .ne 7, 3) := by decide +kernel
theorem dV_hasFailed_39 : decode mV_hasFailed.2.1 39 = .ok (.iconst 1, 1) := by decide +kernel
theorem dV_hasFailed_40 : decode mV_hasFailed.2.1 40 = .ok (.goto 4, 3) := by decide +kernel
theorem dV_hasFailed_43 : decode mV_hasFailed.2.1 43 = .ok (.iconst 0, 1) := by decide +kernel
theorem dV_hasFailed_44 : decode mV_hasFailed.2.1 44 = .ok (.ireturn, 1) := by decide +kernel
theorem dV_hasSkipped_0 : decode mV_hasSkipped.2.1 0 = .ok (.aload_n 0, 1) := by decide +kernel
theorem dV_hasSkipped_1 : decode mV_hasSkipped.2.1 1 = .ok (.getfield 31, 3) := by decide +kernel
theorem dV_hasSkipped_4 : decode mV_hasSkipped.2.1 4 = .ok (.getfield 54, 3) := by decide +kernel
theorem dV_hasSkipped_7 : decode mV_hasSkipped.2.1 7 = .ok (.iload_n 1, 1) := by decide +kernel
theorem dV_hasSkipped_8 : decode mV_hasSkipped.2.1 8 = .ok (.baload, 1) := by decide +kernel
theorem dV_hasSkipped_9 : decode mV_hasSkipped.2.1 9 = .ok (.ifCond .ne 5, 3) := by decide +kernel
theorem dV_hasSkipped_12 : decode mV_hasSkipped.2.1 12 = .ok (.iconst 0, 1) := by decide +kernel
theorem dV_hasSkipped_13 : decode mV_hasSkipped.2.1 13 = .ok (.ireturn, 1) := by decide +kernel
theorem dV_hasSkipped_14 : decode mV_hasSkipped.2.1 14 = .ok (.aload_n 0, 1) := by decide +kernel
theorem dV_hasSkipped_15 : decode mV_hasSkipped.2.1 15 = .ok (.getfield 31, 3) := by decide +kernel
theorem dV_hasSkipped_18 : decode mV_hasSkipped.2.1 18 = .ok (.getfield 64, 3) := by decide +kernel
theorem dV_hasSkipped_21 : decode mV_hasSkipped.2.1 21 = .ok (.iload_n 1, 1) := by decide +kernel
theorem dV_hasSkipped_22 : decode mV_hasSkipped.2.1 22 = .ok (.iaload, 1) := by decide +kernel
theorem dV_hasSkipped_23 : decode mV_hasSkipped.2.1 23 = .ok (.ifCond .ne 22, 3) := by decide +kernel
theorem dV_hasSkipped_26 : decode mV_hasSkipped.2.1 26 = .ok (.aload_n 0, 1) := by decide +kernel
theorem dV_hasSkipped_27 : decode mV_hasSkipped.2.1 27 = .ok (.getfield 45, 3) := by decide +kernel
theorem dV_hasSkipped_30 : decode mV_hasSkipped.2.1 30 = .ok (.aload_n 0, 1) := by decide +kernel
theorem dV_hasSkipped_31 : decode mV_hasSkipped.2.1 31 = .ok (.getfield 24, 3) := by decide +kernel
theorem dV_hasSkipped_34 : decode mV_hasSkipped.2.1 34 = .ok (.iload_n 1, 1) := by decide +kernel
theorem dV_hasSkipped_35 : decode mV_hasSkipped.2.1 35 = .ok (.iaload, 1) := by decide +kernel
theorem dV_hasSkipped_36 : decode mV_hasSkipped.2.1 36 = .ok (.if_icmp .eq 7, 3) := by decide +kernel
theorem dV_hasSkipped_39 : decode mV_hasSkipped.2.1 39 = .ok (.iconst 1, 1) := by decide +kernel
theorem dV_hasSkipped_40 : decode mV_hasSkipped.2.1 40 = .ok (.goto 4, 3) := by decide +kernel
theorem dV_hasSkipped_43 : decode mV_hasSkipped.2.1 43 = .ok (.iconst 0, 1) := by decide +kernel
theorem dV_hasSkipped_44 : decode mV_hasSkipped.2.1 44 = .ok (.ireturn, 1) := by decide +kernel
theorem dV_hasSkipped_45 : decode mV_hasSkipped.2.1 45 = .ok (.aload_n 0, 1) := by decide +kernel
theorem dV_hasSkipped_46 : decode mV_hasSkipped.2.1 46 = .ok (.getfield 18, 3) := by decide +kernel
theorem dV_hasSkipped_49 : decode mV_hasSkipped.2.1 49 = .ok (.iload_n 1, 1) := by decide +kernel
theorem dV_hasSkipped_50 : decode mV_hasSkipped.2.1 50 = .ok (.iaload, 1) := by decide +kernel
theorem dV_hasSkipped_51 : decode mV_hasSkipped.2.1 51 = .ok (.iconst (-1), 1) := by decide +kernel
theorem dV_hasSkipped_52 : decode mV_hasSkipped.2.1 52 = .ok (.if_icmp .ne 10, 3) := by decide +kernel
theorem dV_hasSkipped_55 : decode mV_hasSkipped.2.1 55 = .ok (.aload_n 0, 1) := by decide +kernel
theorem dV_hasSkipped_56 : decode mV_hasSkipped.2.1 56 = .ok (.getfield 39, 3) := by decide +kernel
theorem dV_hasSkipped_59 : decode mV_hasSkipped.2.1 59 = .ok (.goto 9, 3) := by decide +kernel
theorem dV_hasSkipped_62 : decode mV_hasSkipped.2.1 62 = .ok (.aload_n 0, 1) := by decide +kernel
theorem dV_hasSkipped_63 : decode mV_hasSkipped.2.1 63 = .ok (.getfield 18, 3) := by decide +kernel
theorem dV_hasSkipped_66 : decode mV_hasSkipped.2.1 66 = .ok (.iload_n 1, 1) := by decide +kernel
theorem dV_hasSkipped_67 : decode mV_hasSkipped.2.1 67 = .ok (.iaload, 1) := by decide +kernel
theorem dV_hasSkipped_68 : decode mV_hasSkipped.2.1 68 = .ok (.istore_n 3, 1) := by decide +kernel
theorem dV_hasSkipped_69 : decode mV_hasSkipped.2.1 69 = .ok (.iload_n 2, 1) := by decide +kernel
theorem dV_hasSkipped_70 : decode mV_hasSkipped.2.1 70 = .ok (.iload_n 3, 1) := by decide +kernel
theorem dV_hasSkipped_71 : decode mV_hasSkipped.2.1 71 = .ok (.isub, 1) := by decide +kernel
theorem dV_hasSkipped_72 : decode mV_hasSkipped.2.1 72 = .ok (.aload_n 0, 1) := by decide +kernel
theorem dV_hasSkipped_73 : decode mV_hasSkipped.2.1 73 = .ok (.getfield 31, 3) := by decide +kernel
theorem dV_hasSkipped_76 : decode mV_hasSkipped.2.1 76 = .ok (.getfield 64, 3) := by decide +kernel
theorem dV_hasSkipped_79 : decode mV_hasSkipped.2.1 79 = .ok (.iload_n 1, 1) := by decide +kernel
theorem dV_hasSkipped_80 : decode mV_hasSkipped.2.1 80 = .ok (.iaload, 1) := by decide +kernel
theorem dV_hasSkipped_81 : decode mV_hasSkipped.2.1 81 = .ok (.if_icmp .lt 7, 3) := by decide +kernel
theorem dV_hasSkipped_84 : decode mV_hasSkipped.2.1 84 = .ok (.iconst 1, 1) := by decide +kernel
theorem dV_hasSkipped_85 : decode mV_hasSkipped.2.1 85 = .ok (.goto 4, 3) := by decide +kernel
theorem dV_hasSkipped_88 : decode mV_hasSkipped.2.1 88 = .ok (.iconst 0, 1) := by decide +kernel
theorem dV_hasSkipped_89 : decode mV_hasSkipped.2.1 89 = .ok (.ireturn, 1) := by decide +kernel
theorem dV_checksWeight_0 : decode mV_checksWeight.2.1 0 = .ok (.iconst 0, 1) := by decide +kernel
theorem dV_checksWeight_1 : decode mV_checksWeight.2.1 1 = .ok (.istore_n 2, 1) := by decide +kernel
theorem dV_checksWeight_2 : decode mV_checksWeight.2.1 2 = .ok (.iconst 0, 1) := by decide +kernel
theorem dV_checksWeight_3 : decode mV_checksWeight.2.1 3 = .ok (.istore_n 3, 1) := by decide +kernel
theorem dV_checksWeight_4 : decode mV_checksWeight.2.1 4 = .ok (.iload_n 3, 1) := by decide +kernel
theorem dV_checksWeight_5 : decode mV_checksWeight.2.1 5 = .ok (.bipush 10, 2) := by decide +kernel
theorem dV_checksWeight_7 : decode mV_checksWeight.2.1 7 = .ok (.if_icmp .ge 49, 3) := by decide +kernel
theorem dV_checksWeight_10 : decode mV_checksWeight.2.1 10 = .ok (.aload_n 0, 1) := by decide +kernel
theorem dV_checksWeight_11 : decode mV_checksWeight.2.1 11 = .ok (.getfield 31, 3) := by decide +kernel
theorem dV_checksWeight_14 : decode mV_checksWeight.2.1 14 = .ok (.getfield 67, 3) := by decide +kernel
theorem dV_checksWeight_17 : decode mV_checksWeight.2.1 17 = .ok (.iload_n 3, 1) := by decide +kernel
theorem dV_checksWeight_18 : decode mV_checksWeight.2.1 18 = .ok (.iaload, 1) := by decide +kernel
theorem dV_checksWeight_19 : decode mV_checksWeight.2.1 19 = .ok (.iconst 1, 1) := by decide +kernel
theorem dV_checksWeight_20 : decode mV_checksWeight.2.1 20 = .ok (.isub, 1) := by decide +kernel
theorem dV_checksWeight_21 : decode mV_checksWeight.2.1 21 = .ok (.istore 4, 2) := by decide +kernel
theorem dV_checksWeight_23 : decode mV_checksWeight.2.1 23 = .ok (.aload_n 0, 1) := by decide +kernel
theorem dV_checksWeight_24 : decode mV_checksWeight.2.1 24 = .ok (.iload_n 3, 1) := by decide +kernel
theorem dV_checksWeight_25 : decode mV_checksWeight.2.1 25 = .ok (.invokevirtual 70, 3) := by decide +kernel
theorem dV_checksWeight_28 : decode mV_checksWeight.2.1 28 = .ok (.ifCond .eq 8, 3) := by decide +kernel
theorem dV_checksWeight_31 : decode mV_checksWeight.2.1 31 = .ok (.iload_n 2, 1) := by decide +kernel
theorem dV_checksWeight_32 : decode mV_checksWeight.2.1 32 = .ok (.iload 4, 2) := by decide +kernel
theorem dV_checksWeight_34 : decode mV_checksWeight.2.1 34 = .ok (.iadd, 1) := by decide +kernel
theorem dV_checksWeight_35 : decode mV_checksWeight.2.1 35 = .ok (.istore_n 2, 1) := by decide +kernel
theorem dV_checksWeight_36 : decode mV_checksWeight.2.1 36 = .ok (.aload_n 0, 1) := by decide +kernel
theorem dV_checksWeight_37 : decode mV_checksWeight.2.1 37 = .ok (.iload_n 3, 1) := by decide +kernel
theorem dV_checksWeight_38 : decode mV_checksWeight.2.1 38 = .ok (.iload_n 1, 1) := by decide +kernel
theorem dV_checksWeight_39 : decode mV_checksWeight.2.1 39 = .ok (.invokevirtual 74, 3) := by decide +kernel
theorem dV_checksWeight_42 : decode mV_checksWeight.2.1 42 = .ok (.ifCond .eq 8, 3) := by decide +kernel
theorem dV_checksWeight_45 : decode mV_checksWeight.2.1 45 = .ok (.iload_n 2, 1) := by decide +kernel
theorem dV_checksWeight_46 : decode mV_checksWeight.2.1 46 = .ok (.iload 4, 2) := by decide +kernel
theorem dV_checksWeight_48 : decode mV_checksWeight.2.1 48 = .ok (.iadd, 1) := by decide +kernel
theorem dV_checksWeight_49 : decode mV_checksWeight.2.1 49 = .ok (.istore_n 2, 1) := by decide +kernel
theorem dV_checksWeight_50 : decode mV_checksWeight.2.1 50 = .ok (.iinc 3 1, 3) := by decide +kernel
theorem dV_checksWeight_53 : decode mV_checksWeight.2.1 53 = .ok (.goto (-49), 3) := by decide +kernel
theorem dV_checksWeight_56 : decode mV_checksWeight.2.1 56 = .ok (.iload_n 2, 1) := by decide +kernel
theorem dV_checksWeight_57 : decode mV_checksWeight.2.1 57 = .ok (.ireturn, 1) := by decide +kernel
theorem dV_keepUse_0 : decode mV_keepUse.2.1 0 = .ok (.aload_n 0, 1) := by decide +kernel
theorem dV_keepUse_1 : decode mV_keepUse.2.1 1 = .ok (.dup, 1) := by decide +kernel
theorem dV_keepUse_2 : decode mV_keepUse.2.1 2 = .ok (.getfield 45, 3) := by decide +kernel
theorem dV_keepUse_5 : decode mV_keepUse.2.1 5 = .ok (.iconst 1, 1) := by decide +kernel
theorem dV_keepUse_6 : decode mV_keepUse.2.1 6 = .ok (.iadd, 1) := by decide +kernel
theorem dV_keepUse_7 : decode mV_keepUse.2.1 7 = .ok (.putfield 45, 3) := by decide +kernel
theorem dV_keepUse_10 : decode mV_keepUse.2.1 10 = .ok (.iload_n 1, 1) := by decide +kernel
theorem dV_keepUse_11 : decode mV_keepUse.2.1 11 = .ok (.aload_n 0, 1) := by decide +kernel
theorem dV_keepUse_12 : decode mV_keepUse.2.1 12 = .ok (.getfield 48, 3) := by decide +kernel
theorem dV_keepUse_15 : decode mV_keepUse.2.1 15 = .ok (.if_icmp .ge 15, 3) := by decide +kernel
theorem dV_keepUse_18 : decode mV_keepUse.2.1 18 = .ok (.aload_n 0, 1) := by decide +kernel
theorem dV_keepUse_19 : decode mV_keepUse.2.1 19 = .ok (.dup, 1) := by decide +kernel
theorem dV_keepUse_20 : decode mV_keepUse.2.1 20 = .ok (.getfield 51, 3) := by decide +kernel
theorem dV_keepUse_23 : decode mV_keepUse.2.1 23 = .ok (.iconst 1, 1) := by decide +kernel
theorem dV_keepUse_24 : decode mV_keepUse.2.1 24 = .ok (.iadd, 1) := by decide +kernel
theorem dV_keepUse_25 : decode mV_keepUse.2.1 25 = .ok (.putfield 51, 3) := by decide +kernel
theorem dV_keepUse_28 : decode mV_keepUse.2.1 28 = .ok (.iconst 0, 1) := by decide +kernel
theorem dV_keepUse_29 : decode mV_keepUse.2.1 29 = .ok (.ireturn, 1) := by decide +kernel
theorem dV_keepUse_30 : decode mV_keepUse.2.1 30 = .ok (.aload_n 0, 1) := by decide +kernel
theorem dV_keepUse_31 : decode mV_keepUse.2.1 31 = .ok (.iload_n 1, 1) := by decide +kernel
theorem dV_keepUse_32 : decode mV_keepUse.2.1 32 = .ok (.putfield 48, 3) := by decide +kernel
theorem dV_keepUse_35 : decode mV_keepUse.2.1 35 = .ok (.iconst 1, 1) := by decide +kernel
theorem dV_keepUse_36 : decode mV_keepUse.2.1 36 = .ok (.ireturn, 1) := by decide +kernel
theorem dV_lowestLacking_0 : decode mV_lowestLacking.2.1 0 = .ok (.iconst 0, 1) := by decide +kernel
theorem dV_lowestLacking_1 : decode mV_lowestLacking.2.1 1 = .ok (.istore_n 1, 1) := by decide +kernel
theorem dV_lowestLacking_2 : decode mV_lowestLacking.2.1 2 = .ok (.iload_n 1, 1) := by decide +kernel
theorem dV_lowestLacking_3 : decode mV_lowestLacking.2.1 3 = .ok (.bipush 10, 2) := by decide +kernel
theorem dV_lowestLacking_5 : decode mV_lowestLacking.2.1 5 = .ok (.if_icmp .ge 29, 3) := by decide +kernel
theorem dV_lowestLacking_8 : decode mV_lowestLacking.2.1 8 = .ok (.aload_n 0, 1) := by decide +kernel
theorem dV_lowestLacking_9 : decode mV_lowestLacking.2.1 9 = .ok (.getfield 9, 3) := by decide +kernel
theorem dV_lowestLacking_12 : decode mV_lowestLacking.2.1 12 = .ok (.iload_n 1, 1) := by decide +kernel
theorem dV_lowestLacking_13 : decode mV_lowestLacking.2.1 13 = .ok (.iaload, 1) := by decide +kernel
theorem dV_lowestLacking_14 : decode mV_lowestLacking.2.1 14 = .ok (.aload_n 0, 1) := by decide +kernel
theorem dV_lowestLacking_15 : decode mV_lowestLacking.2.1 15 = .ok (.getfield 31, 3) := by decide +kernel
theorem dV_lowestLacking_18 : decode mV_lowestLacking.2.1 18 = .ok (.getfield 77, 3) := by decide +kernel
theorem dV_lowestLacking_21 : decode mV_lowestLacking.2.1 21 = .ok (.iload_n 1, 1) := by decide +kernel
theorem dV_lowestLacking_22 : decode mV_lowestLacking.2.1 22 = .ok (.iaload, 1) := by decide +kernel
theorem dV_lowestLacking_23 : decode mV_lowestLacking.2.1 23 = .ok (.if_icmp .ge 5, 3) := by decide +kernel
theorem dV_lowestLacking_26 : decode mV_lowestLacking.2.1 26 = .ok (.iload_n 1, 1) := by decide +kernel
theorem dV_lowestLacking_27 : decode mV_lowestLacking.2.1 27 = .ok (.ireturn, 1) := by decide +kernel
theorem dV_lowestLacking_28 : decode mV_lowestLacking.2.1 28 = .ok (.iinc 1 1, 3) := by decide +kernel
theorem dV_lowestLacking_31 : decode mV_lowestLacking.2.1 31 = .ok (.goto (-29), 3) := by decide +kernel
theorem dV_lowestLacking_34 : decode mV_lowestLacking.2.1 34 = .ok (.iconst (-1), 1) := by decide +kernel
theorem dV_lowestLacking_35 : decode mV_lowestLacking.2.1 35 = .ok (.ireturn, 1) := by decide +kernel
theorem dC_init_0 : decode mC_init.2.1 0 = .ok (.aload_n 0, 1) := by decide +kernel
theorem dC_init_1 : decode mC_init.2.1 1 = .ok (.invokespecial 1, 3) := by decide +kernel
theorem dC_init_4 : decode mC_init.2.1 4 = .ok (.aload_n 0, 1) := by decide +kernel
theorem dC_init_5 : decode mC_init.2.1 5 = .ok (.iconst 5, 1) := by decide +kernel
theorem dC_init_6 : decode mC_init.2.1 6 = .ok (.anewarray 9, 3) := by decide +kernel
theorem dC_init_9 : decode mC_init.2.1 9 = .ok (.putfield 11, 3) := by decide +kernel
theorem dC_init_12 : decode mC_init.2.1 12 = .ok (.iconst 0, 1) := by decide +kernel
theorem dC_init_13 : decode mC_init.2.1 13 = .ok (.istore_n 1, 1) := by decide +kernel
theorem dC_init_14 : decode mC_init.2.1 14 = .ok (.iload_n 1, 1) := by decide +kernel
theorem dC_init_15 : decode mC_init.2.1 15 = .ok (.iconst 5, 1) := by decide +kernel
theorem dC_init_16 : decode mC_init.2.1 16 = .ok (.if_icmp .ge 22, 3) := by decide +kernel
theorem dC_init_19 : decode mC_init.2.1 19 = .ok (.aload_n 0, 1) := by decide +kernel
theorem dC_init_20 : decode mC_init.2.1 20 = .ok (.getfield 11, 3) := by decide +kernel
theorem dC_init_23 : decode mC_init.2.1 23 = .ok (.iload_n 1, 1) := by decide +kernel
theorem dC_init_24 : decode mC_init.2.1 24 = .ok (.new 9, 3) := by decide +kernel
theorem dC_init_27 : decode mC_init.2.1 27 = .ok (.dup, 1) := by decide +kernel
theorem dC_init_28 : decode mC_init.2.1 28 = .ok (.invokespecial 15, 3) := by decide +kernel
theorem dC_init_31 : decode mC_init.2.1 31 = .ok (.aastore, 1) := by decide +kernel
theorem dC_init_32 : decode mC_init.2.1 32 = .ok (.iinc 1 1, 3) := by decide +kernel
theorem dC_init_35 : decode mC_init.2.1 35 = .ok (.goto (-21), 3) := by decide +kernel
theorem dC_init_38 : decode mC_init.2.1 38 = .ok (.aload_n 0, 1) := by decide +kernel
theorem dC_init_39 : decode mC_init.2.1 39 = .ok (.bipush 20, 2) := by decide +kernel
theorem dC_init_41 : decode mC_init.2.1 41 = .ok (.anewarray 16, 3) := by decide +kernel
theorem dC_init_44 : decode mC_init.2.1 44 = .ok (.putfield 18, 3) := by decide +kernel
theorem dC_init_47 : decode mC_init.2.1 47 = .ok (.aload_n 0, 1) := by decide +kernel
theorem dC_init_48 : decode mC_init.2.1 48 = .ok (.bipush 100, 2) := by decide +kernel
theorem dC_init_50 : decode mC_init.2.1 50 = .ok (.newarray .int, 2) := by decide +kernel
theorem dC_init_52 : decode mC_init.2.1 52 = .ok (.putfield 22, 3) := by decide +kernel
theorem dC_init_55 : decode mC_init.2.1 55 = .ok (.aload_n 0, 1) := by decide +kernel
theorem dC_init_56 : decode mC_init.2.1 56 = .ok (.bipush 100, 2) := by decide +kernel
theorem dC_init_58 : decode mC_init.2.1 58 = .ok (.newarray .int, 2) := by decide +kernel
theorem dC_init_60 : decode mC_init.2.1 60 = .ok (.putfield 26, 3) := by decide +kernel
theorem dC_init_63 : decode mC_init.2.1 63 = .ok (.aload_n 0, 1) := by decide +kernel
theorem dC_init_64 : decode mC_init.2.1 64 = .ok (.bipush 100, 2) := by decide +kernel
theorem dC_init_66 : decode mC_init.2.1 66 = .ok (.newarray .int, 2) := by decide +kernel
theorem dC_init_68 : decode mC_init.2.1 68 = .ok (.putfield 29, 3) := by decide +kernel
theorem dC_init_71 : decode mC_init.2.1 71 = .ok (.return_, 1) := by decide +kernel
theorem dC_vehicle_0 : decode mC_vehicle.2.1 0 = .ok (.aload_n 0, 1) := by decide +kernel
theorem dC_vehicle_1 : decode mC_vehicle.2.1 1 = .ok (.iload_n 1, 1) := by decide +kernel
theorem dC_vehicle_2 : decode mC_vehicle.2.1 2 = .ok (.invokevirtual 32, 3) := by decide +kernel
theorem dC_vehicle_5 : decode mC_vehicle.2.1 5 = .ok (.astore_n 3, 1) := by decide +kernel
theorem dC_vehicle_6 : decode mC_vehicle.2.1 6 = .ok (.aload_n 0, 1) := by decide +kernel
theorem dC_vehicle_7 : decode mC_vehicle.2.1 7 = .ok (.getfield 36, 3) := by decide +kernel
theorem dC_vehicle_10 : decode mC_vehicle.2.1 10 = .ok (.bipush 20, 2) := by decide +kernel
theorem dC_vehicle_12 : decode mC_vehicle.2.1 12 = .ok (.if_icmp .lt 13, 3) := by decide +kernel
theorem dC_vehicle_15 : decode mC_vehicle.2.1 15 = .ok (.new 40, 3) := by decide +kernel
theorem dC_vehicle_18 : decode mC_vehicle.2.1 18 = .ok (.dup, 1) := by decide +kernel
theorem dC_vehicle_19 : decode mC_vehicle.2.1 19 = .ok (.ldc 42, 2) := by decide +kernel
theorem dC_vehicle_21 : decode mC_vehicle.2.1 21 = .ok (.invokespecial 44, 3) := by decide +kernel
theorem dC_vehicle_24 : decode mC_vehicle.2.1 24 = .ok (.athrow, 1) := by decide +kernel
theorem dC_vehicle_25 : decode mC_vehicle.2.1 25 = .ok (.aload_n 0, 1) := by decide +kernel
theorem dC_vehicle_26 : decode mC_vehicle.2.1 26 = .ok (.getfield 36, 3) := by decide +kernel
theorem dC_vehicle_29 : decode mC_vehicle.2.1 29 = .ok (.istore 4, 2) := by decide +kernel
theorem dC_vehicle_31 : decode mC_vehicle.2.1 31 = .ok (.aload_n 0, 1) := by decide +kernel
theorem dC_vehicle_32 : decode mC_vehicle.2.1 32 = .ok (.getfield 18, 3) := by decide +kernel
theorem dC_vehicle_35 : decode mC_vehicle.2.1 35 = .ok (.iload 4, 2) := by decide +kernel
theorem dC_vehicle_37 : decode mC_vehicle.2.1 37 = .ok (.new 16, 3) := by decide +kernel
theorem dC_vehicle_40 : decode mC_vehicle.2.1 40 = .ok (.dup, 1) := by decide +kernel
theorem dC_vehicle_41 : decode mC_vehicle.2.1 41 = .ok (.iload 4, 2) := by decide +kernel
theorem dC_vehicle_43 : decode mC_vehicle.2.1 43 = .ok (.aload_n 3, 1) := by decide +kernel
theorem dC_vehicle_44 : decode mC_vehicle.2.1 44 = .ok (.iload_n 2, 1) := by decide +kernel
theorem dC_vehicle_45 : decode mC_vehicle.2.1 45 = .ok (.aload_n 0, 1) := by decide +kernel
theorem dC_vehicle_46 : decode mC_vehicle.2.1 46 = .ok (.getfield 47, 3) := by decide +kernel
theorem dC_vehicle_49 : decode mC_vehicle.2.1 49 = .ok (.invokespecial 50, 3) := by decide +kernel
theorem dC_vehicle_52 : decode mC_vehicle.2.1 52 = .ok (.aastore, 1) := by decide +kernel
theorem dC_vehicle_53 : decode mC_vehicle.2.1 53 = .ok (.aload_n 0, 1) := by decide +kernel
theorem dC_vehicle_54 : decode mC_vehicle.2.1 54 = .ok (.dup, 1) := by decide +kernel
theorem dC_vehicle_55 : decode mC_vehicle.2.1 55 = .ok (.getfield 36, 3) := by decide +kernel
theorem dC_vehicle_58 : decode mC_vehicle.2.1 58 = .ok (.iconst 1, 1) := by decide +kernel
theorem dC_vehicle_59 : decode mC_vehicle.2.1 59 = .ok (.iadd, 1) := by decide +kernel
theorem dC_vehicle_60 : decode mC_vehicle.2.1 60 = .ok (.putfield 36, 3) := by decide +kernel
theorem dC_vehicle_63 : decode mC_vehicle.2.1 63 = .ok (.iload 4, 2) := by decide +kernel
theorem dC_vehicle_65 : decode mC_vehicle.2.1 65 = .ok (.ireturn, 1) := by decide +kernel
theorem dC_knownKind_0 : decode mC_knownKind.2.1 0 = .ok (.iload_n 1, 1) := by decide +kernel
theorem dC_knownKind_1 : decode mC_knownKind.2.1 1 = .ok (.ifCond .lt 17, 3) := by decide +kernel
theorem dC_knownKind_4 : decode mC_knownKind.2.1 4 = .ok (.iload_n 1, 1) := by decide +kernel
theorem dC_knownKind_5 : decode mC_knownKind.2.1 5 = .ok (.iconst 5, 1) := by decide +kernel
theorem dC_knownKind_6 : decode mC_knownKind.2.1 6 = .ok (.if_icmp .ge 12, 3) := by decide +kernel
theorem dC_knownKind_9 : decode mC_knownKind.2.1 9 = .ok (.aload_n 0, 1) := by decide +kernel
theorem dC_knownKind_10 : decode mC_knownKind.2.1 10 = .ok (.getfield 11, 3) := by decide +kernel
theorem dC_knownKind_13 : decode mC_knownKind.2.1 13 = .ok (.iload_n 1, 1) := by decide +kernel
theorem dC_knownKind_14 : decode mC_knownKind.2.1 14 = .ok (.aaload, 1) := by decide +kernel
theorem dC_knownKind_15 : decode mC_knownKind.2.1 15 = .ok (.ifnonnull 13, 3) := by decide +kernel
theorem dC_knownKind_18 : decode mC_knownKind.2.1 18 = .ok (.new 114, 3) := by decide +kernel
theorem dC_knownKind_21 : decode mC_knownKind.2.1 21 = .ok (.dup, 1) := by decide +kernel
theorem dC_knownKind_22 : decode mC_knownKind.2.1 22 = .ok (.ldc 220, 2) := by decide +kernel
theorem dC_knownKind_24 : decode mC_knownKind.2.1 24 = .ok (.invokespecial 118, 3) := by decide +kernel
theorem dC_knownKind_27 : decode mC_knownKind.2.1 27 = .ok (.athrow, 1) := by decide +kernel
theorem dC_knownKind_28 : decode mC_knownKind.2.1 28 = .ok (.aload_n 0, 1) := by decide +kernel
theorem dC_knownKind_29 : decode mC_knownKind.2.1 29 = .ok (.getfield 11, 3) := by decide +kernel
theorem dC_knownKind_32 : decode mC_knownKind.2.1 32 = .ok (.iload_n 1, 1) := by decide +kernel
theorem dC_knownKind_33 : decode mC_knownKind.2.1 33 = .ok (.aaload, 1) := by decide +kernel
theorem dC_knownKind_34 : decode mC_knownKind.2.1 34 = .ok (.areturn, 1) := by decide +kernel
theorem dC_list_0 : decode mC_list.2.1 0 = .ok (.aload_n 0, 1) := by decide +kernel
theorem dC_list_1 : decode mC_list.2.1 1 = .ok (.iload_n 1, 1) := by decide +kernel
theorem dC_list_2 : decode mC_list.2.1 2 = .ok (.invokevirtual 32, 3) := by decide +kernel
theorem dC_list_5 : decode mC_list.2.1 5 = .ok (.astore 7, 2) := by decide +kernel
theorem dC_list_7 : decode mC_list.2.1 7 = .ok (.iload_n 2, 1) := by decide +kernel
theorem dC_list_8 : decode mC_list.2.1 8 = .ok (.invokestatic 53, 3) := by decide +kernel
theorem dC_list_11 : decode mC_list.2.1 11 = .ok (.iload_n 3, 1) := by decide +kernel
theorem dC_list_12 : decode mC_list.2.1 12 = .ok (.sipush (-9999), 3) := by decide +kernel
theorem dC_list_15 : decode mC_list.2.1 15 = .ok (.sipush 9999, 3) := by decide +kernel
theorem dC_list_18 : decode mC_list.2.1 18 = .ok (.invokestatic 57, 3) := by decide +kernel
theorem dC_list_21 : decode mC_list.2.1 21 = .ok (.iload 4, 2) := by decide +kernel
theorem dC_list_23 : decode mC_list.2.1 23 = .ok (.iload_n 3, 1) := by decide +kernel
theorem dC_list_24 : decode mC_list.2.1 24 = .ok (.sipush 9999, 3) := by decide +kernel
theorem dC_list_27 : decode mC_list.2.1 27 = .ok (.invokestatic 57, 3) := by decide +kernel
theorem dC_list_30 : decode mC_list.2.1 30 = .ok (.iload 5, 2) := by decide +kernel
theorem dC_list_32 : decode mC_list.2.1 32 = .ok (.iconst 1, 1) := by decide +kernel
theorem dC_list_33 : decode mC_list.2.1 33 = .ok (.iconst 3, 1) := by decide +kernel
theorem dC_list_34 : decode mC_list.2.1 34 = .ok (.invokestatic 57, 3) := by decide +kernel
theorem dC_list_37 : decode mC_list.2.1 37 = .ok (.iload 6, 2) := by decide +kernel
theorem dC_list_39 : decode mC_list.2.1 39 = .ok (.iconst 0, 1) := by decide +kernel
theorem dC_list_40 : decode mC_list.2.1 40 = .ok (.sipush 5000, 3) := by decide +kernel
theorem dC_list_43 : decode mC_list.2.1 43 = .ok (.invokestatic 57, 3) := by decide +kernel
theorem dC_list_46 : decode mC_list.2.1 46 = .ok (.aload 7, 2) := by decide +kernel
theorem dC_list_48 : decode mC_list.2.1 48 = .ok (.iload_n 2, 1) := by decide +kernel
theorem dC_list_49 : decode mC_list.2.1 49 = .ok (.iload_n 3, 1) := by decide +kernel
theorem dC_list_50 : decode mC_list.2.1 50 = .ok (.iload 4, 2) := by decide +kernel
theorem dC_list_52 : decode mC_list.2.1 52 = .ok (.iload 5, 2) := by decide +kernel
theorem dC_list_54 : decode mC_list.2.1 54 = .ok (.iload 6, 2) := by decide +kernel
theorem dC_list_56 : decode mC_list.2.1 56 = .ok (.invokevirtual 61, 3) := by decide +kernel
theorem dC_list_59 : decode mC_list.2.1 59 = .ok (.return_, 1) := by decide +kernel
theorem dC_checkItem_0 : decode mC_checkItem.2.1 0 = .ok (.iload_n 0, 1) := by decide +kernel
theorem dC_checkItem_1 : decode mC_checkItem.2.1 1 = .ok (.ifCond .lt 9, 3) := by decide +kernel
theorem dC_checkItem_4 : decode mC_checkItem.2.1 4 = .ok (.iload_n 0, 1) := by decide +kernel
theorem dC_checkItem_5 : decode mC_checkItem.2.1 5 = .ok (.bipush 10, 2) := by decide +kernel
theorem dC_checkItem_7 : decode mC_checkItem.2.1 7 = .ok (.if_icmp .lt 13, 3) := by decide +kernel
theorem dC_checkItem_10 : decode mC_checkItem.2.1 10 = .ok (.new 114, 3) := by decide +kernel
theorem dC_checkItem_13 : decode mC_checkItem.2.1 13 = .ok (.dup, 1) := by decide +kernel
theorem dC_checkItem_14 : decode mC_checkItem.2.1 14 = .ok (.ldc 224, 2) := by decide +kernel
theorem dC_checkItem_16 : decode mC_checkItem.2.1 16 = .ok (.invokespecial 118, 3) := by decide +kernel
theorem dC_checkItem_19 : decode mC_checkItem.2.1 19 = .ok (.athrow, 1) := by decide +kernel
theorem dC_checkItem_20 : decode mC_checkItem.2.1 20 = .ok (.return_, 1) := by decide +kernel
theorem dC_checkRange_0 : decode mC_checkRange.2.1 0 = .ok (.iload_n 0, 1) := by decide +kernel
theorem dC_checkRange_1 : decode mC_checkRange.2.1 1 = .ok (.iload_n 1, 1) := by decide +kernel
theorem dC_checkRange_2 : decode mC_checkRange.2.1 2 = .ok (.if_icmp .lt 8, 3) := by decide +kernel
theorem dC_checkRange_5 : decode mC_checkRange.2.1 5 = .ok (.iload_n 0, 1) := by decide +kernel
theorem dC_checkRange_6 : decode mC_checkRange.2.1 6 = .ok (.iload_n 2, 1) := by decide +kernel
theorem dC_checkRange_7 : decode mC_checkRange.2.1 7 = .ok (.if_icmp .le 13, 3) := by decide +kernel
theorem dC_checkRange_10 : decode mC_checkRange.2.1 10 = .ok (.new 230, 3) := by decide +kernel
theorem dC_checkRange_13 : decode mC_checkRange.2.1 13 = .ok (.dup, 1) := by decide +kernel
theorem dC_checkRange_14 : decode mC_checkRange.2.1 14 = .ok (.ldc 232, 2) := by decide +kernel
theorem dC_checkRange_16 : decode mC_checkRange.2.1 16 = .ok (.invokespecial 234, 3) := by decide +kernel
theorem dC_checkRange_19 : decode mC_checkRange.2.1 19 = .ok (.athrow, 1) := by decide +kernel
theorem dC_checkRange_20 : decode mC_checkRange.2.1 20 = .ok (.return_, 1) := by decide +kernel
theorem dC_unlist_0 : decode mC_unlist.2.1 0 = .ok (.aload_n 0, 1) := by decide +kernel
theorem dC_unlist_1 : decode mC_unlist.2.1 1 = .ok (.iload_n 1, 1) := by decide +kernel
theorem dC_unlist_2 : decode mC_unlist.2.1 2 = .ok (.invokevirtual 32, 3) := by decide +kernel
theorem dC_unlist_5 : decode mC_unlist.2.1 5 = .ok (.astore_n 3, 1) := by decide +kernel
theorem dC_unlist_6 : decode mC_unlist.2.1 6 = .ok (.iload_n 2, 1) := by decide +kernel
theorem dC_unlist_7 : decode mC_unlist.2.1 7 = .ok (.invokestatic 53, 3) := by decide +kernel
theorem dC_unlist_10 : decode mC_unlist.2.1 10 = .ok (.aload_n 3, 1) := by decide +kernel
theorem dC_unlist_11 : decode mC_unlist.2.1 11 = .ok (.iload_n 2, 1) := by decide +kernel
theorem dC_unlist_12 : decode mC_unlist.2.1 12 = .ok (.invokestatic 65, 3) := by decide +kernel
theorem dC_unlist_15 : decode mC_unlist.2.1 15 = .ok (.aload_n 3, 1) := by decide +kernel
theorem dC_unlist_16 : decode mC_unlist.2.1 16 = .ok (.getfield 69, 3) := by decide +kernel
theorem dC_unlist_19 : decode mC_unlist.2.1 19 = .ok (.iload_n 2, 1) := by decide +kernel
theorem dC_unlist_20 : decode mC_unlist.2.1 20 = .ok (.iconst 0, 1) := by decide +kernel
theorem dC_unlist_21 : decode mC_unlist.2.1 21 = .ok (.bastore, 1) := by decide +kernel
theorem dC_unlist_22 : decode mC_unlist.2.1 22 = .ok (.return_, 1) := by decide +kernel
theorem dC_checkListed_0 : decode mC_checkListed.2.1 0 = .ok (.aload_n 0, 1) := by decide +kernel
theorem dC_checkListed_1 : decode mC_checkListed.2.1 1 = .ok (.getfield 69, 3) := by decide +kernel
theorem dC_checkListed_4 : decode mC_checkListed.2.1 4 = .ok (.iload_n 1, 1) := by decide +kernel
theorem dC_checkListed_5 : decode mC_checkListed.2.1 5 = .ok (.baload, 1) := by decide +kernel
theorem dC_checkListed_6 : decode mC_checkListed.2.1 6 = .ok (.ifCond .ne 13, 3) := by decide +kernel
theorem dC_checkListed_9 : decode mC_checkListed.2.1 9 = .ok (.new 124, 3) := by decide +kernel
theorem dC_checkListed_12 : decode mC_checkListed.2.1 12 = .ok (.dup, 1) := by decide +kernel
theorem dC_checkListed_13 : decode mC_checkListed.2.1 13 = .ok (.ldc 237, 2) := by decide +kernel
theorem dC_checkListed_15 : decode mC_checkListed.2.1 15 = .ok (.invokespecial 128, 3) := by decide +kernel
theorem dC_checkListed_18 : decode mC_checkListed.2.1 18 = .ok (.athrow, 1) := by decide +kernel
theorem dC_checkListed_19 : decode mC_checkListed.2.1 19 = .ok (.return_, 1) := by decide +kernel
theorem dC_answer_0 : decode mC_answer.2.1 0 = .ok (.aload_n 0, 1) := by decide +kernel
theorem dC_answer_1 : decode mC_answer.2.1 1 = .ok (.iload_n 1, 1) := by decide +kernel
theorem dC_answer_2 : decode mC_answer.2.1 2 = .ok (.invokevirtual 73, 3) := by decide +kernel
theorem dC_answer_5 : decode mC_answer.2.1 5 = .ok (.astore 5, 2) := by decide +kernel
theorem dC_answer_7 : decode mC_answer.2.1 7 = .ok (.iload_n 2, 1) := by decide +kernel
theorem dC_answer_8 : decode mC_answer.2.1 8 = .ok (.invokestatic 53, 3) := by decide +kernel
theorem dC_answer_11 : decode mC_answer.2.1 11 = .ok (.iload 4, 2) := by decide +kernel
theorem dC_answer_13 : decode mC_answer.2.1 13 = .ok (.invokestatic 77, 3) := by decide +kernel
theorem dC_answer_16 : decode mC_answer.2.1 16 = .ok (.iload_n 3, 1) := by decide +kernel
theorem dC_answer_17 : decode mC_answer.2.1 17 = .ok (.ldc 80, 2) := by decide +kernel
theorem dC_answer_19 : decode mC_answer.2.1 19 = .ok (.ldc 81, 2) := by decide +kernel
theorem dC_answer_21 : decode mC_answer.2.1 21 = .ok (.invokestatic 57, 3) := by decide +kernel
theorem dC_answer_24 : decode mC_answer.2.1 24 = .ok (.aload 5, 2) := by decide +kernel
theorem dC_answer_26 : decode mC_answer.2.1 26 = .ok (.getfield 82, 3) := by decide +kernel
theorem dC_answer_29 : decode mC_answer.2.1 29 = .ok (.iload_n 2, 1) := by decide +kernel
theorem dC_answer_30 : decode mC_answer.2.1 30 = .ok (.invokestatic 65, 3) := by decide +kernel
theorem dC_answer_33 : decode mC_answer.2.1 33 = .ok (.aload 5, 2) := by decide +kernel
theorem dC_answer_35 : decode mC_answer.2.1 35 = .ok (.iload_n 2, 1) := by decide +kernel
theorem dC_answer_36 : decode mC_answer.2.1 36 = .ok (.iload_n 3, 1) := by decide +kernel
theorem dC_answer_37 : decode mC_answer.2.1 37 = .ok (.aload_n 0, 1) := by decide +kernel
theorem dC_answer_38 : decode mC_answer.2.1 38 = .ok (.getfield 47, 3) := by decide +kernel
theorem dC_answer_41 : decode mC_answer.2.1 41 = .ok (.iload 4, 2) := by decide +kernel
theorem dC_answer_43 : decode mC_answer.2.1 43 = .ok (.invokevirtual 86, 3) := by decide +kernel
theorem dC_answer_46 : decode mC_answer.2.1 46 = .ok (.aload 5, 2) := by decide +kernel
theorem dC_answer_48 : decode mC_answer.2.1 48 = .ok (.getfield 82, 3) := by decide +kernel
theorem dC_answer_51 : decode mC_answer.2.1 51 = .ok (.iload_n 2, 1) := by decide +kernel
theorem dC_answer_52 : decode mC_answer.2.1 52 = .ok (.iload_n 3, 1) := by decide +kernel
theorem dC_answer_53 : decode mC_answer.2.1 53 = .ok (.invokevirtual 90, 3) := by decide +kernel
theorem dC_answer_56 : decode mC_answer.2.1 56 = .ok (.ireturn, 1) := by decide +kernel
theorem dC_knownVehicle_0 : decode mC_knownVehicle.2.1 0 = .ok (.iload_n 1, 1) := by decide +kernel
theorem dC_knownVehicle_1 : decode mC_knownVehicle.2.1 1 = .ok (.ifCond .lt 18, 3) := by decide +kernel
theorem dC_knownVehicle_4 : decode mC_knownVehicle.2.1 4 = .ok (.iload_n 1, 1) := by decide +kernel
theorem dC_knownVehicle_5 : decode mC_knownVehicle.2.1 5 = .ok (.bipush 20, 2) := by decide +kernel
theorem dC_knownVehicle_7 : decode mC_knownVehicle.2.1 7 = .ok (.if_icmp .ge 12, 3) := by decide +kernel
theorem dC_knownVehicle_10 : decode mC_knownVehicle.2.1 10 = .ok (.aload_n 0, 1) := by decide +kernel
theorem dC_knownVehicle_11 : decode mC_knownVehicle.2.1 11 = .ok (.getfield 18, 3) := by decide +kernel
theorem dC_knownVehicle_14 : decode mC_knownVehicle.2.1 14 = .ok (.iload_n 1, 1) := by decide +kernel
theorem dC_knownVehicle_15 : decode mC_knownVehicle.2.1 15 = .ok (.aaload, 1) := by decide +kernel
theorem dC_knownVehicle_16 : decode mC_knownVehicle.2.1 16 = .ok (.ifnonnull 13, 3) := by decide +kernel
theorem dC_knownVehicle_19 : decode mC_knownVehicle.2.1 19 = .ok (.new 114, 3) := by decide +kernel
theorem dC_knownVehicle_22 : decode mC_knownVehicle.2.1 22 = .ok (.dup, 1) := by decide +kernel
theorem dC_knownVehicle_23 : decode mC_knownVehicle.2.1 23 = .ok (.ldc 222, 2) := by decide +kernel
theorem dC_knownVehicle_25 : decode mC_knownVehicle.2.1 25 = .ok (.invokespecial 118, 3) := by decide +kernel
theorem dC_knownVehicle_28 : decode mC_knownVehicle.2.1 28 = .ok (.athrow, 1) := by decide +kernel
theorem dC_knownVehicle_29 : decode mC_knownVehicle.2.1 29 = .ok (.aload_n 0, 1) := by decide +kernel
theorem dC_knownVehicle_30 : decode mC_knownVehicle.2.1 30 = .ok (.getfield 18, 3) := by decide +kernel
theorem dC_knownVehicle_33 : decode mC_knownVehicle.2.1 33 = .ok (.iload_n 1, 1) := by decide +kernel
theorem dC_knownVehicle_34 : decode mC_knownVehicle.2.1 34 = .ok (.aaload, 1) := by decide +kernel
theorem dC_knownVehicle_35 : decode mC_knownVehicle.2.1 35 = .ok (.areturn, 1) := by decide +kernel
theorem dC_checkPerson_0 : decode mC_checkPerson.2.1 0 = .ok (.iload_n 0, 1) := by decide +kernel
theorem dC_checkPerson_1 : decode mC_checkPerson.2.1 1 = .ok (.ifCond .lt 9, 3) := by decide +kernel
theorem dC_checkPerson_4 : decode mC_checkPerson.2.1 4 = .ok (.iload_n 0, 1) := by decide +kernel
theorem dC_checkPerson_5 : decode mC_checkPerson.2.1 5 = .ok (.bipush 40, 2) := by decide +kernel
theorem dC_checkPerson_7 : decode mC_checkPerson.2.1 7 = .ok (.if_icmp .lt 13, 3) := by decide +kernel
theorem dC_checkPerson_10 : decode mC_checkPerson.2.1 10 = .ok (.new 114, 3) := by decide +kernel
theorem dC_checkPerson_13 : decode mC_checkPerson.2.1 13 = .ok (.dup, 1) := by decide +kernel
theorem dC_checkPerson_14 : decode mC_checkPerson.2.1 14 = .ok (.ldc 228, 2) := by decide +kernel
theorem dC_checkPerson_16 : decode mC_checkPerson.2.1 16 = .ok (.invokespecial 118, 3) := by decide +kernel
theorem dC_checkPerson_19 : decode mC_checkPerson.2.1 19 = .ok (.athrow, 1) := by decide +kernel
theorem dC_checkPerson_20 : decode mC_checkPerson.2.1 20 = .ok (.return_, 1) := by decide +kernel
theorem dC_item_0 : decode mC_item.2.1 0 = .ok (.aload_n 0, 1) := by decide +kernel
theorem dC_item_1 : decode mC_item.2.1 1 = .ok (.iload_n 1, 1) := by decide +kernel
theorem dC_item_2 : decode mC_item.2.1 2 = .ok (.invokevirtual 73, 3) := by decide +kernel
theorem dC_item_5 : decode mC_item.2.1 5 = .ok (.astore 4, 2) := by decide +kernel
theorem dC_item_7 : decode mC_item.2.1 7 = .ok (.iload_n 2, 1) := by decide +kernel
theorem dC_item_8 : decode mC_item.2.1 8 = .ok (.invokestatic 53, 3) := by decide +kernel
theorem dC_item_11 : decode mC_item.2.1 11 = .ok (.iload_n 3, 1) := by decide +kernel
theorem dC_item_12 : decode mC_item.2.1 12 = .ok (.tableswitch 102 0 5 #[40, 54, 62, 70, 78, 88], 40) := by decide +kernel
theorem dC_item_52 : decode mC_item.2.1 52 = .ok (.aload 4, 2) := by decide +kernel
theorem dC_item_54 : decode mC_item.2.1 54 = .ok (.getfield 82, 3) := by decide +kernel
theorem dC_item_57 : decode mC_item.2.1 57 = .ok (.getfield 69, 3) := by decide +kernel
theorem dC_item_60 : decode mC_item.2.1 60 = .ok (.iload_n 2, 1) := by decide +kernel
theorem dC_item_61 : decode mC_item.2.1 61 = .ok (.baload, 1) := by decide +kernel
theorem dC_item_62 : decode mC_item.2.1 62 = .ok (.invokestatic 94, 3) := by decide +kernel
theorem dC_item_65 : decode mC_item.2.1 65 = .ok (.ireturn, 1) := by decide +kernel
theorem dC_item_66 : decode mC_item.2.1 66 = .ok (.aload 4, 2) := by decide +kernel
theorem dC_item_68 : decode mC_item.2.1 68 = .ok (.getfield 98, 3) := by decide +kernel
theorem dC_item_71 : decode mC_item.2.1 71 = .ok (.iload_n 2, 1) := by decide +kernel
theorem dC_item_72 : decode mC_item.2.1 72 = .ok (.iaload, 1) := by decide +kernel
theorem dC_item_73 : decode mC_item.2.1 73 = .ok (.ireturn, 1) := by decide +kernel
theorem dC_item_74 : decode mC_item.2.1 74 = .ok (.aload 4, 2) := by decide +kernel
theorem dC_item_76 : decode mC_item.2.1 76 = .ok (.getfield 101, 3) := by decide +kernel
theorem dC_item_79 : decode mC_item.2.1 79 = .ok (.iload_n 2, 1) := by decide +kernel
theorem dC_item_80 : decode mC_item.2.1 80 = .ok (.iaload, 1) := by decide +kernel
theorem dC_item_81 : decode mC_item.2.1 81 = .ok (.ireturn, 1) := by decide +kernel
theorem dC_item_82 : decode mC_item.2.1 82 = .ok (.aload 4, 2) := by decide +kernel
theorem dC_item_84 : decode mC_item.2.1 84 = .ok (.getfield 104, 3) := by decide +kernel
theorem dC_item_87 : decode mC_item.2.1 87 = .ok (.iload_n 2, 1) := by decide +kernel
theorem dC_item_88 : decode mC_item.2.1 88 = .ok (.iaload, 1) := by decide +kernel
theorem dC_item_89 : decode mC_item.2.1 89 = .ok (.ireturn, 1) := by decide +kernel
theorem dC_item_90 : decode mC_item.2.1 90 = .ok (.aload 4, 2) := by decide +kernel
theorem dC_item_92 : decode mC_item.2.1 92 = .ok (.iload_n 2, 1) := by decide +kernel
theorem dC_item_93 : decode mC_item.2.1 93 = .ok (.invokevirtual 107, 3) := by decide +kernel
theorem dC_item_96 : decode mC_item.2.1 96 = .ok (.invokestatic 94, 3) := by decide +kernel
theorem dC_item_99 : decode mC_item.2.1 99 = .ok (.ireturn, 1) := by decide +kernel
theorem dC_item_100 : decode mC_item.2.1 100 = .ok (.aload 4, 2) := by decide +kernel
theorem dC_item_102 : decode mC_item.2.1 102 = .ok (.iload_n 2, 1) := by decide +kernel
theorem dC_item_103 : decode mC_item.2.1 103 = .ok (.aload_n 0, 1) := by decide +kernel
theorem dC_item_104 : decode mC_item.2.1 104 = .ok (.getfield 47, 3) := by decide +kernel
theorem dC_item_107 : decode mC_item.2.1 107 = .ok (.invokevirtual 111, 3) := by decide +kernel
theorem dC_item_110 : decode mC_item.2.1 110 = .ok (.invokestatic 94, 3) := by decide +kernel
theorem dC_item_113 : decode mC_item.2.1 113 = .ok (.ireturn, 1) := by decide +kernel
theorem dC_item_114 : decode mC_item.2.1 114 = .ok (.new 114, 3) := by decide +kernel
theorem dC_item_117 : decode mC_item.2.1 117 = .ok (.dup, 1) := by decide +kernel
theorem dC_item_118 : decode mC_item.2.1 118 = .ok (.ldc 116, 2) := by decide +kernel
theorem dC_item_120 : decode mC_item.2.1 120 = .ok (.invokespecial 118, 3) := by decide +kernel
theorem dC_item_123 : decode mC_item.2.1 123 = .ok (.athrow, 1) := by decide +kernel
theorem dC_oneOrZero_0 : decode mC_oneOrZero.2.1 0 = .ok (.iload_n 0, 1) := by decide +kernel
theorem dC_oneOrZero_1 : decode mC_oneOrZero.2.1 1 = .ok (.ifCond .eq 7, 3) := by decide +kernel
theorem dC_oneOrZero_4 : decode mC_oneOrZero.2.1 4 = .ok (.iconst 1, 1) := by decide +kernel
theorem dC_oneOrZero_5 : decode mC_oneOrZero.2.1 5 = .ok (.goto 4, 3) := by decide +kernel
theorem dC_oneOrZero_8 : decode mC_oneOrZero.2.1 8 = .ok (.iconst 0, 1) := by decide +kernel
theorem dC_oneOrZero_9 : decode mC_oneOrZero.2.1 9 = .ok (.ireturn, 1) := by decide +kernel
theorem dC_use_0 : decode mC_use.2.1 0 = .ok (.aload_n 0, 1) := by decide +kernel
theorem dC_use_1 : decode mC_use.2.1 1 = .ok (.iload_n 1, 1) := by decide +kernel
theorem dC_use_2 : decode mC_use.2.1 2 = .ok (.invokevirtual 73, 3) := by decide +kernel
theorem dC_use_5 : decode mC_use.2.1 5 = .ok (.astore_n 3, 1) := by decide +kernel
theorem dC_use_6 : decode mC_use.2.1 6 = .ok (.iload_n 2, 1) := by decide +kernel
theorem dC_use_7 : decode mC_use.2.1 7 = .ok (.iconst 0, 1) := by decide +kernel
theorem dC_use_8 : decode mC_use.2.1 8 = .ok (.ldc 119, 2) := by decide +kernel
theorem dC_use_10 : decode mC_use.2.1 10 = .ok (.invokestatic 57, 3) := by decide +kernel
theorem dC_use_13 : decode mC_use.2.1 13 = .ok (.aload_n 0, 1) := by decide +kernel
theorem dC_use_14 : decode mC_use.2.1 14 = .ok (.aload_n 3, 1) := by decide +kernel
theorem dC_use_15 : decode mC_use.2.1 15 = .ok (.invokevirtual 120, 3) := by decide +kernel
theorem dC_use_18 : decode mC_use.2.1 18 = .ok (.ifCond .ne 13, 3) := by decide +kernel
theorem dC_use_21 : decode mC_use.2.1 21 = .ok (.new 124, 3) := by decide +kernel
theorem dC_use_24 : decode mC_use.2.1 24 = .ok (.dup, 1) := by decide +kernel
theorem dC_use_25 : decode mC_use.2.1 25 = .ok (.ldc 126, 2) := by decide +kernel
theorem dC_use_27 : decode mC_use.2.1 27 = .ok (.invokespecial 128, 3) := by decide +kernel
theorem dC_use_30 : decode mC_use.2.1 30 = .ok (.athrow, 1) := by decide +kernel
theorem dC_use_31 : decode mC_use.2.1 31 = .ok (.aload_n 3, 1) := by decide +kernel
theorem dC_use_32 : decode mC_use.2.1 32 = .ok (.iload_n 2, 1) := by decide +kernel
theorem dC_use_33 : decode mC_use.2.1 33 = .ok (.invokevirtual 129, 3) := by decide +kernel
theorem dC_use_36 : decode mC_use.2.1 36 = .ok (.ireturn, 1) := by decide +kernel
theorem dC_canRun_0 : decode mC_canRun.2.1 0 = .ok (.aload_n 1, 1) := by decide +kernel
theorem dC_canRun_1 : decode mC_canRun.2.1 1 = .ok (.getfield 142, 3) := by decide +kernel
theorem dC_canRun_4 : decode mC_canRun.2.1 4 = .ok (.ifCond .ne 25, 3) := by decide +kernel
theorem dC_canRun_7 : decode mC_canRun.2.1 7 = .ok (.aload_n 1, 1) := by decide +kernel
theorem dC_canRun_8 : decode mC_canRun.2.1 8 = .ok (.aload_n 0, 1) := by decide +kernel
theorem dC_canRun_9 : decode mC_canRun.2.1 9 = .ok (.getfield 47, 3) := by decide +kernel
theorem dC_canRun_12 : decode mC_canRun.2.1 12 = .ok (.invokevirtual 246, 3) := by decide +kernel
theorem dC_canRun_15 : decode mC_canRun.2.1 15 = .ok (.aload_n 0, 1) := by decide +kernel
theorem dC_canRun_16 : decode mC_canRun.2.1 16 = .ok (.aload_n 1, 1) := by decide +kernel
theorem dC_canRun_17 : decode mC_canRun.2.1 17 = .ok (.invokevirtual 250, 3) := by decide +kernel
theorem dC_canRun_20 : decode mC_canRun.2.1 20 = .ok (.iadd, 1) := by decide +kernel
theorem dC_canRun_21 : decode mC_canRun.2.1 21 = .ok (.iconst 2, 1) := by decide +kernel
theorem dC_canRun_22 : decode mC_canRun.2.1 22 = .ok (.if_icmp .ge 7, 3) := by decide +kernel
theorem dC_canRun_25 : decode mC_canRun.2.1 25 = .ok (.iconst 1, 1) := by decide +kernel
theorem dC_canRun_26 : decode mC_canRun.2.1 26 = .ok (.goto 4, 3) := by decide +kernel
theorem dC_canRun_29 : decode mC_canRun.2.1 29 = .ok (.iconst 0, 1) := by decide +kernel
theorem dC_canRun_30 : decode mC_canRun.2.1 30 = .ok (.ireturn, 1) := by decide +kernel
theorem dC_damagesWeight_0 : decode mC_damagesWeight.2.1 0 = .ok (.iconst 0, 1) := by decide +kernel
theorem dC_damagesWeight_1 : decode mC_damagesWeight.2.1 1 = .ok (.istore_n 2, 1) := by decide +kernel
theorem dC_damagesWeight_2 : decode mC_damagesWeight.2.1 2 = .ok (.iconst 0, 1) := by decide +kernel
theorem dC_damagesWeight_3 : decode mC_damagesWeight.2.1 3 = .ok (.istore_n 3, 1) := by decide +kernel
theorem dC_damagesWeight_4 : decode mC_damagesWeight.2.1 4 = .ok (.iload_n 3, 1) := by decide +kernel
theorem dC_damagesWeight_5 : decode mC_damagesWeight.2.1 5 = .ok (.bipush 100, 2) := by decide +kernel
theorem dC_damagesWeight_7 : decode mC_damagesWeight.2.1 7 = .ok (.if_icmp .ge 37, 3) := by decide +kernel
theorem dC_damagesWeight_10 : decode mC_damagesWeight.2.1 10 = .ok (.iload_n 3, 1) := by decide +kernel
theorem dC_damagesWeight_11 : decode mC_damagesWeight.2.1 11 = .ok (.aload_n 0, 1) := by decide +kernel
theorem dC_damagesWeight_12 : decode mC_damagesWeight.2.1 12 = .ok (.getfield 150, 3) := by decide +kernel
theorem dC_damagesWeight_15 : decode mC_damagesWeight.2.1 15 = .ok (.if_icmp .ge 29, 3) := by decide +kernel
theorem dC_damagesWeight_18 : decode mC_damagesWeight.2.1 18 = .ok (.aload_n 0, 1) := by decide +kernel
theorem dC_damagesWeight_19 : decode mC_damagesWeight.2.1 19 = .ok (.iload_n 3, 1) := by decide +kernel
theorem dC_damagesWeight_20 : decode mC_damagesWeight.2.1 20 = .ok (.aload_n 1, 1) := by decide +kernel
theorem dC_damagesWeight_21 : decode mC_damagesWeight.2.1 21 = .ok (.invokevirtual 253, 3) := by decide +kernel
theorem dC_damagesWeight_24 : decode mC_damagesWeight.2.1 24 = .ok (.ifCond .eq 14, 3) := by decide +kernel
theorem dC_damagesWeight_27 : decode mC_damagesWeight.2.1 27 = .ok (.iload_n 2, 1) := by decide +kernel
theorem dC_damagesWeight_28 : decode mC_damagesWeight.2.1 28 = .ok (.aload_n 0, 1) := by decide +kernel
theorem dC_damagesWeight_29 : decode mC_damagesWeight.2.1 29 = .ok (.getfield 26, 3) := by decide +kernel
theorem dC_damagesWeight_32 : decode mC_damagesWeight.2.1 32 = .ok (.iload_n 3, 1) := by decide +kernel
theorem dC_damagesWeight_33 : decode mC_damagesWeight.2.1 33 = .ok (.iaload, 1) := by decide +kernel
theorem dC_damagesWeight_34 : decode mC_damagesWeight.2.1 34 = .ok (.iconst 1, 1) := by decide +kernel
theorem dC_damagesWeight_35 : decode mC_damagesWeight.2.1 35 = .ok (.isub, 1) := by decide +kernel
theorem dC_damagesWeight_36 : decode mC_damagesWeight.2.1 36 = .ok (.iadd, 1) := by decide +kernel
theorem dC_damagesWeight_37 : decode mC_damagesWeight.2.1 37 = .ok (.istore_n 2, 1) := by decide +kernel
theorem dC_damagesWeight_38 : decode mC_damagesWeight.2.1 38 = .ok (.iinc 3 1, 3) := by decide +kernel
theorem dC_damagesWeight_41 : decode mC_damagesWeight.2.1 41 = .ok (.goto (-37), 3) := by decide +kernel
theorem dC_damagesWeight_44 : decode mC_damagesWeight.2.1 44 = .ok (.iload_n 2, 1) := by decide +kernel
theorem dC_damagesWeight_45 : decode mC_damagesWeight.2.1 45 = .ok (.ireturn, 1) := by decide +kernel
theorem dC_isOpenDamage_0 : decode mC_isOpenDamage.2.1 0 = .ok (.aload_n 0, 1) := by decide +kernel
theorem dC_isOpenDamage_1 : decode mC_isOpenDamage.2.1 1 = .ok (.getfield 22, 3) := by decide +kernel
theorem dC_isOpenDamage_4 : decode mC_isOpenDamage.2.1 4 = .ok (.iload_n 1, 1) := by decide +kernel
theorem dC_isOpenDamage_5 : decode mC_isOpenDamage.2.1 5 = .ok (.iaload, 1) := by decide +kernel
theorem dC_isOpenDamage_6 : decode mC_isOpenDamage.2.1 6 = .ok (.aload_n 2, 1) := by decide +kernel
theorem dC_isOpenDamage_7 : decode mC_isOpenDamage.2.1 7 = .ok (.getfield 155, 3) := by decide +kernel
theorem dC_isOpenDamage_10 : decode mC_isOpenDamage.2.1 10 = .ok (.if_icmp .ne 16, 3) := by decide +kernel
theorem dC_isOpenDamage_13 : decode mC_isOpenDamage.2.1 13 = .ok (.aload_n 0, 1) := by decide +kernel
theorem dC_isOpenDamage_14 : decode mC_isOpenDamage.2.1 14 = .ok (.getfield 29, 3) := by decide +kernel
theorem dC_isOpenDamage_17 : decode mC_isOpenDamage.2.1 17 = .ok (.iload_n 1, 1) := by decide +kernel
theorem dC_isOpenDamage_18 : decode mC_isOpenDamage.2.1 18 = .ok (.iaload, 1) := by decide +kernel
theorem dC_isOpenDamage_19 : decode mC_isOpenDamage.2.1 19 = .ok (.ifCond .ne 7, 3) := by decide +kernel
theorem dC_isOpenDamage_22 : decode mC_isOpenDamage.2.1 22 = .ok (.iconst 1, 1) := by decide +kernel
theorem dC_isOpenDamage_23 : decode mC_isOpenDamage.2.1 23 = .ok (.goto 4, 3) := by decide +kernel
theorem dC_isOpenDamage_26 : decode mC_isOpenDamage.2.1 26 = .ok (.iconst 0, 1) := by decide +kernel
theorem dC_isOpenDamage_27 : decode mC_isOpenDamage.2.1 27 = .ok (.ireturn, 1) := by decide +kernel
theorem dC_runs_0 : decode mC_runs.2.1 0 = .ok (.aload_n 0, 1) := by decide +kernel
theorem dC_runs_1 : decode mC_runs.2.1 1 = .ok (.aload_n 0, 1) := by decide +kernel
theorem dC_runs_2 : decode mC_runs.2.1 2 = .ok (.iload_n 1, 1) := by decide +kernel
theorem dC_runs_3 : decode mC_runs.2.1 3 = .ok (.invokevirtual 73, 3) := by decide +kernel
theorem dC_runs_6 : decode mC_runs.2.1 6 = .ok (.invokevirtual 120, 3) := by decide +kernel
theorem dC_runs_9 : decode mC_runs.2.1 9 = .ok (.ireturn, 1) := by decide +kernel
theorem dC_reason_0 : decode mC_reason.2.1 0 = .ok (.aload_n 0, 1) := by decide +kernel
theorem dC_reason_1 : decode mC_reason.2.1 1 = .ok (.iload_n 1, 1) := by decide +kernel
theorem dC_reason_2 : decode mC_reason.2.1 2 = .ok (.invokevirtual 73, 3) := by decide +kernel
theorem dC_reason_5 : decode mC_reason.2.1 5 = .ok (.astore_n 3, 1) := by decide +kernel
theorem dC_reason_6 : decode mC_reason.2.1 6 = .ok (.iload_n 2, 1) := by decide +kernel
theorem dC_reason_7 : decode mC_reason.2.1 7 = .ok (.invokestatic 132, 3) := by decide +kernel
theorem dC_reason_10 : decode mC_reason.2.1 10 = .ok (.iload_n 2, 1) := by decide +kernel
theorem dC_reason_11 : decode mC_reason.2.1 11 = .ok (.istore 4, 2) := by decide +kernel
theorem dC_reason_13 : decode mC_reason.2.1 13 = .ok (.iconst 0, 1) := by decide +kernel
theorem dC_reason_14 : decode mC_reason.2.1 14 = .ok (.istore 5, 2) := by decide +kernel
theorem dC_reason_16 : decode mC_reason.2.1 16 = .ok (.iload 5, 2) := by decide +kernel
theorem dC_reason_18 : decode mC_reason.2.1 18 = .ok (.bipush 10, 2) := by decide +kernel
theorem dC_reason_20 : decode mC_reason.2.1 20 = .ok (.if_icmp .ge 44, 3) := by decide +kernel
theorem dC_reason_23 : decode mC_reason.2.1 23 = .ok (.aload_n 3, 1) := by decide +kernel
theorem dC_reason_24 : decode mC_reason.2.1 24 = .ok (.iload 5, 2) := by decide +kernel
theorem dC_reason_26 : decode mC_reason.2.1 26 = .ok (.invokevirtual 107, 3) := by decide +kernel
theorem dC_reason_29 : decode mC_reason.2.1 29 = .ok (.ifCond .eq 29, 3) := by decide +kernel
theorem dC_reason_32 : decode mC_reason.2.1 32 = .ok (.iload 4, 2) := by decide +kernel
theorem dC_reason_34 : decode mC_reason.2.1 34 = .ok (.ifCond .ne 21, 3) := by decide +kernel
theorem dC_reason_37 : decode mC_reason.2.1 37 = .ok (.sipush 10000, 3) := by decide +kernel
theorem dC_reason_40 : decode mC_reason.2.1 40 = .ok (.aload_n 3, 1) := by decide +kernel
theorem dC_reason_41 : decode mC_reason.2.1 41 = .ok (.getfield 82, 3) := by decide +kernel
theorem dC_reason_44 : decode mC_reason.2.1 44 = .ok (.getfield 135, 3) := by decide +kernel
theorem dC_reason_47 : decode mC_reason.2.1 47 = .ok (.iload 5, 2) := by decide +kernel
theorem dC_reason_49 : decode mC_reason.2.1 49 = .ok (.iaload, 1) := by decide +kernel
theorem dC_reason_50 : decode mC_reason.2.1 50 = .ok (.imul, 1) := by decide +kernel
theorem dC_reason_51 : decode mC_reason.2.1 51 = .ok (.iload 5, 2) := by decide +kernel
theorem dC_reason_53 : decode mC_reason.2.1 53 = .ok (.iadd, 1) := by decide +kernel
theorem dC_reason_54 : decode mC_reason.2.1 54 = .ok (.ireturn, 1) := by decide +kernel
theorem dC_reason_55 : decode mC_reason.2.1 55 = .ok (.iinc 4 (-1), 3) := by decide +kernel
theorem dC_reason_58 : decode mC_reason.2.1 58 = .ok (.iinc 5 1, 3) := by decide +kernel
theorem dC_reason_61 : decode mC_reason.2.1 61 = .ok (.goto (-45), 3) := by decide +kernel
theorem dC_reason_64 : decode mC_reason.2.1 64 = .ok (.iconst 0, 1) := by decide +kernel
theorem dC_reason_65 : decode mC_reason.2.1 65 = .ok (.istore 5, 2) := by decide +kernel
theorem dC_reason_67 : decode mC_reason.2.1 67 = .ok (.iload 5, 2) := by decide +kernel
theorem dC_reason_69 : decode mC_reason.2.1 69 = .ok (.bipush 10, 2) := by decide +kernel
theorem dC_reason_71 : decode mC_reason.2.1 71 = .ok (.if_icmp .ge 51, 3) := by decide +kernel
theorem dC_reason_74 : decode mC_reason.2.1 74 = .ok (.aload_n 3, 1) := by decide +kernel
theorem dC_reason_75 : decode mC_reason.2.1 75 = .ok (.iload 5, 2) := by decide +kernel
theorem dC_reason_77 : decode mC_reason.2.1 77 = .ok (.aload_n 0, 1) := by decide +kernel
theorem dC_reason_78 : decode mC_reason.2.1 78 = .ok (.getfield 47, 3) := by decide +kernel
theorem dC_reason_81 : decode mC_reason.2.1 81 = .ok (.invokevirtual 111, 3) := by decide +kernel
theorem dC_reason_84 : decode mC_reason.2.1 84 = .ok (.ifCond .eq 32, 3) := by decide +kernel
theorem dC_reason_87 : decode mC_reason.2.1 87 = .ok (.iload 4, 2) := by decide +kernel
theorem dC_reason_89 : decode mC_reason.2.1 89 = .ok (.ifCond .ne 24, 3) := by decide +kernel
theorem dC_reason_92 : decode mC_reason.2.1 92 = .ok (.sipush 10000, 3) := by decide +kernel
theorem dC_reason_95 : decode mC_reason.2.1 95 = .ok (.aload_n 3, 1) := by decide +kernel
theorem dC_reason_96 : decode mC_reason.2.1 96 = .ok (.getfield 82, 3) := by decide +kernel
theorem dC_reason_99 : decode mC_reason.2.1 99 = .ok (.getfield 135, 3) := by decide +kernel
theorem dC_reason_102 : decode mC_reason.2.1 102 = .ok (.iload 5, 2) := by decide +kernel
theorem dC_reason_104 : decode mC_reason.2.1 104 = .ok (.iaload, 1) := by decide +kernel
theorem dC_reason_105 : decode mC_reason.2.1 105 = .ok (.imul, 1) := by decide +kernel
theorem dC_reason_106 : decode mC_reason.2.1 106 = .ok (.bipush 100, 2) := by decide +kernel
theorem dC_reason_108 : decode mC_reason.2.1 108 = .ok (.iadd, 1) := by decide +kernel
theorem dC_reason_109 : decode mC_reason.2.1 109 = .ok (.iload 5, 2) := by decide +kernel
theorem dC_reason_111 : decode mC_reason.2.1 111 = .ok (.iadd, 1) := by decide +kernel
theorem dC_reason_112 : decode mC_reason.2.1 112 = .ok (.ireturn, 1) := by decide +kernel
theorem dC_reason_113 : decode mC_reason.2.1 113 = .ok (.iinc 4 (-1), 3) := by decide +kernel
theorem dC_reason_116 : decode mC_reason.2.1 116 = .ok (.iinc 5 1, 3) := by decide +kernel
theorem dC_reason_119 : decode mC_reason.2.1 119 = .ok (.goto (-52), 3) := by decide +kernel
theorem dC_reason_122 : decode mC_reason.2.1 122 = .ok (.aload_n 0, 1) := by decide +kernel
theorem dC_reason_123 : decode mC_reason.2.1 123 = .ok (.aload_n 3, 1) := by decide +kernel
theorem dC_reason_124 : decode mC_reason.2.1 124 = .ok (.iload 4, 2) := by decide +kernel
theorem dC_reason_126 : decode mC_reason.2.1 126 = .ok (.invokevirtual 138, 3) := by decide +kernel
theorem dC_reason_129 : decode mC_reason.2.1 129 = .ok (.ireturn, 1) := by decide +kernel
theorem dC_checkPlace_0 : decode mC_checkPlace.2.1 0 = .ok (.iload_n 0, 1) := by decide +kernel
theorem dC_checkPlace_1 : decode mC_checkPlace.2.1 1 = .ok (.ifCond .ge 13, 3) := by decide +kernel
theorem dC_checkPlace_4 : decode mC_checkPlace.2.1 4 = .ok (.new 230, 3) := by decide +kernel
theorem dC_checkPlace_7 : decode mC_checkPlace.2.1 7 = .ok (.dup, 1) := by decide +kernel
theorem dC_checkPlace_8 : decode mC_checkPlace.2.1 8 = .ok (.ldc 235, 2) := by decide +kernel
theorem dC_checkPlace_10 : decode mC_checkPlace.2.1 10 = .ok (.invokespecial 234, 3) := by decide +kernel
theorem dC_checkPlace_13 : decode mC_checkPlace.2.1 13 = .ok (.athrow, 1) := by decide +kernel
theorem dC_checkPlace_14 : decode mC_checkPlace.2.1 14 = .ok (.return_, 1) := by decide +kernel
theorem dC_damageReason_0 : decode mC_damageReason.2.1 0 = .ok (.iload_n 2, 1) := by decide +kernel
theorem dC_damageReason_1 : decode mC_damageReason.2.1 1 = .ok (.istore_n 3, 1) := by decide +kernel
theorem dC_damageReason_2 : decode mC_damageReason.2.1 2 = .ok (.iconst 0, 1) := by decide +kernel
theorem dC_damageReason_3 : decode mC_damageReason.2.1 3 = .ok (.istore 4, 2) := by decide +kernel
theorem dC_damageReason_5 : decode mC_damageReason.2.1 5 = .ok (.iload 4, 2) := by decide +kernel
theorem dC_damageReason_7 : decode mC_damageReason.2.1 7 = .ok (.bipush 100, 2) := by decide +kernel
theorem dC_damageReason_9 : decode mC_damageReason.2.1 9 = .ok (.if_icmp .ge 54, 3) := by decide +kernel
theorem dC_damageReason_12 : decode mC_damageReason.2.1 12 = .ok (.iload 4, 2) := by decide +kernel
theorem dC_damageReason_14 : decode mC_damageReason.2.1 14 = .ok (.aload_n 0, 1) := by decide +kernel
theorem dC_damageReason_15 : decode mC_damageReason.2.1 15 = .ok (.getfield 150, 3) := by decide +kernel
theorem dC_damageReason_18 : decode mC_damageReason.2.1 18 = .ok (.if_icmp .ge 45, 3) := by decide +kernel
theorem dC_damageReason_21 : decode mC_damageReason.2.1 21 = .ok (.aload_n 0, 1) := by decide +kernel
theorem dC_damageReason_22 : decode mC_damageReason.2.1 22 = .ok (.iload 4, 2) := by decide +kernel
theorem dC_damageReason_24 : decode mC_damageReason.2.1 24 = .ok (.aload_n 1, 1) := by decide +kernel
theorem dC_damageReason_25 : decode mC_damageReason.2.1 25 = .ok (.invokevirtual 253, 3) := by decide +kernel
theorem dC_damageReason_28 : decode mC_damageReason.2.1 28 = .ok (.ifCond .eq 29, 3) := by decide +kernel
theorem dC_damageReason_31 : decode mC_damageReason.2.1 31 = .ok (.iload_n 3, 1) := by decide +kernel
theorem dC_damageReason_32 : decode mC_damageReason.2.1 32 = .ok (.ifCond .ne 22, 3) := by decide +kernel
theorem dC_damageReason_35 : decode mC_damageReason.2.1 35 = .ok (.sipush 10000, 3) := by decide +kernel
theorem dC_damageReason_38 : decode mC_damageReason.2.1 38 = .ok (.aload_n 0, 1) := by decide +kernel
theorem dC_damageReason_39 : decode mC_damageReason.2.1 39 = .ok (.getfield 26, 3) := by decide +kernel
theorem dC_damageReason_42 : decode mC_damageReason.2.1 42 = .ok (.iload 4, 2) := by decide +kernel
theorem dC_damageReason_44 : decode mC_damageReason.2.1 44 = .ok (.iaload, 1) := by decide +kernel
theorem dC_damageReason_45 : decode mC_damageReason.2.1 45 = .ok (.imul, 1) := by decide +kernel
theorem dC_damageReason_46 : decode mC_damageReason.2.1 46 = .ok (.sipush 1000, 3) := by decide +kernel
theorem dC_damageReason_49 : decode mC_damageReason.2.1 49 = .ok (.iadd, 1) := by decide +kernel
theorem dC_damageReason_50 : decode mC_damageReason.2.1 50 = .ok (.iload 4, 2) := by decide +kernel
theorem dC_damageReason_52 : decode mC_damageReason.2.1 52 = .ok (.iadd, 1) := by decide +kernel
theorem dC_damageReason_53 : decode mC_damageReason.2.1 53 = .ok (.ireturn, 1) := by decide +kernel
theorem dC_damageReason_54 : decode mC_damageReason.2.1 54 = .ok (.iinc 3 (-1), 3) := by decide +kernel
theorem dC_damageReason_57 : decode mC_damageReason.2.1 57 = .ok (.iinc 4 1, 3) := by decide +kernel
theorem dC_damageReason_60 : decode mC_damageReason.2.1 60 = .ok (.goto (-55), 3) := by decide +kernel
theorem dC_damageReason_63 : decode mC_damageReason.2.1 63 = .ok (.iconst (-1), 1) := by decide +kernel
theorem dC_damageReason_64 : decode mC_damageReason.2.1 64 = .ok (.ireturn, 1) := by decide +kernel
theorem dC_off_0 : decode mC_off.2.1 0 = .ok (.aload_n 0, 1) := by decide +kernel
theorem dC_off_1 : decode mC_off.2.1 1 = .ok (.iload_n 1, 1) := by decide +kernel
theorem dC_off_2 : decode mC_off.2.1 2 = .ok (.invokevirtual 73, 3) := by decide +kernel
theorem dC_off_5 : decode mC_off.2.1 5 = .ok (.astore 5, 2) := by decide +kernel
theorem dC_off_7 : decode mC_off.2.1 7 = .ok (.iload_n 3, 1) := by decide +kernel
theorem dC_off_8 : decode mC_off.2.1 8 = .ok (.invokestatic 77, 3) := by decide +kernel
theorem dC_off_11 : decode mC_off.2.1 11 = .ok (.iload 4, 2) := by decide +kernel
theorem dC_off_13 : decode mC_off.2.1 13 = .ok (.invokestatic 77, 3) := by decide +kernel
theorem dC_off_16 : decode mC_off.2.1 16 = .ok (.aload 5, 2) := by decide +kernel
theorem dC_off_18 : decode mC_off.2.1 18 = .ok (.getfield 142, 3) := by decide +kernel
theorem dC_off_21 : decode mC_off.2.1 21 = .ok (.iload_n 2, 1) := by decide +kernel
theorem dC_off_22 : decode mC_off.2.1 22 = .ok (.if_icmp .ne 13, 3) := by decide +kernel
theorem dC_off_25 : decode mC_off.2.1 25 = .ok (.new 124, 3) := by decide +kernel
theorem dC_off_28 : decode mC_off.2.1 28 = .ok (.dup, 1) := by decide +kernel
theorem dC_off_29 : decode mC_off.2.1 29 = .ok (.ldc 146, 2) := by decide +kernel
theorem dC_off_31 : decode mC_off.2.1 31 = .ok (.invokespecial 128, 3) := by decide +kernel
theorem dC_off_34 : decode mC_off.2.1 34 = .ok (.athrow, 1) := by decide +kernel
theorem dC_off_35 : decode mC_off.2.1 35 = .ok (.iload_n 3, 1) := by decide +kernel
theorem dC_off_36 : decode mC_off.2.1 36 = .ok (.iload 4, 2) := by decide +kernel
theorem dC_off_38 : decode mC_off.2.1 38 = .ok (.if_icmp .ne 13, 3) := by decide +kernel
theorem dC_off_41 : decode mC_off.2.1 41 = .ok (.new 124, 3) := by decide +kernel
theorem dC_off_44 : decode mC_off.2.1 44 = .ok (.dup, 1) := by decide +kernel
theorem dC_off_45 : decode mC_off.2.1 45 = .ok (.ldc 148, 2) := by decide +kernel
theorem dC_off_47 : decode mC_off.2.1 47 = .ok (.invokespecial 128, 3) := by decide +kernel
theorem dC_off_50 : decode mC_off.2.1 50 = .ok (.athrow, 1) := by decide +kernel
theorem dC_off_51 : decode mC_off.2.1 51 = .ok (.aload 5, 2) := by decide +kernel
theorem dC_off_53 : decode mC_off.2.1 53 = .ok (.iload_n 2, 1) := by decide +kernel
theorem dC_off_54 : decode mC_off.2.1 54 = .ok (.putfield 142, 3) := by decide +kernel
theorem dC_off_57 : decode mC_off.2.1 57 = .ok (.return_, 1) := by decide +kernel
theorem dC_damage_0 : decode mC_damage.2.1 0 = .ok (.aload_n 0, 1) := by decide +kernel
theorem dC_damage_1 : decode mC_damage.2.1 1 = .ok (.iload_n 1, 1) := by decide +kernel
theorem dC_damage_2 : decode mC_damage.2.1 2 = .ok (.invokevirtual 73, 3) := by decide +kernel
theorem dC_damage_5 : decode mC_damage.2.1 5 = .ok (.astore_n 3, 1) := by decide +kernel
theorem dC_damage_6 : decode mC_damage.2.1 6 = .ok (.iload_n 2, 1) := by decide +kernel
theorem dC_damage_7 : decode mC_damage.2.1 7 = .ok (.iconst 1, 1) := by decide +kernel
theorem dC_damage_8 : decode mC_damage.2.1 8 = .ok (.iconst 3, 1) := by decide +kernel
theorem dC_damage_9 : decode mC_damage.2.1 9 = .ok (.invokestatic 57, 3) := by decide +kernel
theorem dC_damage_12 : decode mC_damage.2.1 12 = .ok (.aload_n 0, 1) := by decide +kernel
theorem dC_damage_13 : decode mC_damage.2.1 13 = .ok (.getfield 150, 3) := by decide +kernel
theorem dC_damage_16 : decode mC_damage.2.1 16 = .ok (.bipush 100, 2) := by decide +kernel
theorem dC_damage_18 : decode mC_damage.2.1 18 = .ok (.if_icmp .lt 13, 3) := by decide +kernel
theorem dC_damage_21 : decode mC_damage.2.1 21 = .ok (.new 40, 3) := by decide +kernel
theorem dC_damage_24 : decode mC_damage.2.1 24 = .ok (.dup, 1) := by decide +kernel
theorem dC_damage_25 : decode mC_damage.2.1 25 = .ok (.ldc 153, 2) := by decide +kernel
theorem dC_damage_27 : decode mC_damage.2.1 27 = .ok (.invokespecial 44, 3) := by decide +kernel
theorem dC_damage_30 : decode mC_damage.2.1 30 = .ok (.athrow, 1) := by decide +kernel
theorem dC_damage_31 : decode mC_damage.2.1 31 = .ok (.aload_n 0, 1) := by decide +kernel
theorem dC_damage_32 : decode mC_damage.2.1 32 = .ok (.getfield 150, 3) := by decide +kernel
theorem dC_damage_35 : decode mC_damage.2.1 35 = .ok (.istore 4, 2) := by decide +kernel
theorem dC_damage_37 : decode mC_damage.2.1 37 = .ok (.aload_n 0, 1) := by decide +kernel
theorem dC_damage_38 : decode mC_damage.2.1 38 = .ok (.getfield 22, 3) := by decide +kernel
theorem dC_damage_41 : decode mC_damage.2.1 41 = .ok (.iload 4, 2) := by decide +kernel
theorem dC_damage_43 : decode mC_damage.2.1 43 = .ok (.aload_n 3, 1) := by decide +kernel
theorem dC_damage_44 : decode mC_damage.2.1 44 = .ok (.getfield 155, 3) := by decide +kernel
theorem dC_damage_47 : decode mC_damage.2.1 47 = .ok (.iastore, 1) := by decide +kernel
theorem dC_damage_48 : decode mC_damage.2.1 48 = .ok (.aload_n 0, 1) := by decide +kernel
theorem dC_damage_49 : decode mC_damage.2.1 49 = .ok (.getfield 26, 3) := by decide +kernel
theorem dC_damage_52 : decode mC_damage.2.1 52 = .ok (.iload 4, 2) := by decide +kernel
theorem dC_damage_54 : decode mC_damage.2.1 54 = .ok (.iload_n 2, 1) := by decide +kernel
theorem dC_damage_55 : decode mC_damage.2.1 55 = .ok (.iastore, 1) := by decide +kernel
theorem dC_damage_56 : decode mC_damage.2.1 56 = .ok (.aload_n 0, 1) := by decide +kernel
theorem dC_damage_57 : decode mC_damage.2.1 57 = .ok (.dup, 1) := by decide +kernel
theorem dC_damage_58 : decode mC_damage.2.1 58 = .ok (.getfield 150, 3) := by decide +kernel
theorem dC_damage_61 : decode mC_damage.2.1 61 = .ok (.iconst 1, 1) := by decide +kernel
theorem dC_damage_62 : decode mC_damage.2.1 62 = .ok (.iadd, 1) := by decide +kernel
theorem dC_damage_63 : decode mC_damage.2.1 63 = .ok (.putfield 150, 3) := by decide +kernel
theorem dC_damage_66 : decode mC_damage.2.1 66 = .ok (.iload 4, 2) := by decide +kernel
theorem dC_damage_68 : decode mC_damage.2.1 68 = .ok (.ireturn, 1) := by decide +kernel
theorem dC_proof_0 : decode mC_proof.2.1 0 = .ok (.iload_n 1, 1) := by decide +kernel
theorem dC_proof_1 : decode mC_proof.2.1 1 = .ok (.ifCond .lt 17, 3) := by decide +kernel
theorem dC_proof_4 : decode mC_proof.2.1 4 = .ok (.iload_n 1, 1) := by decide +kernel
theorem dC_proof_5 : decode mC_proof.2.1 5 = .ok (.aload_n 0, 1) := by decide +kernel
theorem dC_proof_6 : decode mC_proof.2.1 6 = .ok (.getfield 150, 3) := by decide +kernel
theorem dC_proof_9 : decode mC_proof.2.1 9 = .ok (.if_icmp .ge 9, 3) := by decide +kernel
theorem dC_proof_12 : decode mC_proof.2.1 12 = .ok (.iload_n 1, 1) := by decide +kernel
theorem dC_proof_13 : decode mC_proof.2.1 13 = .ok (.bipush 100, 2) := by decide +kernel
theorem dC_proof_15 : decode mC_proof.2.1 15 = .ok (.if_icmp .lt 13, 3) := by decide +kernel
theorem dC_proof_18 : decode mC_proof.2.1 18 = .ok (.new 114, 3) := by decide +kernel
theorem dC_proof_21 : decode mC_proof.2.1 21 = .ok (.dup, 1) := by decide +kernel
theorem dC_proof_22 : decode mC_proof.2.1 22 = .ok (.ldc 158, 2) := by decide +kernel
theorem dC_proof_24 : decode mC_proof.2.1 24 = .ok (.invokespecial 118, 3) := by decide +kernel
theorem dC_proof_27 : decode mC_proof.2.1 27 = .ok (.athrow, 1) := by decide +kernel
theorem dC_proof_28 : decode mC_proof.2.1 28 = .ok (.iload_n 2, 1) := by decide +kernel
theorem dC_proof_29 : decode mC_proof.2.1 29 = .ok (.iconst 1, 1) := by decide +kernel
theorem dC_proof_30 : decode mC_proof.2.1 30 = .ok (.sipush 9999, 3) := by decide +kernel
theorem dC_proof_33 : decode mC_proof.2.1 33 = .ok (.invokestatic 57, 3) := by decide +kernel
theorem dC_proof_36 : decode mC_proof.2.1 36 = .ok (.aload_n 0, 1) := by decide +kernel
theorem dC_proof_37 : decode mC_proof.2.1 37 = .ok (.getfield 29, 3) := by decide +kernel
theorem dC_proof_40 : decode mC_proof.2.1 40 = .ok (.iload_n 1, 1) := by decide +kernel
theorem dC_proof_41 : decode mC_proof.2.1 41 = .ok (.iaload, 1) := by decide +kernel
theorem dC_proof_42 : decode mC_proof.2.1 42 = .ok (.ifCond .eq 13, 3) := by decide +kernel
theorem dC_proof_45 : decode mC_proof.2.1 45 = .ok (.new 124, 3) := by decide +kernel
theorem dC_proof_48 : decode mC_proof.2.1 48 = .ok (.dup, 1) := by decide +kernel
theorem dC_proof_49 : decode mC_proof.2.1 49 = .ok (.ldc 160, 2) := by decide +kernel
theorem dC_proof_51 : decode mC_proof.2.1 51 = .ok (.invokespecial 128, 3) := by decide +kernel
theorem dC_proof_54 : decode mC_proof.2.1 54 = .ok (.athrow, 1) := by decide +kernel
theorem dC_proof_55 : decode mC_proof.2.1 55 = .ok (.aload_n 0, 1) := by decide +kernel
theorem dC_proof_56 : decode mC_proof.2.1 56 = .ok (.getfield 29, 3) := by decide +kernel
theorem dC_proof_59 : decode mC_proof.2.1 59 = .ok (.iload_n 1, 1) := by decide +kernel
theorem dC_proof_60 : decode mC_proof.2.1 60 = .ok (.iload_n 2, 1) := by decide +kernel
theorem dC_proof_61 : decode mC_proof.2.1 61 = .ok (.iastore, 1) := by decide +kernel
theorem dC_proof_62 : decode mC_proof.2.1 62 = .ok (.return_, 1) := by decide +kernel
theorem dC_need_0 : decode mC_need.2.1 0 = .ok (.aload_n 0, 1) := by decide +kernel
theorem dC_need_1 : decode mC_need.2.1 1 = .ok (.iload_n 1, 1) := by decide +kernel
theorem dC_need_2 : decode mC_need.2.1 2 = .ok (.invokevirtual 32, 3) := by decide +kernel
theorem dC_need_5 : decode mC_need.2.1 5 = .ok (.astore 4, 2) := by decide +kernel
theorem dC_need_7 : decode mC_need.2.1 7 = .ok (.iload_n 2, 1) := by decide +kernel
theorem dC_need_8 : decode mC_need.2.1 8 = .ok (.invokestatic 162, 3) := by decide +kernel
theorem dC_need_11 : decode mC_need.2.1 11 = .ok (.iload_n 3, 1) := by decide +kernel
theorem dC_need_12 : decode mC_need.2.1 12 = .ok (.iconst 0, 1) := by decide +kernel
theorem dC_need_13 : decode mC_need.2.1 13 = .ok (.bipush 9, 2) := by decide +kernel
theorem dC_need_15 : decode mC_need.2.1 15 = .ok (.invokestatic 57, 3) := by decide +kernel
theorem dC_need_18 : decode mC_need.2.1 18 = .ok (.aload 4, 2) := by decide +kernel
theorem dC_need_20 : decode mC_need.2.1 20 = .ok (.getfield 165, 3) := by decide +kernel
theorem dC_need_23 : decode mC_need.2.1 23 = .ok (.iload_n 2, 1) := by decide +kernel
theorem dC_need_24 : decode mC_need.2.1 24 = .ok (.iload_n 3, 1) := by decide +kernel
theorem dC_need_25 : decode mC_need.2.1 25 = .ok (.iastore, 1) := by decide +kernel
theorem dC_need_26 : decode mC_need.2.1 26 = .ok (.return_, 1) := by decide +kernel
theorem dC_checkThing_0 : decode mC_checkThing.2.1 0 = .ok (.iload_n 0, 1) := by decide +kernel
theorem dC_checkThing_1 : decode mC_checkThing.2.1 1 = .ok (.ifCond .lt 9, 3) := by decide +kernel
theorem dC_checkThing_4 : decode mC_checkThing.2.1 4 = .ok (.iload_n 0, 1) := by decide +kernel
theorem dC_checkThing_5 : decode mC_checkThing.2.1 5 = .ok (.bipush 10, 2) := by decide +kernel
theorem dC_checkThing_7 : decode mC_checkThing.2.1 7 = .ok (.if_icmp .lt 13, 3) := by decide +kernel
theorem dC_checkThing_10 : decode mC_checkThing.2.1 10 = .ok (.new 114, 3) := by decide +kernel
theorem dC_checkThing_13 : decode mC_checkThing.2.1 13 = .ok (.dup, 1) := by decide +kernel
theorem dC_checkThing_14 : decode mC_checkThing.2.1 14 = .ok (.ldc 226, 2) := by decide +kernel
theorem dC_checkThing_16 : decode mC_checkThing.2.1 16 = .ok (.invokespecial 118, 3) := by decide +kernel
theorem dC_checkThing_19 : decode mC_checkThing.2.1 19 = .ok (.athrow, 1) := by decide +kernel
theorem dC_checkThing_20 : decode mC_checkThing.2.1 20 = .ok (.return_, 1) := by decide +kernel
theorem dC_put_0 : decode mC_put.2.1 0 = .ok (.aload_n 0, 1) := by decide +kernel
theorem dC_put_1 : decode mC_put.2.1 1 = .ok (.iload_n 1, 1) := by decide +kernel
theorem dC_put_2 : decode mC_put.2.1 2 = .ok (.invokevirtual 73, 3) := by decide +kernel
theorem dC_put_5 : decode mC_put.2.1 5 = .ok (.astore 4, 2) := by decide +kernel
theorem dC_put_7 : decode mC_put.2.1 7 = .ok (.iload_n 2, 1) := by decide +kernel
theorem dC_put_8 : decode mC_put.2.1 8 = .ok (.invokestatic 162, 3) := by decide +kernel
theorem dC_put_11 : decode mC_put.2.1 11 = .ok (.iload_n 3, 1) := by decide +kernel
theorem dC_put_12 : decode mC_put.2.1 12 = .ok (.iconst 1, 1) := by decide +kernel
theorem dC_put_13 : decode mC_put.2.1 13 = .ok (.bipush 9, 2) := by decide +kernel
theorem dC_put_15 : decode mC_put.2.1 15 = .ok (.invokestatic 57, 3) := by decide +kernel
theorem dC_put_18 : decode mC_put.2.1 18 = .ok (.aload 4, 2) := by decide +kernel
theorem dC_put_20 : decode mC_put.2.1 20 = .ok (.getfield 168, 3) := by decide +kernel
theorem dC_put_23 : decode mC_put.2.1 23 = .ok (.iload_n 2, 1) := by decide +kernel
theorem dC_put_24 : decode mC_put.2.1 24 = .ok (.iaload, 1) := by decide +kernel
theorem dC_put_25 : decode mC_put.2.1 25 = .ok (.iload_n 3, 1) := by decide +kernel
theorem dC_put_26 : decode mC_put.2.1 26 = .ok (.bipush 99, 2) := by decide +kernel
theorem dC_put_28 : decode mC_put.2.1 28 = .ok (.invokestatic 171, 3) := by decide +kernel
theorem dC_put_31 : decode mC_put.2.1 31 = .ok (.aload 4, 2) := by decide +kernel
theorem dC_put_33 : decode mC_put.2.1 33 = .ok (.getfield 168, 3) := by decide +kernel
theorem dC_put_36 : decode mC_put.2.1 36 = .ok (.iload_n 2, 1) := by decide +kernel
theorem dC_put_37 : decode mC_put.2.1 37 = .ok (.dup2, 1) := by decide +kernel
theorem dC_put_38 : decode mC_put.2.1 38 = .ok (.iaload, 1) := by decide +kernel
theorem dC_put_39 : decode mC_put.2.1 39 = .ok (.iload_n 3, 1) := by decide +kernel
theorem dC_put_40 : decode mC_put.2.1 40 = .ok (.iadd, 1) := by decide +kernel
theorem dC_put_41 : decode mC_put.2.1 41 = .ok (.iastore, 1) := by decide +kernel
theorem dC_put_42 : decode mC_put.2.1 42 = .ok (.aload 4, 2) := by decide +kernel
theorem dC_put_44 : decode mC_put.2.1 44 = .ok (.getfield 168, 3) := by decide +kernel
theorem dC_put_47 : decode mC_put.2.1 47 = .ok (.iload_n 2, 1) := by decide +kernel
theorem dC_put_48 : decode mC_put.2.1 48 = .ok (.iaload, 1) := by decide +kernel
theorem dC_put_49 : decode mC_put.2.1 49 = .ok (.ireturn, 1) := by decide +kernel
theorem dC_checkRoom_0 : decode mC_checkRoom.2.1 0 = .ok (.iload_n 1, 1) := by decide +kernel
theorem dC_checkRoom_1 : decode mC_checkRoom.2.1 1 = .ok (.iload_n 2, 1) := by decide +kernel
theorem dC_checkRoom_2 : decode mC_checkRoom.2.1 2 = .ok (.iload_n 0, 1) := by decide +kernel
theorem dC_checkRoom_3 : decode mC_checkRoom.2.1 3 = .ok (.isub, 1) := by decide +kernel
theorem dC_checkRoom_4 : decode mC_checkRoom.2.1 4 = .ok (.if_icmp .le 13, 3) := by decide +kernel
theorem dC_checkRoom_7 : decode mC_checkRoom.2.1 7 = .ok (.new 40, 3) := by decide +kernel
theorem dC_checkRoom_10 : decode mC_checkRoom.2.1 10 = .ok (.dup, 1) := by decide +kernel
theorem dC_checkRoom_11 : decode mC_checkRoom.2.1 11 = .ok (.ldc 239, 2) := by decide +kernel
theorem dC_checkRoom_13 : decode mC_checkRoom.2.1 13 = .ok (.invokespecial 44, 3) := by decide +kernel
theorem dC_checkRoom_16 : decode mC_checkRoom.2.1 16 = .ok (.athrow, 1) := by decide +kernel
theorem dC_checkRoom_17 : decode mC_checkRoom.2.1 17 = .ok (.return_, 1) := by decide +kernel
theorem dC_swap_0 : decode mC_swap.2.1 0 = .ok (.aload_n 0, 1) := by decide +kernel
theorem dC_swap_1 : decode mC_swap.2.1 1 = .ok (.iload_n 1, 1) := by decide +kernel
theorem dC_swap_2 : decode mC_swap.2.1 2 = .ok (.invokevirtual 73, 3) := by decide +kernel
theorem dC_swap_5 : decode mC_swap.2.1 5 = .ok (.astore 4, 2) := by decide +kernel
theorem dC_swap_7 : decode mC_swap.2.1 7 = .ok (.aload_n 0, 1) := by decide +kernel
theorem dC_swap_8 : decode mC_swap.2.1 8 = .ok (.iload_n 2, 1) := by decide +kernel
theorem dC_swap_9 : decode mC_swap.2.1 9 = .ok (.invokevirtual 73, 3) := by decide +kernel
theorem dC_swap_12 : decode mC_swap.2.1 12 = .ok (.astore 5, 2) := by decide +kernel
theorem dC_swap_14 : decode mC_swap.2.1 14 = .ok (.iload_n 1, 1) := by decide +kernel
theorem dC_swap_15 : decode mC_swap.2.1 15 = .ok (.iload_n 2, 1) := by decide +kernel
theorem dC_swap_16 : decode mC_swap.2.1 16 = .ok (.if_icmp .ne 13, 3) := by decide +kernel
theorem dC_swap_19 : decode mC_swap.2.1 19 = .ok (.new 114, 3) := by decide +kernel
theorem dC_swap_22 : decode mC_swap.2.1 22 = .ok (.dup, 1) := by decide +kernel
theorem dC_swap_23 : decode mC_swap.2.1 23 = .ok (.ldc 174, 2) := by decide +kernel
theorem dC_swap_25 : decode mC_swap.2.1 25 = .ok (.invokespecial 118, 3) := by decide +kernel
theorem dC_swap_28 : decode mC_swap.2.1 28 = .ok (.athrow, 1) := by decide +kernel
theorem dC_swap_29 : decode mC_swap.2.1 29 = .ok (.iload_n 3, 1) := by decide +kernel
theorem dC_swap_30 : decode mC_swap.2.1 30 = .ok (.invokestatic 162, 3) := by decide +kernel
theorem dC_swap_33 : decode mC_swap.2.1 33 = .ok (.aload 4, 2) := by decide +kernel
theorem dC_swap_35 : decode mC_swap.2.1 35 = .ok (.getfield 168, 3) := by decide +kernel
theorem dC_swap_38 : decode mC_swap.2.1 38 = .ok (.iload_n 3, 1) := by decide +kernel
theorem dC_swap_39 : decode mC_swap.2.1 39 = .ok (.iaload, 1) := by decide +kernel
theorem dC_swap_40 : decode mC_swap.2.1 40 = .ok (.istore 6, 2) := by decide +kernel
theorem dC_swap_42 : decode mC_swap.2.1 42 = .ok (.iload 6, 2) := by decide +kernel
theorem dC_swap_44 : decode mC_swap.2.1 44 = .ok (.aload 5, 2) := by decide +kernel
theorem dC_swap_46 : decode mC_swap.2.1 46 = .ok (.getfield 168, 3) := by decide +kernel
theorem dC_swap_49 : decode mC_swap.2.1 49 = .ok (.iload_n 3, 1) := by decide +kernel
theorem dC_swap_50 : decode mC_swap.2.1 50 = .ok (.iaload, 1) := by decide +kernel
theorem dC_swap_51 : decode mC_swap.2.1 51 = .ok (.if_icmp .ne 13, 3) := by decide +kernel
theorem dC_swap_54 : decode mC_swap.2.1 54 = .ok (.new 124, 3) := by decide +kernel
theorem dC_swap_57 : decode mC_swap.2.1 57 = .ok (.dup, 1) := by decide +kernel
theorem dC_swap_58 : decode mC_swap.2.1 58 = .ok (.ldc 176, 2) := by decide +kernel
theorem dC_swap_60 : decode mC_swap.2.1 60 = .ok (.invokespecial 128, 3) := by decide +kernel
theorem dC_swap_63 : decode mC_swap.2.1 63 = .ok (.athrow, 1) := by decide +kernel
theorem dC_swap_64 : decode mC_swap.2.1 64 = .ok (.aload 4, 2) := by decide +kernel
theorem dC_swap_66 : decode mC_swap.2.1 66 = .ok (.getfield 168, 3) := by decide +kernel
theorem dC_swap_69 : decode mC_swap.2.1 69 = .ok (.iload_n 3, 1) := by decide +kernel
theorem dC_swap_70 : decode mC_swap.2.1 70 = .ok (.aload 5, 2) := by decide +kernel
theorem dC_swap_72 : decode mC_swap.2.1 72 = .ok (.getfield 168, 3) := by decide +kernel
theorem dC_swap_75 : decode mC_swap.2.1 75 = .ok (.iload_n 3, 1) := by decide +kernel
theorem dC_swap_76 : decode mC_swap.2.1 76 = .ok (.iaload, 1) := by decide +kernel
theorem dC_swap_77 : decode mC_swap.2.1 77 = .ok (.iastore, 1) := by decide +kernel
theorem dC_swap_78 : decode mC_swap.2.1 78 = .ok (.aload 5, 2) := by decide +kernel
theorem dC_swap_80 : decode mC_swap.2.1 80 = .ok (.getfield 168, 3) := by decide +kernel
theorem dC_swap_83 : decode mC_swap.2.1 83 = .ok (.iload_n 3, 1) := by decide +kernel
theorem dC_swap_84 : decode mC_swap.2.1 84 = .ok (.iload 6, 2) := by decide +kernel
theorem dC_swap_86 : decode mC_swap.2.1 86 = .ok (.iastore, 1) := by decide +kernel
theorem dC_swap_87 : decode mC_swap.2.1 87 = .ok (.aload 4, 2) := by decide +kernel
theorem dC_swap_89 : decode mC_swap.2.1 89 = .ok (.getfield 168, 3) := by decide +kernel
theorem dC_swap_92 : decode mC_swap.2.1 92 = .ok (.iload_n 3, 1) := by decide +kernel
theorem dC_swap_93 : decode mC_swap.2.1 93 = .ok (.iaload, 1) := by decide +kernel
theorem dC_swap_94 : decode mC_swap.2.1 94 = .ok (.ireturn, 1) := by decide +kernel
theorem dC_spare_0 : decode mC_spare.2.1 0 = .ok (.aload_n 0, 1) := by decide +kernel
theorem dC_spare_1 : decode mC_spare.2.1 1 = .ok (.aload_n 0, 1) := by decide +kernel
theorem dC_spare_2 : decode mC_spare.2.1 2 = .ok (.iload_n 1, 1) := by decide +kernel
theorem dC_spare_3 : decode mC_spare.2.1 3 = .ok (.invokevirtual 73, 3) := by decide +kernel
theorem dC_spare_6 : decode mC_spare.2.1 6 = .ok (.invokevirtual 178, 3) := by decide +kernel
theorem dC_spare_9 : decode mC_spare.2.1 9 = .ok (.astore_n 2, 1) := by decide +kernel
theorem dC_spare_10 : decode mC_spare.2.1 10 = .ok (.aload_n 2, 1) := by decide +kernel
theorem dC_spare_11 : decode mC_spare.2.1 11 = .ok (.ifnonnull 5, 3) := by decide +kernel
theorem dC_spare_14 : decode mC_spare.2.1 14 = .ok (.iconst (-1), 1) := by decide +kernel
theorem dC_spare_15 : decode mC_spare.2.1 15 = .ok (.ireturn, 1) := by decide +kernel
theorem dC_spare_16 : decode mC_spare.2.1 16 = .ok (.aload_n 2, 1) := by decide +kernel
theorem dC_spare_17 : decode mC_spare.2.1 17 = .ok (.invokevirtual 182, 3) := by decide +kernel
theorem dC_spare_20 : decode mC_spare.2.1 20 = .ok (.istore_n 3, 1) := by decide +kernel
theorem dC_spare_21 : decode mC_spare.2.1 21 = .ok (.iload_n 3, 1) := by decide +kernel
theorem dC_spare_22 : decode mC_spare.2.1 22 = .ok (.iconst (-1), 1) := by decide +kernel
theorem dC_spare_23 : decode mC_spare.2.1 23 = .ok (.if_icmp .ne 10, 3) := by decide +kernel
theorem dC_spare_26 : decode mC_spare.2.1 26 = .ok (.aload_n 2, 1) := by decide +kernel
theorem dC_spare_27 : decode mC_spare.2.1 27 = .ok (.getfield 155, 3) := by decide +kernel
theorem dC_spare_30 : decode mC_spare.2.1 30 = .ok (.goto 7, 3) := by decide +kernel
theorem dC_spare_33 : decode mC_spare.2.1 33 = .ok (.bipush (-2), 2) := by decide +kernel
theorem dC_spare_35 : decode mC_spare.2.1 35 = .ok (.iload_n 3, 1) := by decide +kernel
theorem dC_spare_36 : decode mC_spare.2.1 36 = .ok (.isub, 1) := by decide +kernel
theorem dC_spare_37 : decode mC_spare.2.1 37 = .ok (.ireturn, 1) := by decide +kernel
theorem dC_bestSpare_0 : decode mC_bestSpare.2.1 0 = .ok (.aconst_null, 1) := by decide +kernel
theorem dC_bestSpare_1 : decode mC_bestSpare.2.1 1 = .ok (.astore_n 2, 1) := by decide +kernel
theorem dC_bestSpare_2 : decode mC_bestSpare.2.1 2 = .ok (.iconst 0, 1) := by decide +kernel
theorem dC_bestSpare_3 : decode mC_bestSpare.2.1 3 = .ok (.istore_n 3, 1) := by decide +kernel
theorem dC_bestSpare_4 : decode mC_bestSpare.2.1 4 = .ok (.iload_n 3, 1) := by decide +kernel
theorem dC_bestSpare_5 : decode mC_bestSpare.2.1 5 = .ok (.bipush 20, 2) := by decide +kernel
theorem dC_bestSpare_7 : decode mC_bestSpare.2.1 7 = .ok (.if_icmp .ge 55, 3) := by decide +kernel
theorem dC_bestSpare_10 : decode mC_bestSpare.2.1 10 = .ok (.aload_n 0, 1) := by decide +kernel
theorem dC_bestSpare_11 : decode mC_bestSpare.2.1 11 = .ok (.getfield 18, 3) := by decide +kernel
theorem dC_bestSpare_14 : decode mC_bestSpare.2.1 14 = .ok (.iload_n 3, 1) := by decide +kernel
theorem dC_bestSpare_15 : decode mC_bestSpare.2.1 15 = .ok (.aaload, 1) := by decide +kernel
theorem dC_bestSpare_16 : decode mC_bestSpare.2.1 16 = .ok (.ifnull 46, 3) := by decide +kernel
theorem dC_bestSpare_19 : decode mC_bestSpare.2.1 19 = .ok (.aload_n 0, 1) := by decide +kernel
theorem dC_bestSpare_20 : decode mC_bestSpare.2.1 20 = .ok (.getfield 18, 3) := by decide +kernel
theorem dC_bestSpare_23 : decode mC_bestSpare.2.1 23 = .ok (.iload_n 3, 1) := by decide +kernel
theorem dC_bestSpare_24 : decode mC_bestSpare.2.1 24 = .ok (.aaload, 1) := by decide +kernel
theorem dC_bestSpare_25 : decode mC_bestSpare.2.1 25 = .ok (.astore 4, 2) := by decide +kernel
theorem dC_bestSpare_27 : decode mC_bestSpare.2.1 27 = .ok (.aload_n 0, 1) := by decide +kernel
theorem dC_bestSpare_28 : decode mC_bestSpare.2.1 28 = .ok (.aload 4, 2) := by decide +kernel
theorem dC_bestSpare_30 : decode mC_bestSpare.2.1 30 = .ok (.aload_n 1, 1) := by decide +kernel
theorem dC_bestSpare_31 : decode mC_bestSpare.2.1 31 = .ok (.invokevirtual 257, 3) := by decide +kernel
theorem dC_bestSpare_34 : decode mC_bestSpare.2.1 34 = .ok (.ifCond .eq 22, 3) := by decide +kernel
theorem dC_bestSpare_37 : decode mC_bestSpare.2.1 37 = .ok (.aload_n 2, 1) := by decide +kernel
theorem dC_bestSpare_38 : decode mC_bestSpare.2.1 38 = .ok (.ifnull 15, 3) := by decide +kernel
theorem dC_bestSpare_41 : decode mC_bestSpare.2.1 41 = .ok (.aload 4, 2) := by decide +kernel
theorem dC_bestSpare_43 : decode mC_bestSpare.2.1 43 = .ok (.getfield 190, 3) := by decide +kernel
theorem dC_bestSpare_46 : decode mC_bestSpare.2.1 46 = .ok (.aload_n 2, 1) := by decide +kernel
theorem dC_bestSpare_47 : decode mC_bestSpare.2.1 47 = .ok (.getfield 190, 3) := by decide +kernel
theorem dC_bestSpare_50 : decode mC_bestSpare.2.1 50 = .ok (.if_icmp .ge 6, 3) := by decide +kernel
theorem dC_bestSpare_53 : decode mC_bestSpare.2.1 53 = .ok (.aload 4, 2) := by decide +kernel
theorem dC_bestSpare_55 : decode mC_bestSpare.2.1 55 = .ok (.astore_n 2, 1) := by decide +kernel
theorem dC_bestSpare_56 : decode mC_bestSpare.2.1 56 = .ok (.iinc 3 1, 3) := by decide +kernel
theorem dC_bestSpare_59 : decode mC_bestSpare.2.1 59 = .ok (.goto (-55), 3) := by decide +kernel
theorem dC_bestSpare_62 : decode mC_bestSpare.2.1 62 = .ok (.aload_n 2, 1) := by decide +kernel
theorem dC_bestSpare_63 : decode mC_bestSpare.2.1 63 = .ok (.areturn, 1) := by decide +kernel
theorem dC_isSpareFor_0 : decode mC_isSpareFor.2.1 0 = .ok (.aload_n 1, 1) := by decide +kernel
theorem dC_isSpareFor_1 : decode mC_isSpareFor.2.1 1 = .ok (.getfield 155, 3) := by decide +kernel
theorem dC_isSpareFor_4 : decode mC_isSpareFor.2.1 4 = .ok (.aload_n 2, 1) := by decide +kernel
theorem dC_isSpareFor_5 : decode mC_isSpareFor.2.1 5 = .ok (.getfield 155, 3) := by decide +kernel
theorem dC_isSpareFor_8 : decode mC_isSpareFor.2.1 8 = .ok (.if_icmp .eq 33, 3) := by decide +kernel
theorem dC_isSpareFor_11 : decode mC_isSpareFor.2.1 11 = .ok (.aload_n 1, 1) := by decide +kernel
theorem dC_isSpareFor_12 : decode mC_isSpareFor.2.1 12 = .ok (.getfield 82, 3) := by decide +kernel
theorem dC_isSpareFor_15 : decode mC_isSpareFor.2.1 15 = .ok (.aload_n 2, 1) := by decide +kernel
theorem dC_isSpareFor_16 : decode mC_isSpareFor.2.1 16 = .ok (.getfield 82, 3) := by decide +kernel
theorem dC_isSpareFor_19 : decode mC_isSpareFor.2.1 19 = .ok (.if_acmp .ne 22, 3) := by decide +kernel
theorem dC_isSpareFor_22 : decode mC_isSpareFor.2.1 22 = .ok (.aload_n 1, 1) := by decide +kernel
theorem dC_isSpareFor_23 : decode mC_isSpareFor.2.1 23 = .ok (.getfield 261, 3) := by decide +kernel
theorem dC_isSpareFor_26 : decode mC_isSpareFor.2.1 26 = .ok (.ifCond .eq 15, 3) := by decide +kernel
theorem dC_isSpareFor_29 : decode mC_isSpareFor.2.1 29 = .ok (.aload_n 0, 1) := by decide +kernel
theorem dC_isSpareFor_30 : decode mC_isSpareFor.2.1 30 = .ok (.aload_n 1, 1) := by decide +kernel
theorem dC_isSpareFor_31 : decode mC_isSpareFor.2.1 31 = .ok (.invokevirtual 120, 3) := by decide +kernel
theorem dC_isSpareFor_34 : decode mC_isSpareFor.2.1 34 = .ok (.ifCond .eq 7, 3) := by decide +kernel
theorem dC_isSpareFor_37 : decode mC_isSpareFor.2.1 37 = .ok (.iconst 1, 1) := by decide +kernel
theorem dC_isSpareFor_38 : decode mC_isSpareFor.2.1 38 = .ok (.goto 4, 3) := by decide +kernel
theorem dC_isSpareFor_41 : decode mC_isSpareFor.2.1 41 = .ok (.iconst 0, 1) := by decide +kernel
theorem dC_isSpareFor_42 : decode mC_isSpareFor.2.1 42 = .ok (.ireturn, 1) := by decide +kernel
theorem dC_fuel_0 : decode mC_fuel.2.1 0 = .ok (.aload_n 0, 1) := by decide +kernel
theorem dC_fuel_1 : decode mC_fuel.2.1 1 = .ok (.iload_n 1, 1) := by decide +kernel
theorem dC_fuel_2 : decode mC_fuel.2.1 2 = .ok (.invokevirtual 73, 3) := by decide +kernel
theorem dC_fuel_5 : decode mC_fuel.2.1 5 = .ok (.astore_n 3, 1) := by decide +kernel
theorem dC_fuel_6 : decode mC_fuel.2.1 6 = .ok (.iload_n 2, 1) := by decide +kernel
theorem dC_fuel_7 : decode mC_fuel.2.1 7 = .ok (.iconst 1, 1) := by decide +kernel
theorem dC_fuel_8 : decode mC_fuel.2.1 8 = .ok (.ldc 119, 2) := by decide +kernel
theorem dC_fuel_10 : decode mC_fuel.2.1 10 = .ok (.invokestatic 57, 3) := by decide +kernel
theorem dC_fuel_13 : decode mC_fuel.2.1 13 = .ok (.aload_n 3, 1) := by decide +kernel
theorem dC_fuel_14 : decode mC_fuel.2.1 14 = .ok (.getfield 186, 3) := by decide +kernel
theorem dC_fuel_17 : decode mC_fuel.2.1 17 = .ok (.iload_n 2, 1) := by decide +kernel
theorem dC_fuel_18 : decode mC_fuel.2.1 18 = .ok (.ldc 189, 2) := by decide +kernel
theorem dC_fuel_20 : decode mC_fuel.2.1 20 = .ok (.invokestatic 171, 3) := by decide +kernel
theorem dC_fuel_23 : decode mC_fuel.2.1 23 = .ok (.aload_n 3, 1) := by decide +kernel
theorem dC_fuel_24 : decode mC_fuel.2.1 24 = .ok (.dup, 1) := by decide +kernel
theorem dC_fuel_25 : decode mC_fuel.2.1 25 = .ok (.getfield 186, 3) := by decide +kernel
theorem dC_fuel_28 : decode mC_fuel.2.1 28 = .ok (.iload_n 2, 1) := by decide +kernel
theorem dC_fuel_29 : decode mC_fuel.2.1 29 = .ok (.iadd, 1) := by decide +kernel
theorem dC_fuel_30 : decode mC_fuel.2.1 30 = .ok (.putfield 186, 3) := by decide +kernel
theorem dC_fuel_33 : decode mC_fuel.2.1 33 = .ok (.aload_n 3, 1) := by decide +kernel
theorem dC_fuel_34 : decode mC_fuel.2.1 34 = .ok (.getfield 186, 3) := by decide +kernel
theorem dC_fuel_37 : decode mC_fuel.2.1 37 = .ok (.ireturn, 1) := by decide +kernel
theorem dC_using_0 : decode mC_using.2.1 0 = .ok (.aload_n 0, 1) := by decide +kernel
theorem dC_using_1 : decode mC_using.2.1 1 = .ok (.iload_n 1, 1) := by decide +kernel
theorem dC_using_2 : decode mC_using.2.1 2 = .ok (.invokevirtual 73, 3) := by decide +kernel
theorem dC_using_5 : decode mC_using.2.1 5 = .ok (.astore_n 3, 1) := by decide +kernel
theorem dC_using_6 : decode mC_using.2.1 6 = .ok (.iload_n 2, 1) := by decide +kernel
theorem dC_using_7 : decode mC_using.2.1 7 = .ok (.ifCond .eq 18, 3) := by decide +kernel
theorem dC_using_10 : decode mC_using.2.1 10 = .ok (.iload_n 2, 1) := by decide +kernel
theorem dC_using_11 : decode mC_using.2.1 11 = .ok (.iconst 1, 1) := by decide +kernel
theorem dC_using_12 : decode mC_using.2.1 12 = .ok (.if_icmp .eq 13, 3) := by decide +kernel
theorem dC_using_15 : decode mC_using.2.1 15 = .ok (.new 114, 3) := by decide +kernel
theorem dC_using_18 : decode mC_using.2.1 18 = .ok (.dup, 1) := by decide +kernel
theorem dC_using_19 : decode mC_using.2.1 19 = .ok (.ldc 116, 2) := by decide +kernel
theorem dC_using_21 : decode mC_using.2.1 21 = .ok (.invokespecial 118, 3) := by decide +kernel
theorem dC_using_24 : decode mC_using.2.1 24 = .ok (.athrow, 1) := by decide +kernel
theorem dC_using_25 : decode mC_using.2.1 25 = .ok (.aload_n 3, 1) := by decide +kernel
theorem dC_using_26 : decode mC_using.2.1 26 = .ok (.getfield 190, 3) := by decide +kernel
theorem dC_using_29 : decode mC_using.2.1 29 = .ok (.ifCond .ne 13, 3) := by decide +kernel
theorem dC_using_32 : decode mC_using.2.1 32 = .ok (.new 124, 3) := by decide +kernel
theorem dC_using_35 : decode mC_using.2.1 35 = .ok (.dup, 1) := by decide +kernel
theorem dC_using_36 : decode mC_using.2.1 36 = .ok (.ldc 193, 2) := by decide +kernel
theorem dC_using_38 : decode mC_using.2.1 38 = .ok (.invokespecial 128, 3) := by decide +kernel
theorem dC_using_41 : decode mC_using.2.1 41 = .ok (.athrow, 1) := by decide +kernel
theorem dC_using_42 : decode mC_using.2.1 42 = .ok (.ldc2_w 195, 3) := by decide +kernel
theorem dC_using_45 : decode mC_using.2.1 45 = .ok (.aload_n 3, 1) := by decide +kernel
theorem dC_using_46 : decode mC_using.2.1 46 = .ok (.getfield 186, 3) := by decide +kernel
theorem dC_using_49 : decode mC_using.2.1 49 = .ok (.i2l, 1) := by decide +kernel
theorem dC_using_50 : decode mC_using.2.1 50 = .ok (.lmul, 1) := by decide +kernel
theorem dC_using_51 : decode mC_using.2.1 51 = .ok (.lstore 4, 2) := by decide +kernel
theorem dC_using_53 : decode mC_using.2.1 53 = .ok (.aload_n 3, 1) := by decide +kernel
theorem dC_using_54 : decode mC_using.2.1 54 = .ok (.getfield 190, 3) := by decide +kernel
theorem dC_using_57 : decode mC_using.2.1 57 = .ok (.i2l, 1) := by decide +kernel
theorem dC_using_58 : decode mC_using.2.1 58 = .ok (.lstore 6, 2) := by decide +kernel
theorem dC_using_60 : decode mC_using.2.1 60 = .ok (.lload 4, 2) := by decide +kernel
theorem dC_using_62 : decode mC_using.2.1 62 = .ok (.lload 6, 2) := by decide +kernel
theorem dC_using_64 : decode mC_using.2.1 64 = .ok (.invokestatic 197, 3) := by decide +kernel
theorem dC_using_67 : decode mC_using.2.1 67 = .ok (.lstore 8, 2) := by decide +kernel
theorem dC_using_69 : decode mC_using.2.1 69 = .ok (.iload_n 2, 1) := by decide +kernel
theorem dC_using_70 : decode mC_using.2.1 70 = .ok (.ifCond .ne 8, 3) := by decide +kernel
theorem dC_using_73 : decode mC_using.2.1 73 = .ok (.lload 4, 2) := by decide +kernel
theorem dC_using_75 : decode mC_using.2.1 75 = .ok (.goto 5, 3) := by decide +kernel
theorem dC_using_78 : decode mC_using.2.1 78 = .ok (.lload 6, 2) := by decide +kernel
theorem dC_using_80 : decode mC_using.2.1 80 = .ok (.lload 8, 2) := by decide +kernel
theorem dC_using_82 : decode mC_using.2.1 82 = .ok (.ldiv, 1) := by decide +kernel
theorem dC_using_83 : decode mC_using.2.1 83 = .ok (.lreturn, 1) := by decide +kernel
theorem dC_commonDivisor_0 : decode mC_commonDivisor.2.1 0 = .ok (.lload_n 0, 1) := by decide +kernel
theorem dC_commonDivisor_1 : decode mC_commonDivisor.2.1 1 = .ok (.lstore 4, 2) := by decide +kernel
theorem dC_commonDivisor_3 : decode mC_commonDivisor.2.1 3 = .ok (.lload_n 2, 1) := by decide +kernel
theorem dC_commonDivisor_4 : decode mC_commonDivisor.2.1 4 = .ok (.lstore 6, 2) := by decide +kernel
theorem dC_commonDivisor_6 : decode mC_commonDivisor.2.1 6 = .ok (.iconst 0, 1) := by decide +kernel
theorem dC_commonDivisor_7 : decode mC_commonDivisor.2.1 7 = .ok (.istore 8, 2) := by decide +kernel
theorem dC_commonDivisor_9 : decode mC_commonDivisor.2.1 9 = .ok (.iload 8, 2) := by decide +kernel
theorem dC_commonDivisor_11 : decode mC_commonDivisor.2.1 11 = .ok (.sipush 200, 3) := by decide +kernel
theorem dC_commonDivisor_14 : decode mC_commonDivisor.2.1 14 = .ok (.if_icmp .ge 31, 3) := by decide +kernel
theorem dC_commonDivisor_17 : decode mC_commonDivisor.2.1 17 = .ok (.lload 6, 2) := by decide +kernel
theorem dC_commonDivisor_19 : decode mC_commonDivisor.2.1 19 = .ok (.lconst 0, 1) := by decide +kernel
theorem dC_commonDivisor_20 : decode mC_commonDivisor.2.1 20 = .ok (.lcmp, 1) := by decide +kernel
theorem dC_commonDivisor_21 : decode mC_commonDivisor.2.1 21 = .ok (.ifCond .eq 24, 3) := by decide +kernel
theorem dC_commonDivisor_24 : decode mC_commonDivisor.2.1 24 = .ok (.lload 4, 2) := by decide +kernel
theorem dC_commonDivisor_26 : decode mC_commonDivisor.2.1 26 = .ok (.lload 6, 2) := by decide +kernel
theorem dC_commonDivisor_28 : decode mC_commonDivisor.2.1 28 = .ok (.lrem, 1) := by decide +kernel
theorem dC_commonDivisor_29 : decode mC_commonDivisor.2.1 29 = .ok (.lstore 9, 2) := by decide +kernel
theorem dC_commonDivisor_31 : decode mC_commonDivisor.2.1 31 = .ok (.lload 6, 2) := by decide +kernel
theorem dC_commonDivisor_33 : decode mC_commonDivisor.2.1 33 = .ok (.lstore 4, 2) := by decide +kernel
theorem dC_commonDivisor_35 : decode mC_commonDivisor.2.1 35 = .ok (.lload 9, 2) := by decide +kernel
theorem dC_commonDivisor_37 : decode mC_commonDivisor.2.1 37 = .ok (.lstore 6, 2) := by decide +kernel
theorem dC_commonDivisor_39 : decode mC_commonDivisor.2.1 39 = .ok (.iinc 8 1, 3) := by decide +kernel
theorem dC_commonDivisor_42 : decode mC_commonDivisor.2.1 42 = .ok (.goto (-33), 3) := by decide +kernel
theorem dC_commonDivisor_45 : decode mC_commonDivisor.2.1 45 = .ok (.lconst 1, 1) := by decide +kernel
theorem dC_commonDivisor_46 : decode mC_commonDivisor.2.1 46 = .ok (.lload 4, 2) := by decide +kernel
theorem dC_commonDivisor_48 : decode mC_commonDivisor.2.1 48 = .ok (.invokestatic 241, 3) := by decide +kernel
theorem dC_commonDivisor_51 : decode mC_commonDivisor.2.1 51 = .ok (.lreturn, 1) := by decide +kernel
theorem dC_key_0 : decode mC_key.2.1 0 = .ok (.aload_n 0, 1) := by decide +kernel
theorem dC_key_1 : decode mC_key.2.1 1 = .ok (.iload_n 1, 1) := by decide +kernel
theorem dC_key_2 : decode mC_key.2.1 2 = .ok (.invokevirtual 73, 3) := by decide +kernel
theorem dC_key_5 : decode mC_key.2.1 5 = .ok (.astore_n 3, 1) := by decide +kernel
theorem dC_key_6 : decode mC_key.2.1 6 = .ok (.iload_n 2, 1) := by decide +kernel
theorem dC_key_7 : decode mC_key.2.1 7 = .ok (.iconst (-1), 1) := by decide +kernel
theorem dC_key_8 : decode mC_key.2.1 8 = .ok (.if_icmp .eq 7, 3) := by decide +kernel
theorem dC_key_11 : decode mC_key.2.1 11 = .ok (.iload_n 2, 1) := by decide +kernel
theorem dC_key_12 : decode mC_key.2.1 12 = .ok (.invokestatic 77, 3) := by decide +kernel
theorem dC_key_15 : decode mC_key.2.1 15 = .ok (.aload_n 3, 1) := by decide +kernel
theorem dC_key_16 : decode mC_key.2.1 16 = .ok (.getfield 201, 3) := by decide +kernel
theorem dC_key_19 : decode mC_key.2.1 19 = .ok (.istore 4, 2) := by decide +kernel
theorem dC_key_21 : decode mC_key.2.1 21 = .ok (.iload 4, 2) := by decide +kernel
theorem dC_key_23 : decode mC_key.2.1 23 = .ok (.iload_n 2, 1) := by decide +kernel
theorem dC_key_24 : decode mC_key.2.1 24 = .ok (.if_icmp .ne 13, 3) := by decide +kernel
theorem dC_key_27 : decode mC_key.2.1 27 = .ok (.new 124, 3) := by decide +kernel
theorem dC_key_30 : decode mC_key.2.1 30 = .ok (.dup, 1) := by decide +kernel
theorem dC_key_31 : decode mC_key.2.1 31 = .ok (.ldc 204, 2) := by decide +kernel
theorem dC_key_33 : decode mC_key.2.1 33 = .ok (.invokespecial 128, 3) := by decide +kernel
theorem dC_key_36 : decode mC_key.2.1 36 = .ok (.athrow, 1) := by decide +kernel
theorem dC_key_37 : decode mC_key.2.1 37 = .ok (.aload_n 3, 1) := by decide +kernel
theorem dC_key_38 : decode mC_key.2.1 38 = .ok (.iload_n 2, 1) := by decide +kernel
theorem dC_key_39 : decode mC_key.2.1 39 = .ok (.putfield 201, 3) := by decide +kernel
theorem dC_key_42 : decode mC_key.2.1 42 = .ok (.iload 4, 2) := by decide +kernel
theorem dC_key_44 : decode mC_key.2.1 44 = .ok (.ireturn, 1) := by decide +kernel
theorem dC_cost_0 : decode mC_cost.2.1 0 = .ok (.aload_n 0, 1) := by decide +kernel
theorem dC_cost_1 : decode mC_cost.2.1 1 = .ok (.iload_n 1, 1) := by decide +kernel
theorem dC_cost_2 : decode mC_cost.2.1 2 = .ok (.invokevirtual 73, 3) := by decide +kernel
theorem dC_cost_5 : decode mC_cost.2.1 5 = .ok (.astore_n 3, 1) := by decide +kernel
theorem dC_cost_6 : decode mC_cost.2.1 6 = .ok (.iload_n 2, 1) := by decide +kernel
theorem dC_cost_7 : decode mC_cost.2.1 7 = .ok (.iconst 0, 1) := by decide +kernel
theorem dC_cost_8 : decode mC_cost.2.1 8 = .ok (.ldc 206, 2) := by decide +kernel
theorem dC_cost_10 : decode mC_cost.2.1 10 = .ok (.invokestatic 57, 3) := by decide +kernel
theorem dC_cost_13 : decode mC_cost.2.1 13 = .ok (.aload_n 3, 1) := by decide +kernel
theorem dC_cost_14 : decode mC_cost.2.1 14 = .ok (.getfield 207, 3) := by decide +kernel
theorem dC_cost_17 : decode mC_cost.2.1 17 = .ok (.iload_n 2, 1) := by decide +kernel
theorem dC_cost_18 : decode mC_cost.2.1 18 = .ok (.ldc 189, 2) := by decide +kernel
theorem dC_cost_20 : decode mC_cost.2.1 20 = .ok (.invokestatic 171, 3) := by decide +kernel
theorem dC_cost_23 : decode mC_cost.2.1 23 = .ok (.aload_n 3, 1) := by decide +kernel
theorem dC_cost_24 : decode mC_cost.2.1 24 = .ok (.dup, 1) := by decide +kernel
theorem dC_cost_25 : decode mC_cost.2.1 25 = .ok (.getfield 207, 3) := by decide +kernel
theorem dC_cost_28 : decode mC_cost.2.1 28 = .ok (.iload_n 2, 1) := by decide +kernel
theorem dC_cost_29 : decode mC_cost.2.1 29 = .ok (.iadd, 1) := by decide +kernel
theorem dC_cost_30 : decode mC_cost.2.1 30 = .ok (.putfield 207, 3) := by decide +kernel
theorem dC_cost_33 : decode mC_cost.2.1 33 = .ok (.aload_n 3, 1) := by decide +kernel
theorem dC_cost_34 : decode mC_cost.2.1 34 = .ok (.getfield 207, 3) := by decide +kernel
theorem dC_cost_37 : decode mC_cost.2.1 37 = .ok (.ireturn, 1) := by decide +kernel
theorem dC_skipped_0 : decode mC_skipped.2.1 0 = .ok (.iload_n 1, 1) := by decide +kernel
theorem dC_skipped_1 : decode mC_skipped.2.1 1 = .ok (.invokestatic 132, 3) := by decide +kernel
theorem dC_skipped_4 : decode mC_skipped.2.1 4 = .ok (.iload_n 1, 1) := by decide +kernel
theorem dC_skipped_5 : decode mC_skipped.2.1 5 = .ok (.istore_n 2, 1) := by decide +kernel
theorem dC_skipped_6 : decode mC_skipped.2.1 6 = .ok (.iconst 0, 1) := by decide +kernel
theorem dC_skipped_7 : decode mC_skipped.2.1 7 = .ok (.istore_n 3, 1) := by decide +kernel
theorem dC_skipped_8 : decode mC_skipped.2.1 8 = .ok (.iload_n 3, 1) := by decide +kernel
theorem dC_skipped_9 : decode mC_skipped.2.1 9 = .ok (.bipush 20, 2) := by decide +kernel
theorem dC_skipped_11 : decode mC_skipped.2.1 11 = .ok (.if_icmp .ge 79, 3) := by decide +kernel
theorem dC_skipped_14 : decode mC_skipped.2.1 14 = .ok (.aload_n 0, 1) := by decide +kernel
theorem dC_skipped_15 : decode mC_skipped.2.1 15 = .ok (.getfield 18, 3) := by decide +kernel
theorem dC_skipped_18 : decode mC_skipped.2.1 18 = .ok (.iload_n 3, 1) := by decide +kernel
theorem dC_skipped_19 : decode mC_skipped.2.1 19 = .ok (.aaload, 1) := by decide +kernel
theorem dC_skipped_20 : decode mC_skipped.2.1 20 = .ok (.ifnull 70, 3) := by decide +kernel
theorem dC_skipped_23 : decode mC_skipped.2.1 23 = .ok (.iconst 0, 1) := by decide +kernel
theorem dC_skipped_24 : decode mC_skipped.2.1 24 = .ok (.istore 4, 2) := by decide +kernel
theorem dC_skipped_26 : decode mC_skipped.2.1 26 = .ok (.iload 4, 2) := by decide +kernel
theorem dC_skipped_28 : decode mC_skipped.2.1 28 = .ok (.bipush 10, 2) := by decide +kernel
theorem dC_skipped_30 : decode mC_skipped.2.1 30 = .ok (.if_icmp .ge 54, 3) := by decide +kernel
theorem dC_skipped_33 : decode mC_skipped.2.1 33 = .ok (.aload_n 0, 1) := by decide +kernel
theorem dC_skipped_34 : decode mC_skipped.2.1 34 = .ok (.getfield 18, 3) := by decide +kernel
theorem dC_skipped_37 : decode mC_skipped.2.1 37 = .ok (.iload_n 3, 1) := by decide +kernel
theorem dC_skipped_38 : decode mC_skipped.2.1 38 = .ok (.aaload, 1) := by decide +kernel
theorem dC_skipped_39 : decode mC_skipped.2.1 39 = .ok (.getfield 142, 3) := by decide +kernel
theorem dC_skipped_42 : decode mC_skipped.2.1 42 = .ok (.ifCond .ne 42, 3) := by decide +kernel
theorem dC_skipped_45 : decode mC_skipped.2.1 45 = .ok (.aload_n 0, 1) := by decide +kernel
theorem dC_skipped_46 : decode mC_skipped.2.1 46 = .ok (.getfield 18, 3) := by decide +kernel
theorem dC_skipped_49 : decode mC_skipped.2.1 49 = .ok (.iload_n 3, 1) := by decide +kernel
theorem dC_skipped_50 : decode mC_skipped.2.1 50 = .ok (.aaload, 1) := by decide +kernel
theorem dC_skipped_51 : decode mC_skipped.2.1 51 = .ok (.iload 4, 2) := by decide +kernel
theorem dC_skipped_53 : decode mC_skipped.2.1 53 = .ok (.aload_n 0, 1) := by decide +kernel
theorem dC_skipped_54 : decode mC_skipped.2.1 54 = .ok (.getfield 47, 3) := by decide +kernel
theorem dC_skipped_57 : decode mC_skipped.2.1 57 = .ok (.invokevirtual 111, 3) := by decide +kernel
theorem dC_skipped_60 : decode mC_skipped.2.1 60 = .ok (.ifCond .eq 18, 3) := by decide +kernel
theorem dC_skipped_63 : decode mC_skipped.2.1 63 = .ok (.iload_n 2, 1) := by decide +kernel
theorem dC_skipped_64 : decode mC_skipped.2.1 64 = .ok (.ifCond .ne 11, 3) := by decide +kernel
theorem dC_skipped_67 : decode mC_skipped.2.1 67 = .ok (.bipush 10, 2) := by decide +kernel
theorem dC_skipped_69 : decode mC_skipped.2.1 69 = .ok (.iload_n 3, 1) := by decide +kernel
theorem dC_skipped_70 : decode mC_skipped.2.1 70 = .ok (.imul, 1) := by decide +kernel
theorem dC_skipped_71 : decode mC_skipped.2.1 71 = .ok (.iload 4, 2) := by decide +kernel
theorem dC_skipped_73 : decode mC_skipped.2.1 73 = .ok (.iadd, 1) := by decide +kernel
theorem dC_skipped_74 : decode mC_skipped.2.1 74 = .ok (.ireturn, 1) := by decide +kernel
theorem dC_skipped_75 : decode mC_skipped.2.1 75 = .ok (.iinc 2 (-1), 3) := by decide +kernel
theorem dC_skipped_78 : decode mC_skipped.2.1 78 = .ok (.iinc 4 1, 3) := by decide +kernel
theorem dC_skipped_81 : decode mC_skipped.2.1 81 = .ok (.goto (-55), 3) := by decide +kernel
theorem dC_skipped_84 : decode mC_skipped.2.1 84 = .ok (.iinc 3 1, 3) := by decide +kernel
theorem dC_skipped_87 : decode mC_skipped.2.1 87 = .ok (.goto (-79), 3) := by decide +kernel
theorem dC_skipped_90 : decode mC_skipped.2.1 90 = .ok (.iconst (-1), 1) := by decide +kernel
theorem dC_skipped_91 : decode mC_skipped.2.1 91 = .ok (.ireturn, 1) := by decide +kernel
theorem dC_tick_0 : decode mC_tick.2.1 0 = .ok (.iload_n 1, 1) := by decide +kernel
theorem dC_tick_1 : decode mC_tick.2.1 1 = .ok (.iconst 1, 1) := by decide +kernel
theorem dC_tick_2 : decode mC_tick.2.1 2 = .ok (.sipush 5000, 3) := by decide +kernel
theorem dC_tick_5 : decode mC_tick.2.1 5 = .ok (.invokestatic 57, 3) := by decide +kernel
theorem dC_tick_8 : decode mC_tick.2.1 8 = .ok (.aload_n 0, 1) := by decide +kernel
theorem dC_tick_9 : decode mC_tick.2.1 9 = .ok (.getfield 47, 3) := by decide +kernel
theorem dC_tick_12 : decode mC_tick.2.1 12 = .ok (.iload_n 1, 1) := by decide +kernel
theorem dC_tick_13 : decode mC_tick.2.1 13 = .ok (.iadd, 1) := by decide +kernel
theorem dC_tick_14 : decode mC_tick.2.1 14 = .ok (.iconst 0, 1) := by decide +kernel
theorem dC_tick_15 : decode mC_tick.2.1 15 = .ok (.ldc 81, 2) := by decide +kernel
theorem dC_tick_17 : decode mC_tick.2.1 17 = .ok (.invokestatic 57, 3) := by decide +kernel
theorem dC_tick_20 : decode mC_tick.2.1 20 = .ok (.aload_n 0, 1) := by decide +kernel
theorem dC_tick_21 : decode mC_tick.2.1 21 = .ok (.dup, 1) := by decide +kernel
theorem dC_tick_22 : decode mC_tick.2.1 22 = .ok (.getfield 47, 3) := by decide +kernel
theorem dC_tick_25 : decode mC_tick.2.1 25 = .ok (.iload_n 1, 1) := by decide +kernel
theorem dC_tick_26 : decode mC_tick.2.1 26 = .ok (.iadd, 1) := by decide +kernel
theorem dC_tick_27 : decode mC_tick.2.1 27 = .ok (.putfield 47, 3) := by decide +kernel
theorem dC_tick_30 : decode mC_tick.2.1 30 = .ok (.iconst 0, 1) := by decide +kernel
theorem dC_tick_31 : decode mC_tick.2.1 31 = .ok (.istore_n 2, 1) := by decide +kernel
theorem dC_tick_32 : decode mC_tick.2.1 32 = .ok (.iconst 0, 1) := by decide +kernel
theorem dC_tick_33 : decode mC_tick.2.1 33 = .ok (.istore_n 3, 1) := by decide +kernel
theorem dC_tick_34 : decode mC_tick.2.1 34 = .ok (.iload_n 3, 1) := by decide +kernel
theorem dC_tick_35 : decode mC_tick.2.1 35 = .ok (.bipush 20, 2) := by decide +kernel
theorem dC_tick_37 : decode mC_tick.2.1 37 = .ok (.if_icmp .ge 34, 3) := by decide +kernel
theorem dC_tick_40 : decode mC_tick.2.1 40 = .ok (.aload_n 0, 1) := by decide +kernel
theorem dC_tick_41 : decode mC_tick.2.1 41 = .ok (.getfield 18, 3) := by decide +kernel
theorem dC_tick_44 : decode mC_tick.2.1 44 = .ok (.iload_n 3, 1) := by decide +kernel
theorem dC_tick_45 : decode mC_tick.2.1 45 = .ok (.aaload, 1) := by decide +kernel
theorem dC_tick_46 : decode mC_tick.2.1 46 = .ok (.ifnull 25, 3) := by decide +kernel
theorem dC_tick_49 : decode mC_tick.2.1 49 = .ok (.aload_n 0, 1) := by decide +kernel
theorem dC_tick_50 : decode mC_tick.2.1 50 = .ok (.aload_n 0, 1) := by decide +kernel
theorem dC_tick_51 : decode mC_tick.2.1 51 = .ok (.getfield 18, 3) := by decide +kernel
theorem dC_tick_54 : decode mC_tick.2.1 54 = .ok (.iload_n 3, 1) := by decide +kernel
theorem dC_tick_55 : decode mC_tick.2.1 55 = .ok (.aaload, 1) := by decide +kernel
theorem dC_tick_56 : decode mC_tick.2.1 56 = .ok (.invokevirtual 120, 3) := by decide +kernel
theorem dC_tick_59 : decode mC_tick.2.1 59 = .ok (.ifCond .eq 6, 3) := by decide +kernel
theorem dC_tick_62 : decode mC_tick.2.1 62 = .ok (.iinc 2 1, 3) := by decide +kernel
theorem dC_tick_65 : decode mC_tick.2.1 65 = .ok (.iinc 3 1, 3) := by decide +kernel
theorem dC_tick_68 : decode mC_tick.2.1 68 = .ok (.goto (-34), 3) := by decide +kernel
theorem dC_tick_71 : decode mC_tick.2.1 71 = .ok (.iload_n 2, 1) := by decide +kernel
theorem dC_tick_72 : decode mC_tick.2.1 72 = .ok (.ireturn, 1) := by decide +kernel
theorem dC_vehicleAt_0 : decode mC_vehicleAt.2.1 0 = .ok (.aload_n 0, 1) := by decide +kernel
theorem dC_vehicleAt_1 : decode mC_vehicleAt.2.1 1 = .ok (.iload_n 1, 1) := by decide +kernel
theorem dC_vehicleAt_2 : decode mC_vehicleAt.2.1 2 = .ok (.invokevirtual 73, 3) := by decide +kernel
theorem dC_vehicleAt_5 : decode mC_vehicleAt.2.1 5 = .ok (.astore_n 3, 1) := by decide +kernel
theorem dC_vehicleAt_6 : decode mC_vehicleAt.2.1 6 = .ok (.iload_n 2, 1) := by decide +kernel
theorem dC_vehicleAt_7 : decode mC_vehicleAt.2.1 7 = .ok (.tableswitch 79 0 5 #[37, 42, 58, 63, 68, 74], 37) := by decide +kernel
theorem dC_vehicleAt_44 : decode mC_vehicleAt.2.1 44 = .ok (.aload_n 3, 1) := by decide +kernel
theorem dC_vehicleAt_45 : decode mC_vehicleAt.2.1 45 = .ok (.getfield 190, 3) := by decide +kernel
theorem dC_vehicleAt_48 : decode mC_vehicleAt.2.1 48 = .ok (.ireturn, 1) := by decide +kernel
theorem dC_vehicleAt_49 : decode mC_vehicleAt.2.1 49 = .ok (.aload_n 3, 1) := by decide +kernel
theorem dC_vehicleAt_50 : decode mC_vehicleAt.2.1 50 = .ok (.getfield 142, 3) := by decide +kernel
theorem dC_vehicleAt_53 : decode mC_vehicleAt.2.1 53 = .ok (.ifCond .ne 7, 3) := by decide +kernel
theorem dC_vehicleAt_56 : decode mC_vehicleAt.2.1 56 = .ok (.iconst 1, 1) := by decide +kernel
theorem dC_vehicleAt_57 : decode mC_vehicleAt.2.1 57 = .ok (.goto 4, 3) := by decide +kernel
theorem dC_vehicleAt_60 : decode mC_vehicleAt.2.1 60 = .ok (.iconst 0, 1) := by decide +kernel
theorem dC_vehicleAt_61 : decode mC_vehicleAt.2.1 61 = .ok (.invokestatic 94, 3) := by decide +kernel
theorem dC_vehicleAt_64 : decode mC_vehicleAt.2.1 64 = .ok (.ireturn, 1) := by decide +kernel
theorem dC_vehicleAt_65 : decode mC_vehicleAt.2.1 65 = .ok (.aload_n 3, 1) := by decide +kernel
theorem dC_vehicleAt_66 : decode mC_vehicleAt.2.1 66 = .ok (.getfield 210, 3) := by decide +kernel
theorem dC_vehicleAt_69 : decode mC_vehicleAt.2.1 69 = .ok (.ireturn, 1) := by decide +kernel
theorem dC_vehicleAt_70 : decode mC_vehicleAt.2.1 70 = .ok (.aload_n 3, 1) := by decide +kernel
theorem dC_vehicleAt_71 : decode mC_vehicleAt.2.1 71 = .ok (.getfield 213, 3) := by decide +kernel
theorem dC_vehicleAt_74 : decode mC_vehicleAt.2.1 74 = .ok (.ireturn, 1) := by decide +kernel
theorem dC_vehicleAt_75 : decode mC_vehicleAt.2.1 75 = .ok (.aload_n 0, 1) := by decide +kernel
theorem dC_vehicleAt_76 : decode mC_vehicleAt.2.1 76 = .ok (.aload_n 3, 1) := by decide +kernel
theorem dC_vehicleAt_77 : decode mC_vehicleAt.2.1 77 = .ok (.invokevirtual 216, 3) := by decide +kernel
theorem dC_vehicleAt_80 : decode mC_vehicleAt.2.1 80 = .ok (.ireturn, 1) := by decide +kernel
theorem dC_vehicleAt_81 : decode mC_vehicleAt.2.1 81 = .ok (.aload_n 3, 1) := by decide +kernel
theorem dC_vehicleAt_82 : decode mC_vehicleAt.2.1 82 = .ok (.getfield 201, 3) := by decide +kernel
theorem dC_vehicleAt_85 : decode mC_vehicleAt.2.1 85 = .ok (.ireturn, 1) := by decide +kernel
theorem dC_vehicleAt_86 : decode mC_vehicleAt.2.1 86 = .ok (.new 114, 3) := by decide +kernel
theorem dC_vehicleAt_89 : decode mC_vehicleAt.2.1 89 = .ok (.dup, 1) := by decide +kernel
theorem dC_vehicleAt_90 : decode mC_vehicleAt.2.1 90 = .ok (.ldc 116, 2) := by decide +kernel
theorem dC_vehicleAt_92 : decode mC_vehicleAt.2.1 92 = .ok (.invokespecial 118, 3) := by decide +kernel
theorem dC_vehicleAt_95 : decode mC_vehicleAt.2.1 95 = .ok (.athrow, 1) := by decide +kernel
theorem dC_openDamages_0 : decode mC_openDamages.2.1 0 = .ok (.iconst 0, 1) := by decide +kernel
theorem dC_openDamages_1 : decode mC_openDamages.2.1 1 = .ok (.istore_n 2, 1) := by decide +kernel
theorem dC_openDamages_2 : decode mC_openDamages.2.1 2 = .ok (.iconst 0, 1) := by decide +kernel
theorem dC_openDamages_3 : decode mC_openDamages.2.1 3 = .ok (.istore_n 3, 1) := by decide +kernel
theorem dC_openDamages_4 : decode mC_openDamages.2.1 4 = .ok (.iload_n 3, 1) := by decide +kernel
theorem dC_openDamages_5 : decode mC_openDamages.2.1 5 = .ok (.bipush 100, 2) := by decide +kernel
theorem dC_openDamages_7 : decode mC_openDamages.2.1 7 = .ok (.if_icmp .ge 29, 3) := by decide +kernel
theorem dC_openDamages_10 : decode mC_openDamages.2.1 10 = .ok (.iload_n 3, 1) := by decide +kernel
theorem dC_openDamages_11 : decode mC_openDamages.2.1 11 = .ok (.aload_n 0, 1) := by decide +kernel
theorem dC_openDamages_12 : decode mC_openDamages.2.1 12 = .ok (.getfield 150, 3) := by decide +kernel
theorem dC_openDamages_15 : decode mC_openDamages.2.1 15 = .ok (.if_icmp .ge 21, 3) := by decide +kernel
theorem dC_openDamages_18 : decode mC_openDamages.2.1 18 = .ok (.aload_n 0, 1) := by decide +kernel
theorem dC_openDamages_19 : decode mC_openDamages.2.1 19 = .ok (.iload_n 3, 1) := by decide +kernel
theorem dC_openDamages_20 : decode mC_openDamages.2.1 20 = .ok (.aload_n 1, 1) := by decide +kernel
theorem dC_openDamages_21 : decode mC_openDamages.2.1 21 = .ok (.invokevirtual 253, 3) := by decide +kernel
theorem dC_openDamages_24 : decode mC_openDamages.2.1 24 = .ok (.ifCond .eq 6, 3) := by decide +kernel
theorem dC_openDamages_27 : decode mC_openDamages.2.1 27 = .ok (.iinc 2 1, 3) := by decide +kernel
theorem dC_openDamages_30 : decode mC_openDamages.2.1 30 = .ok (.iinc 3 1, 3) := by decide +kernel
theorem dC_openDamages_33 : decode mC_openDamages.2.1 33 = .ok (.goto (-29), 3) := by decide +kernel
theorem dC_openDamages_36 : decode mC_openDamages.2.1 36 = .ok (.iload_n 2, 1) := by decide +kernel
theorem dC_openDamages_37 : decode mC_openDamages.2.1 37 = .ok (.ireturn, 1) := by decide +kernel
end
section
theorem dR_init_0 : decode mR_init.2.1 0 = .ok (.aload_n 0, 1) := by decide +kernel
theorem dR_init_1 : decode mR_init.2.1 1 = .ok (.invokespecial 1, 3) := by decide +kernel
theorem dR_init_4 : decode mR_init.2.1 4 = .ok (.aload_n 0, 1) := by decide +kernel
theorem dR_init_5 : decode mR_init.2.1 5 = .ok (.bipush 50, 2) := by decide +kernel
theorem dR_init_7 : decode mR_init.2.1 7 = .ok (.newarray .boolean, 2) := by decide +kernel
theorem dR_init_9 : decode mR_init.2.1 9 = .ok (.putfield 7, 3) := by decide +kernel
theorem dR_init_12 : decode mR_init.2.1 12 = .ok (.aload_n 0, 1) := by decide +kernel
theorem dR_init_13 : decode mR_init.2.1 13 = .ok (.bipush 50, 2) := by decide +kernel
theorem dR_init_15 : decode mR_init.2.1 15 = .ok (.newarray .int, 2) := by decide +kernel
theorem dR_init_17 : decode mR_init.2.1 17 = .ok (.putfield 13, 3) := by decide +kernel
theorem dR_init_20 : decode mR_init.2.1 20 = .ok (.aload_n 0, 1) := by decide +kernel
theorem dR_init_21 : decode mR_init.2.1 21 = .ok (.bipush 50, 2) := by decide +kernel
theorem dR_init_23 : decode mR_init.2.1 23 = .ok (.newarray .int, 2) := by decide +kernel
theorem dR_init_25 : decode mR_init.2.1 25 = .ok (.putfield 17, 3) := by decide +kernel
theorem dR_init_28 : decode mR_init.2.1 28 = .ok (.aload_n 0, 1) := by decide +kernel
theorem dR_init_29 : decode mR_init.2.1 29 = .ok (.bipush 50, 2) := by decide +kernel
theorem dR_init_31 : decode mR_init.2.1 31 = .ok (.newarray .int, 2) := by decide +kernel
theorem dR_init_33 : decode mR_init.2.1 33 = .ok (.putfield 20, 3) := by decide +kernel
theorem dR_init_36 : decode mR_init.2.1 36 = .ok (.aload_n 0, 1) := by decide +kernel
theorem dR_init_37 : decode mR_init.2.1 37 = .ok (.bipush 50, 2) := by decide +kernel
theorem dR_init_39 : decode mR_init.2.1 39 = .ok (.newarray .int, 2) := by decide +kernel
theorem dR_init_41 : decode mR_init.2.1 41 = .ok (.putfield 23, 3) := by decide +kernel
theorem dR_init_44 : decode mR_init.2.1 44 = .ok (.aload_n 0, 1) := by decide +kernel
theorem dR_init_45 : decode mR_init.2.1 45 = .ok (.bipush 50, 2) := by decide +kernel
theorem dR_init_47 : decode mR_init.2.1 47 = .ok (.newarray .int, 2) := by decide +kernel
theorem dR_init_49 : decode mR_init.2.1 49 = .ok (.putfield 26, 3) := by decide +kernel
theorem dR_init_52 : decode mR_init.2.1 52 = .ok (.aload_n 0, 1) := by decide +kernel
theorem dR_init_53 : decode mR_init.2.1 53 = .ok (.bipush 20, 2) := by decide +kernel
theorem dR_init_55 : decode mR_init.2.1 55 = .ok (.newarray .int, 2) := by decide +kernel
theorem dR_init_57 : decode mR_init.2.1 57 = .ok (.putfield 29, 3) := by decide +kernel
theorem dR_init_60 : decode mR_init.2.1 60 = .ok (.aload_n 0, 1) := by decide +kernel
theorem dR_init_61 : decode mR_init.2.1 61 = .ok (.bipush 20, 2) := by decide +kernel
theorem dR_init_63 : decode mR_init.2.1 63 = .ok (.newarray .boolean, 2) := by decide +kernel
theorem dR_init_65 : decode mR_init.2.1 65 = .ok (.putfield 32, 3) := by decide +kernel
theorem dR_init_68 : decode mR_init.2.1 68 = .ok (.aload_n 0, 1) := by decide +kernel
theorem dR_init_69 : decode mR_init.2.1 69 = .ok (.bipush 20, 2) := by decide +kernel
theorem dR_init_71 : decode mR_init.2.1 71 = .ok (.newarray .boolean, 2) := by decide +kernel
theorem dR_init_73 : decode mR_init.2.1 73 = .ok (.putfield 35, 3) := by decide +kernel
theorem dR_init_76 : decode mR_init.2.1 76 = .ok (.aload_n 0, 1) := by decide +kernel
theorem dR_init_77 : decode mR_init.2.1 77 = .ok (.bipush 20, 2) := by decide +kernel
theorem dR_init_79 : decode mR_init.2.1 79 = .ok (.newarray .int, 2) := by decide +kernel
theorem dR_init_81 : decode mR_init.2.1 81 = .ok (.putfield 38, 3) := by decide +kernel
theorem dR_init_84 : decode mR_init.2.1 84 = .ok (.aload_n 0, 1) := by decide +kernel
theorem dR_init_85 : decode mR_init.2.1 85 = .ok (.bipush 20, 2) := by decide +kernel
theorem dR_init_87 : decode mR_init.2.1 87 = .ok (.newarray .int, 2) := by decide +kernel
theorem dR_init_89 : decode mR_init.2.1 89 = .ok (.putfield 41, 3) := by decide +kernel
theorem dR_init_92 : decode mR_init.2.1 92 = .ok (.aload_n 0, 1) := by decide +kernel
theorem dR_init_93 : decode mR_init.2.1 93 = .ok (.bipush 20, 2) := by decide +kernel
theorem dR_init_95 : decode mR_init.2.1 95 = .ok (.newarray .int, 2) := by decide +kernel
theorem dR_init_97 : decode mR_init.2.1 97 = .ok (.putfield 44, 3) := by decide +kernel
theorem dR_init_100 : decode mR_init.2.1 100 = .ok (.aload_n 0, 1) := by decide +kernel
theorem dR_init_101 : decode mR_init.2.1 101 = .ok (.bipush 20, 2) := by decide +kernel
theorem dR_init_103 : decode mR_init.2.1 103 = .ok (.newarray .int, 2) := by decide +kernel
theorem dR_init_105 : decode mR_init.2.1 105 = .ok (.putfield 47, 3) := by decide +kernel
theorem dR_init_108 : decode mR_init.2.1 108 = .ok (.aload_n 0, 1) := by decide +kernel
theorem dR_init_109 : decode mR_init.2.1 109 = .ok (.bipush 20, 2) := by decide +kernel
theorem dR_init_111 : decode mR_init.2.1 111 = .ok (.newarray .int, 2) := by decide +kernel
theorem dR_init_113 : decode mR_init.2.1 113 = .ok (.putfield 50, 3) := by decide +kernel
theorem dR_init_116 : decode mR_init.2.1 116 = .ok (.aload_n 0, 1) := by decide +kernel
theorem dR_init_117 : decode mR_init.2.1 117 = .ok (.bipush 20, 2) := by decide +kernel
theorem dR_init_119 : decode mR_init.2.1 119 = .ok (.newarray .int, 2) := by decide +kernel
theorem dR_init_121 : decode mR_init.2.1 121 = .ok (.putfield 53, 3) := by decide +kernel
theorem dR_init_124 : decode mR_init.2.1 124 = .ok (.aload_n 0, 1) := by decide +kernel
theorem dR_init_125 : decode mR_init.2.1 125 = .ok (.bipush 20, 2) := by decide +kernel
theorem dR_init_127 : decode mR_init.2.1 127 = .ok (.newarray .int, 2) := by decide +kernel
theorem dR_init_129 : decode mR_init.2.1 129 = .ok (.putfield 56, 3) := by decide +kernel
theorem dR_init_132 : decode mR_init.2.1 132 = .ok (.aload_n 0, 1) := by decide +kernel
theorem dR_init_133 : decode mR_init.2.1 133 = .ok (.sipush 200, 3) := by decide +kernel
theorem dR_init_136 : decode mR_init.2.1 136 = .ok (.newarray .int, 2) := by decide +kernel
theorem dR_init_138 : decode mR_init.2.1 138 = .ok (.putfield 59, 3) := by decide +kernel
theorem dR_init_141 : decode mR_init.2.1 141 = .ok (.aload_n 0, 1) := by decide +kernel
theorem dR_init_142 : decode mR_init.2.1 142 = .ok (.sipush 200, 3) := by decide +kernel
theorem dR_init_145 : decode mR_init.2.1 145 = .ok (.newarray .boolean, 2) := by decide +kernel
theorem dR_init_147 : decode mR_init.2.1 147 = .ok (.putfield 62, 3) := by decide +kernel
theorem dR_init_150 : decode mR_init.2.1 150 = .ok (.aload_n 0, 1) := by decide +kernel
theorem dR_init_151 : decode mR_init.2.1 151 = .ok (.sipush 200, 3) := by decide +kernel
theorem dR_init_154 : decode mR_init.2.1 154 = .ok (.newarray .int, 2) := by decide +kernel
theorem dR_init_156 : decode mR_init.2.1 156 = .ok (.putfield 65, 3) := by decide +kernel
theorem dR_init_159 : decode mR_init.2.1 159 = .ok (.aload_n 0, 1) := by decide +kernel
theorem dR_init_160 : decode mR_init.2.1 160 = .ok (.sipush 200, 3) := by decide +kernel
theorem dR_init_163 : decode mR_init.2.1 163 = .ok (.newarray .int, 2) := by decide +kernel
theorem dR_init_165 : decode mR_init.2.1 165 = .ok (.putfield 68, 3) := by decide +kernel
theorem dR_init_168 : decode mR_init.2.1 168 = .ok (.aload_n 0, 1) := by decide +kernel
theorem dR_init_169 : decode mR_init.2.1 169 = .ok (.sipush 200, 3) := by decide +kernel
theorem dR_init_172 : decode mR_init.2.1 172 = .ok (.newarray .int, 2) := by decide +kernel
theorem dR_init_174 : decode mR_init.2.1 174 = .ok (.putfield 71, 3) := by decide +kernel
theorem dR_init_177 : decode mR_init.2.1 177 = .ok (.aload_n 0, 1) := by decide +kernel
theorem dR_init_178 : decode mR_init.2.1 178 = .ok (.sipush 200, 3) := by decide +kernel
theorem dR_init_181 : decode mR_init.2.1 181 = .ok (.newarray .int, 2) := by decide +kernel
theorem dR_init_183 : decode mR_init.2.1 183 = .ok (.putfield 74, 3) := by decide +kernel
theorem dR_init_186 : decode mR_init.2.1 186 = .ok (.aload_n 0, 1) := by decide +kernel
theorem dR_init_187 : decode mR_init.2.1 187 = .ok (.bipush 100, 2) := by decide +kernel
theorem dR_init_189 : decode mR_init.2.1 189 = .ok (.newarray .int, 2) := by decide +kernel
theorem dR_init_191 : decode mR_init.2.1 191 = .ok (.putfield 77, 3) := by decide +kernel
theorem dR_init_194 : decode mR_init.2.1 194 = .ok (.aload_n 0, 1) := by decide +kernel
theorem dR_init_195 : decode mR_init.2.1 195 = .ok (.bipush 100, 2) := by decide +kernel
theorem dR_init_197 : decode mR_init.2.1 197 = .ok (.newarray .int, 2) := by decide +kernel
theorem dR_init_199 : decode mR_init.2.1 199 = .ok (.putfield 80, 3) := by decide +kernel
theorem dR_init_202 : decode mR_init.2.1 202 = .ok (.aload_n 0, 1) := by decide +kernel
theorem dR_init_203 : decode mR_init.2.1 203 = .ok (.bipush 100, 2) := by decide +kernel
theorem dR_init_205 : decode mR_init.2.1 205 = .ok (.newarray .int, 2) := by decide +kernel
theorem dR_init_207 : decode mR_init.2.1 207 = .ok (.putfield 83, 3) := by decide +kernel
theorem dR_init_210 : decode mR_init.2.1 210 = .ok (.return_, 1) := by decide +kernel
theorem dR_thrown_0 : decode mR_thrown.2.1 0 = .ok (.aload_n 0, 1) := by decide +kernel
theorem dR_thrown_1 : decode mR_thrown.2.1 1 = .ok (.getfield 86, 3) := by decide +kernel
theorem dR_thrown_4 : decode mR_thrown.2.1 4 = .ok (.ireturn, 1) := by decide +kernel
theorem dR_vehicle_0 : decode mR_vehicle.2.1 0 = .ok (.aload_n 0, 1) := by decide +kernel
theorem dR_vehicle_1 : decode mR_vehicle.2.1 1 = .ok (.iload_n 1, 1) := by decide +kernel
theorem dR_vehicle_2 : decode mR_vehicle.2.1 2 = .ok (.invokestatic 97, 3) := by decide +kernel
theorem dR_vehicle_5 : decode mR_vehicle.2.1 5 = .ok (.aload_n 0, 1) := by decide +kernel
theorem dR_vehicle_6 : decode mR_vehicle.2.1 6 = .ok (.getfield 90, 3) := by decide +kernel
theorem dR_vehicle_9 : decode mR_vehicle.2.1 9 = .ok (.bipush 20, 2) := by decide +kernel
theorem dR_vehicle_11 : decode mR_vehicle.2.1 11 = .ok (.if_icmp .ge 7, 3) := by decide +kernel
theorem dR_vehicle_14 : decode mR_vehicle.2.1 14 = .ok (.iconst 1, 1) := by decide +kernel
theorem dR_vehicle_15 : decode mR_vehicle.2.1 15 = .ok (.goto 4, 3) := by decide +kernel
theorem dR_vehicle_18 : decode mR_vehicle.2.1 18 = .ok (.iconst 0, 1) := by decide +kernel
theorem dR_vehicle_19 : decode mR_vehicle.2.1 19 = .ok (.iconst 1, 1) := by decide +kernel
theorem dR_vehicle_20 : decode mR_vehicle.2.1 20 = .ok (.invokevirtual 101, 3) := by decide +kernel
theorem dR_vehicle_23 : decode mR_vehicle.2.1 23 = .ok (.ifCond .ne 5, 3) := by decide +kernel
theorem dR_vehicle_26 : decode mR_vehicle.2.1 26 = .ok (.iconst 0, 1) := by decide +kernel
theorem dR_vehicle_27 : decode mR_vehicle.2.1 27 = .ok (.ireturn, 1) := by decide +kernel
theorem dR_vehicle_28 : decode mR_vehicle.2.1 28 = .ok (.aload_n 0, 1) := by decide +kernel
theorem dR_vehicle_29 : decode mR_vehicle.2.1 29 = .ok (.getfield 29, 3) := by decide +kernel
theorem dR_vehicle_32 : decode mR_vehicle.2.1 32 = .ok (.aload_n 0, 1) := by decide +kernel
theorem dR_vehicle_33 : decode mR_vehicle.2.1 33 = .ok (.getfield 90, 3) := by decide +kernel
theorem dR_vehicle_36 : decode mR_vehicle.2.1 36 = .ok (.iload_n 1, 1) := by decide +kernel
theorem dR_vehicle_37 : decode mR_vehicle.2.1 37 = .ok (.iastore, 1) := by decide +kernel
theorem dR_vehicle_38 : decode mR_vehicle.2.1 38 = .ok (.aload_n 0, 1) := by decide +kernel
theorem dR_vehicle_39 : decode mR_vehicle.2.1 39 = .ok (.getfield 32, 3) := by decide +kernel
theorem dR_vehicle_42 : decode mR_vehicle.2.1 42 = .ok (.aload_n 0, 1) := by decide +kernel
theorem dR_vehicle_43 : decode mR_vehicle.2.1 43 = .ok (.getfield 90, 3) := by decide +kernel
theorem dR_vehicle_46 : decode mR_vehicle.2.1 46 = .ok (.iload_n 2, 1) := by decide +kernel
theorem dR_vehicle_47 : decode mR_vehicle.2.1 47 = .ok (.bastore, 1) := by decide +kernel
theorem dR_vehicle_48 : decode mR_vehicle.2.1 48 = .ok (.aload_n 0, 1) := by decide +kernel
theorem dR_vehicle_49 : decode mR_vehicle.2.1 49 = .ok (.getfield 38, 3) := by decide +kernel
theorem dR_vehicle_52 : decode mR_vehicle.2.1 52 = .ok (.aload_n 0, 1) := by decide +kernel
theorem dR_vehicle_53 : decode mR_vehicle.2.1 53 = .ok (.getfield 90, 3) := by decide +kernel
theorem dR_vehicle_56 : decode mR_vehicle.2.1 56 = .ok (.aload_n 0, 1) := by decide +kernel
theorem dR_vehicle_57 : decode mR_vehicle.2.1 57 = .ok (.getfield 105, 3) := by decide +kernel
theorem dR_vehicle_60 : decode mR_vehicle.2.1 60 = .ok (.iastore, 1) := by decide +kernel
theorem dR_vehicle_61 : decode mR_vehicle.2.1 61 = .ok (.aload_n 0, 1) := by decide +kernel
theorem dR_vehicle_62 : decode mR_vehicle.2.1 62 = .ok (.getfield 56, 3) := by decide +kernel
theorem dR_vehicle_65 : decode mR_vehicle.2.1 65 = .ok (.aload_n 0, 1) := by decide +kernel
theorem dR_vehicle_66 : decode mR_vehicle.2.1 66 = .ok (.getfield 90, 3) := by decide +kernel
theorem dR_vehicle_69 : decode mR_vehicle.2.1 69 = .ok (.iconst (-1), 1) := by decide +kernel
theorem dR_vehicle_70 : decode mR_vehicle.2.1 70 = .ok (.iastore, 1) := by decide +kernel
theorem dR_vehicle_71 : decode mR_vehicle.2.1 71 = .ok (.aload_n 0, 1) := by decide +kernel
theorem dR_vehicle_72 : decode mR_vehicle.2.1 72 = .ok (.dup, 1) := by decide +kernel
theorem dR_vehicle_73 : decode mR_vehicle.2.1 73 = .ok (.getfield 90, 3) := by decide +kernel
theorem dR_vehicle_76 : decode mR_vehicle.2.1 76 = .ok (.iconst 1, 1) := by decide +kernel
theorem dR_vehicle_77 : decode mR_vehicle.2.1 77 = .ok (.iadd, 1) := by decide +kernel
theorem dR_vehicle_78 : decode mR_vehicle.2.1 78 = .ok (.putfield 90, 3) := by decide +kernel
theorem dR_vehicle_81 : decode mR_vehicle.2.1 81 = .ok (.aload_n 0, 1) := by decide +kernel
theorem dR_vehicle_82 : decode mR_vehicle.2.1 82 = .ok (.getfield 90, 3) := by decide +kernel
theorem dR_vehicle_85 : decode mR_vehicle.2.1 85 = .ok (.iconst 1, 1) := by decide +kernel
theorem dR_vehicle_86 : decode mR_vehicle.2.1 86 = .ok (.isub, 1) := by decide +kernel
theorem dR_vehicle_87 : decode mR_vehicle.2.1 87 = .ok (.ireturn, 1) := by decide +kernel
theorem dR_isKind_0 : decode mR_isKind.2.1 0 = .ok (.iload_n 0, 1) := by decide +kernel
theorem dR_isKind_1 : decode mR_isKind.2.1 1 = .ok (.iconst 0, 1) := by decide +kernel
theorem dR_isKind_2 : decode mR_isKind.2.1 2 = .ok (.iconst 4, 1) := by decide +kernel
theorem dR_isKind_3 : decode mR_isKind.2.1 3 = .ok (.invokestatic 93, 3) := by decide +kernel
theorem dR_isKind_6 : decode mR_isKind.2.1 6 = .ok (.ireturn, 1) := by decide +kernel
theorem dR_in_0 : decode mR_in.2.1 0 = .ok (.iload_n 0, 1) := by decide +kernel
theorem dR_in_1 : decode mR_in.2.1 1 = .ok (.iload_n 1, 1) := by decide +kernel
theorem dR_in_2 : decode mR_in.2.1 2 = .ok (.if_icmp .lt 12, 3) := by decide +kernel
theorem dR_in_5 : decode mR_in.2.1 5 = .ok (.iload_n 0, 1) := by decide +kernel
theorem dR_in_6 : decode mR_in.2.1 6 = .ok (.iload_n 2, 1) := by decide +kernel
theorem dR_in_7 : decode mR_in.2.1 7 = .ok (.if_icmp .gt 7, 3) := by decide +kernel
theorem dR_in_10 : decode mR_in.2.1 10 = .ok (.iconst 1, 1) := by decide +kernel
theorem dR_in_11 : decode mR_in.2.1 11 = .ok (.goto 4, 3) := by decide +kernel
theorem dR_in_14 : decode mR_in.2.1 14 = .ok (.iconst 0, 1) := by decide +kernel
theorem dR_in_15 : decode mR_in.2.1 15 = .ok (.ireturn, 1) := by decide +kernel
theorem dR_goes_0 : decode mR_goes.2.1 0 = .ok (.aload_n 0, 1) := by decide +kernel
theorem dR_goes_1 : decode mR_goes.2.1 1 = .ok (.iload_n 1, 1) := by decide +kernel
theorem dR_goes_2 : decode mR_goes.2.1 2 = .ok (.ifCond .ne 7, 3) := by decide +kernel
theorem dR_goes_5 : decode mR_goes.2.1 5 = .ok (.iconst 1, 1) := by decide +kernel
theorem dR_goes_6 : decode mR_goes.2.1 6 = .ok (.goto 20, 3) := by decide +kernel
theorem dR_goes_9 : decode mR_goes.2.1 9 = .ok (.iload_n 2, 1) := by decide +kernel
theorem dR_goes_10 : decode mR_goes.2.1 10 = .ok (.ifCond .ne 7, 3) := by decide +kernel
theorem dR_goes_13 : decode mR_goes.2.1 13 = .ok (.iconst 2, 1) := by decide +kernel
theorem dR_goes_14 : decode mR_goes.2.1 14 = .ok (.goto 12, 3) := by decide +kernel
theorem dR_goes_17 : decode mR_goes.2.1 17 = .ok (.iload_n 3, 1) := by decide +kernel
theorem dR_goes_18 : decode mR_goes.2.1 18 = .ok (.ifCond .ne 7, 3) := by decide +kernel
theorem dR_goes_21 : decode mR_goes.2.1 21 = .ok (.iconst 3, 1) := by decide +kernel
theorem dR_goes_22 : decode mR_goes.2.1 22 = .ok (.goto 4, 3) := by decide +kernel
theorem dR_goes_25 : decode mR_goes.2.1 25 = .ok (.iconst 0, 1) := by decide +kernel
theorem dR_goes_26 : decode mR_goes.2.1 26 = .ok (.putfield 86, 3) := by decide +kernel
theorem dR_goes_29 : decode mR_goes.2.1 29 = .ok (.aload_n 0, 1) := by decide +kernel
theorem dR_goes_30 : decode mR_goes.2.1 30 = .ok (.getfield 86, 3) := by decide +kernel
theorem dR_goes_33 : decode mR_goes.2.1 33 = .ok (.ifCond .ne 7, 3) := by decide +kernel
theorem dR_goes_36 : decode mR_goes.2.1 36 = .ok (.iconst 1, 1) := by decide +kernel
theorem dR_goes_37 : decode mR_goes.2.1 37 = .ok (.goto 4, 3) := by decide +kernel
theorem dR_goes_40 : decode mR_goes.2.1 40 = .ok (.iconst 0, 1) := by decide +kernel
theorem dR_goes_41 : decode mR_goes.2.1 41 = .ok (.ireturn, 1) := by decide +kernel
theorem dR_list_0 : decode mR_list.2.1 0 = .ok (.aload_n 0, 1) := by decide +kernel
theorem dR_list_1 : decode mR_list.2.1 1 = .ok (.iload_n 1, 1) := by decide +kernel
theorem dR_list_2 : decode mR_list.2.1 2 = .ok (.invokestatic 97, 3) := by decide +kernel
theorem dR_list_5 : decode mR_list.2.1 5 = .ok (.ifCond .eq 14, 3) := by decide +kernel
theorem dR_list_8 : decode mR_list.2.1 8 = .ok (.iload_n 2, 1) := by decide +kernel
theorem dR_list_9 : decode mR_list.2.1 9 = .ok (.invokestatic 108, 3) := by decide +kernel
theorem dR_list_12 : decode mR_list.2.1 12 = .ok (.ifCond .eq 7, 3) := by decide +kernel
theorem dR_list_15 : decode mR_list.2.1 15 = .ok (.iconst 1, 1) := by decide +kernel
theorem dR_list_16 : decode mR_list.2.1 16 = .ok (.goto 4, 3) := by decide +kernel
theorem dR_list_19 : decode mR_list.2.1 19 = .ok (.iconst 0, 1) := by decide +kernel
theorem dR_list_20 : decode mR_list.2.1 20 = .ok (.iload_n 3, 1) := by decide +kernel
theorem dR_list_21 : decode mR_list.2.1 21 = .ok (.sipush (-9999), 3) := by decide +kernel
theorem dR_list_24 : decode mR_list.2.1 24 = .ok (.sipush 9999, 3) := by decide +kernel
theorem dR_list_27 : decode mR_list.2.1 27 = .ok (.invokestatic 93, 3) := by decide +kernel
theorem dR_list_30 : decode mR_list.2.1 30 = .ok (.ifCond .eq 41, 3) := by decide +kernel
theorem dR_list_33 : decode mR_list.2.1 33 = .ok (.iload 4, 2) := by decide +kernel
theorem dR_list_35 : decode mR_list.2.1 35 = .ok (.iload_n 3, 1) := by decide +kernel
theorem dR_list_36 : decode mR_list.2.1 36 = .ok (.sipush 9999, 3) := by decide +kernel
theorem dR_list_39 : decode mR_list.2.1 39 = .ok (.invokestatic 93, 3) := by decide +kernel
theorem dR_list_42 : decode mR_list.2.1 42 = .ok (.ifCond .eq 29, 3) := by decide +kernel
theorem dR_list_45 : decode mR_list.2.1 45 = .ok (.iload 5, 2) := by decide +kernel
theorem dR_list_47 : decode mR_list.2.1 47 = .ok (.iconst 1, 1) := by decide +kernel
theorem dR_list_48 : decode mR_list.2.1 48 = .ok (.iconst 3, 1) := by decide +kernel
theorem dR_list_49 : decode mR_list.2.1 49 = .ok (.invokestatic 93, 3) := by decide +kernel
theorem dR_list_52 : decode mR_list.2.1 52 = .ok (.ifCond .eq 19, 3) := by decide +kernel
theorem dR_list_55 : decode mR_list.2.1 55 = .ok (.iload 6, 2) := by decide +kernel
theorem dR_list_57 : decode mR_list.2.1 57 = .ok (.iconst 0, 1) := by decide +kernel
theorem dR_list_58 : decode mR_list.2.1 58 = .ok (.sipush 5000, 3) := by decide +kernel
theorem dR_list_61 : decode mR_list.2.1 61 = .ok (.invokestatic 93, 3) := by decide +kernel
theorem dR_list_64 : decode mR_list.2.1 64 = .ok (.ifCond .eq 7, 3) := by decide +kernel
theorem dR_list_67 : decode mR_list.2.1 67 = .ok (.iconst 1, 1) := by decide +kernel
theorem dR_list_68 : decode mR_list.2.1 68 = .ok (.goto 4, 3) := by decide +kernel
theorem dR_list_71 : decode mR_list.2.1 71 = .ok (.iconst 0, 1) := by decide +kernel
theorem dR_list_72 : decode mR_list.2.1 72 = .ok (.iconst 1, 1) := by decide +kernel
theorem dR_list_73 : decode mR_list.2.1 73 = .ok (.invokevirtual 101, 3) := by decide +kernel
theorem dR_list_76 : decode mR_list.2.1 76 = .ok (.ifCond .ne 4, 3) := by decide +kernel
theorem dR_list_79 : decode mR_list.2.1 79 = .ok (.return_, 1) := by decide +kernel
theorem dR_list_80 : decode mR_list.2.1 80 = .ok (.aload_n 0, 1) := by decide +kernel
theorem dR_list_81 : decode mR_list.2.1 81 = .ok (.getfield 7, 3) := by decide +kernel
theorem dR_list_84 : decode mR_list.2.1 84 = .ok (.bipush 10, 2) := by decide +kernel
theorem dR_list_86 : decode mR_list.2.1 86 = .ok (.iload_n 1, 1) := by decide +kernel
theorem dR_list_87 : decode mR_list.2.1 87 = .ok (.imul, 1) := by decide +kernel
theorem dR_list_88 : decode mR_list.2.1 88 = .ok (.iload_n 2, 1) := by decide +kernel
theorem dR_list_89 : decode mR_list.2.1 89 = .ok (.iadd, 1) := by decide +kernel
theorem dR_list_90 : decode mR_list.2.1 90 = .ok (.iconst 1, 1) := by decide +kernel
theorem dR_list_91 : decode mR_list.2.1 91 = .ok (.bastore, 1) := by decide +kernel
theorem dR_list_92 : decode mR_list.2.1 92 = .ok (.aload_n 0, 1) := by decide +kernel
theorem dR_list_93 : decode mR_list.2.1 93 = .ok (.getfield 13, 3) := by decide +kernel
theorem dR_list_96 : decode mR_list.2.1 96 = .ok (.bipush 10, 2) := by decide +kernel
theorem dR_list_98 : decode mR_list.2.1 98 = .ok (.iload_n 1, 1) := by decide +kernel
theorem dR_list_99 : decode mR_list.2.1 99 = .ok (.imul, 1) := by decide +kernel
theorem dR_list_100 : decode mR_list.2.1 100 = .ok (.iload_n 2, 1) := by decide +kernel
theorem dR_list_101 : decode mR_list.2.1 101 = .ok (.iadd, 1) := by decide +kernel
theorem dR_list_102 : decode mR_list.2.1 102 = .ok (.iload_n 3, 1) := by decide +kernel
theorem dR_list_103 : decode mR_list.2.1 103 = .ok (.iastore, 1) := by decide +kernel
theorem dR_list_104 : decode mR_list.2.1 104 = .ok (.aload_n 0, 1) := by decide +kernel
theorem dR_list_105 : decode mR_list.2.1 105 = .ok (.getfield 17, 3) := by decide +kernel
theorem dR_list_108 : decode mR_list.2.1 108 = .ok (.bipush 10, 2) := by decide +kernel
theorem dR_list_110 : decode mR_list.2.1 110 = .ok (.iload_n 1, 1) := by decide +kernel
theorem dR_list_111 : decode mR_list.2.1 111 = .ok (.imul, 1) := by decide +kernel
theorem dR_list_112 : decode mR_list.2.1 112 = .ok (.iload_n 2, 1) := by decide +kernel
theorem dR_list_113 : decode mR_list.2.1 113 = .ok (.iadd, 1) := by decide +kernel
theorem dR_list_114 : decode mR_list.2.1 114 = .ok (.iload 4, 2) := by decide +kernel
theorem dR_list_116 : decode mR_list.2.1 116 = .ok (.iastore, 1) := by decide +kernel
theorem dR_list_117 : decode mR_list.2.1 117 = .ok (.aload_n 0, 1) := by decide +kernel
theorem dR_list_118 : decode mR_list.2.1 118 = .ok (.getfield 20, 3) := by decide +kernel
theorem dR_list_121 : decode mR_list.2.1 121 = .ok (.bipush 10, 2) := by decide +kernel
theorem dR_list_123 : decode mR_list.2.1 123 = .ok (.iload_n 1, 1) := by decide +kernel
theorem dR_list_124 : decode mR_list.2.1 124 = .ok (.imul, 1) := by decide +kernel
theorem dR_list_125 : decode mR_list.2.1 125 = .ok (.iload_n 2, 1) := by decide +kernel
theorem dR_list_126 : decode mR_list.2.1 126 = .ok (.iadd, 1) := by decide +kernel
theorem dR_list_127 : decode mR_list.2.1 127 = .ok (.iload 5, 2) := by decide +kernel
theorem dR_list_129 : decode mR_list.2.1 129 = .ok (.iastore, 1) := by decide +kernel
theorem dR_list_130 : decode mR_list.2.1 130 = .ok (.aload_n 0, 1) := by decide +kernel
theorem dR_list_131 : decode mR_list.2.1 131 = .ok (.getfield 23, 3) := by decide +kernel
theorem dR_list_134 : decode mR_list.2.1 134 = .ok (.bipush 10, 2) := by decide +kernel
theorem dR_list_136 : decode mR_list.2.1 136 = .ok (.iload_n 1, 1) := by decide +kernel
theorem dR_list_137 : decode mR_list.2.1 137 = .ok (.imul, 1) := by decide +kernel
theorem dR_list_138 : decode mR_list.2.1 138 = .ok (.iload_n 2, 1) := by decide +kernel
theorem dR_list_139 : decode mR_list.2.1 139 = .ok (.iadd, 1) := by decide +kernel
theorem dR_list_140 : decode mR_list.2.1 140 = .ok (.iload 6, 2) := by decide +kernel
theorem dR_list_142 : decode mR_list.2.1 142 = .ok (.iastore, 1) := by decide +kernel
theorem dR_list_143 : decode mR_list.2.1 143 = .ok (.return_, 1) := by decide +kernel
theorem dR_isItem_0 : decode mR_isItem.2.1 0 = .ok (.iload_n 0, 1) := by decide +kernel
theorem dR_isItem_1 : decode mR_isItem.2.1 1 = .ok (.iconst 0, 1) := by decide +kernel
theorem dR_isItem_2 : decode mR_isItem.2.1 2 = .ok (.bipush 9, 2) := by decide +kernel
theorem dR_isItem_4 : decode mR_isItem.2.1 4 = .ok (.invokestatic 93, 3) := by decide +kernel
theorem dR_isItem_7 : decode mR_isItem.2.1 7 = .ok (.ireturn, 1) := by decide +kernel
theorem dR_unlist_0 : decode mR_unlist.2.1 0 = .ok (.iload_n 1, 1) := by decide +kernel
theorem dR_unlist_1 : decode mR_unlist.2.1 1 = .ok (.invokestatic 97, 3) := by decide +kernel
theorem dR_unlist_4 : decode mR_unlist.2.1 4 = .ok (.ifCond .eq 14, 3) := by decide +kernel
theorem dR_unlist_7 : decode mR_unlist.2.1 7 = .ok (.iload_n 2, 1) := by decide +kernel
theorem dR_unlist_8 : decode mR_unlist.2.1 8 = .ok (.invokestatic 108, 3) := by decide +kernel
theorem dR_unlist_11 : decode mR_unlist.2.1 11 = .ok (.ifCond .eq 7, 3) := by decide +kernel
theorem dR_unlist_14 : decode mR_unlist.2.1 14 = .ok (.iconst 1, 1) := by decide +kernel
theorem dR_unlist_15 : decode mR_unlist.2.1 15 = .ok (.goto 4, 3) := by decide +kernel
theorem dR_unlist_18 : decode mR_unlist.2.1 18 = .ok (.iconst 0, 1) := by decide +kernel
theorem dR_unlist_19 : decode mR_unlist.2.1 19 = .ok (.istore_n 3, 1) := by decide +kernel
theorem dR_unlist_20 : decode mR_unlist.2.1 20 = .ok (.aload_n 0, 1) := by decide +kernel
theorem dR_unlist_21 : decode mR_unlist.2.1 21 = .ok (.iload_n 3, 1) := by decide +kernel
theorem dR_unlist_22 : decode mR_unlist.2.1 22 = .ok (.iload_n 3, 1) := by decide +kernel
theorem dR_unlist_23 : decode mR_unlist.2.1 23 = .ok (.ifCond .eq 21, 3) := by decide +kernel
theorem dR_unlist_26 : decode mR_unlist.2.1 26 = .ok (.aload_n 0, 1) := by decide +kernel
theorem dR_unlist_27 : decode mR_unlist.2.1 27 = .ok (.getfield 7, 3) := by decide +kernel
theorem dR_unlist_30 : decode mR_unlist.2.1 30 = .ok (.bipush 10, 2) := by decide +kernel
theorem dR_unlist_32 : decode mR_unlist.2.1 32 = .ok (.iload_n 1, 1) := by decide +kernel
theorem dR_unlist_33 : decode mR_unlist.2.1 33 = .ok (.imul, 1) := by decide +kernel
theorem dR_unlist_34 : decode mR_unlist.2.1 34 = .ok (.iload_n 2, 1) := by decide +kernel
theorem dR_unlist_35 : decode mR_unlist.2.1 35 = .ok (.iadd, 1) := by decide +kernel
theorem dR_unlist_36 : decode mR_unlist.2.1 36 = .ok (.baload, 1) := by decide +kernel
theorem dR_unlist_37 : decode mR_unlist.2.1 37 = .ok (.ifCond .eq 7, 3) := by decide +kernel
theorem dR_unlist_40 : decode mR_unlist.2.1 40 = .ok (.iconst 1, 1) := by decide +kernel
theorem dR_unlist_41 : decode mR_unlist.2.1 41 = .ok (.goto 4, 3) := by decide +kernel
theorem dR_unlist_44 : decode mR_unlist.2.1 44 = .ok (.iconst 0, 1) := by decide +kernel
theorem dR_unlist_45 : decode mR_unlist.2.1 45 = .ok (.iconst 1, 1) := by decide +kernel
theorem dR_unlist_46 : decode mR_unlist.2.1 46 = .ok (.invokevirtual 101, 3) := by decide +kernel
theorem dR_unlist_49 : decode mR_unlist.2.1 49 = .ok (.ifCond .eq 15, 3) := by decide +kernel
theorem dR_unlist_52 : decode mR_unlist.2.1 52 = .ok (.aload_n 0, 1) := by decide +kernel
theorem dR_unlist_53 : decode mR_unlist.2.1 53 = .ok (.getfield 7, 3) := by decide +kernel
theorem dR_unlist_56 : decode mR_unlist.2.1 56 = .ok (.bipush 10, 2) := by decide +kernel
theorem dR_unlist_58 : decode mR_unlist.2.1 58 = .ok (.iload_n 1, 1) := by decide +kernel
theorem dR_unlist_59 : decode mR_unlist.2.1 59 = .ok (.imul, 1) := by decide +kernel
theorem dR_unlist_60 : decode mR_unlist.2.1 60 = .ok (.iload_n 2, 1) := by decide +kernel
theorem dR_unlist_61 : decode mR_unlist.2.1 61 = .ok (.iadd, 1) := by decide +kernel
theorem dR_unlist_62 : decode mR_unlist.2.1 62 = .ok (.iconst 0, 1) := by decide +kernel
theorem dR_unlist_63 : decode mR_unlist.2.1 63 = .ok (.bastore, 1) := by decide +kernel
theorem dR_unlist_64 : decode mR_unlist.2.1 64 = .ok (.return_, 1) := by decide +kernel
theorem dR_answer_0 : decode mR_answer.2.1 0 = .ok (.aload_n 0, 1) := by decide +kernel
theorem dR_answer_1 : decode mR_answer.2.1 1 = .ok (.iload_n 1, 1) := by decide +kernel
theorem dR_answer_2 : decode mR_answer.2.1 2 = .ok (.invokevirtual 115, 3) := by decide +kernel
theorem dR_answer_5 : decode mR_answer.2.1 5 = .ok (.ifCond .eq 22, 3) := by decide +kernel
theorem dR_answer_8 : decode mR_answer.2.1 8 = .ok (.iload_n 2, 1) := by decide +kernel
theorem dR_answer_9 : decode mR_answer.2.1 9 = .ok (.invokestatic 108, 3) := by decide +kernel
theorem dR_answer_12 : decode mR_answer.2.1 12 = .ok (.ifCond .eq 15, 3) := by decide +kernel
theorem dR_answer_15 : decode mR_answer.2.1 15 = .ok (.iload 4, 2) := by decide +kernel
theorem dR_answer_17 : decode mR_answer.2.1 17 = .ok (.invokestatic 118, 3) := by decide +kernel
theorem dR_answer_20 : decode mR_answer.2.1 20 = .ok (.ifCond .eq 7, 3) := by decide +kernel
theorem dR_answer_23 : decode mR_answer.2.1 23 = .ok (.iconst 1, 1) := by decide +kernel
theorem dR_answer_24 : decode mR_answer.2.1 24 = .ok (.goto 4, 3) := by decide +kernel
theorem dR_answer_27 : decode mR_answer.2.1 27 = .ok (.iconst 0, 1) := by decide +kernel
theorem dR_answer_28 : decode mR_answer.2.1 28 = .ok (.istore 5, 2) := by decide +kernel
theorem dR_answer_30 : decode mR_answer.2.1 30 = .ok (.aload_n 0, 1) := by decide +kernel
theorem dR_answer_31 : decode mR_answer.2.1 31 = .ok (.iload 5, 2) := by decide +kernel
theorem dR_answer_33 : decode mR_answer.2.1 33 = .ok (.iload_n 3, 1) := by decide +kernel
theorem dR_answer_34 : decode mR_answer.2.1 34 = .ok (.ldc 121, 2) := by decide +kernel
theorem dR_answer_36 : decode mR_answer.2.1 36 = .ok (.ldc 122, 2) := by decide +kernel
theorem dR_answer_38 : decode mR_answer.2.1 38 = .ok (.invokestatic 93, 3) := by decide +kernel
theorem dR_answer_41 : decode mR_answer.2.1 41 = .ok (.iload 5, 2) := by decide +kernel
theorem dR_answer_43 : decode mR_answer.2.1 43 = .ok (.ifCond .eq 21, 3) := by decide +kernel
theorem dR_answer_46 : decode mR_answer.2.1 46 = .ok (.aload_n 0, 1) := by decide +kernel
theorem dR_answer_47 : decode mR_answer.2.1 47 = .ok (.getfield 7, 3) := by decide +kernel
theorem dR_answer_50 : decode mR_answer.2.1 50 = .ok (.aload_n 0, 1) := by decide +kernel
theorem dR_answer_51 : decode mR_answer.2.1 51 = .ok (.iload_n 1, 1) := by decide +kernel
theorem dR_answer_52 : decode mR_answer.2.1 52 = .ok (.iload_n 2, 1) := by decide +kernel
theorem dR_answer_53 : decode mR_answer.2.1 53 = .ok (.invokevirtual 111, 3) := by decide +kernel
theorem dR_answer_56 : decode mR_answer.2.1 56 = .ok (.baload, 1) := by decide +kernel
theorem dR_answer_57 : decode mR_answer.2.1 57 = .ok (.ifCond .eq 7, 3) := by decide +kernel
theorem dR_answer_60 : decode mR_answer.2.1 60 = .ok (.iconst 1, 1) := by decide +kernel
theorem dR_answer_61 : decode mR_answer.2.1 61 = .ok (.goto 4, 3) := by decide +kernel
theorem dR_answer_64 : decode mR_answer.2.1 64 = .ok (.iconst 0, 1) := by decide +kernel
theorem dR_answer_65 : decode mR_answer.2.1 65 = .ok (.invokevirtual 101, 3) := by decide +kernel
theorem dR_answer_68 : decode mR_answer.2.1 68 = .ok (.ifCond .ne 5, 3) := by decide +kernel
theorem dR_answer_71 : decode mR_answer.2.1 71 = .ok (.iconst 0, 1) := by decide +kernel
theorem dR_answer_72 : decode mR_answer.2.1 72 = .ok (.ireturn, 1) := by decide +kernel
theorem dR_answer_73 : decode mR_answer.2.1 73 = .ok (.bipush 10, 2) := by decide +kernel
theorem dR_answer_75 : decode mR_answer.2.1 75 = .ok (.iload_n 1, 1) := by decide +kernel
theorem dR_answer_76 : decode mR_answer.2.1 76 = .ok (.imul, 1) := by decide +kernel
theorem dR_answer_77 : decode mR_answer.2.1 77 = .ok (.iload_n 2, 1) := by decide +kernel
theorem dR_answer_78 : decode mR_answer.2.1 78 = .ok (.iadd, 1) := by decide +kernel
theorem dR_answer_79 : decode mR_answer.2.1 79 = .ok (.istore 6, 2) := by decide +kernel
theorem dR_answer_81 : decode mR_answer.2.1 81 = .ok (.aload_n 0, 1) := by decide +kernel
theorem dR_answer_82 : decode mR_answer.2.1 82 = .ok (.getfield 62, 3) := by decide +kernel
theorem dR_answer_85 : decode mR_answer.2.1 85 = .ok (.iload 6, 2) := by decide +kernel
theorem dR_answer_87 : decode mR_answer.2.1 87 = .ok (.iconst 1, 1) := by decide +kernel
theorem dR_answer_88 : decode mR_answer.2.1 88 = .ok (.bastore, 1) := by decide +kernel
theorem dR_answer_89 : decode mR_answer.2.1 89 = .ok (.aload_n 0, 1) := by decide +kernel
theorem dR_answer_90 : decode mR_answer.2.1 90 = .ok (.getfield 65, 3) := by decide +kernel
theorem dR_answer_93 : decode mR_answer.2.1 93 = .ok (.iload 6, 2) := by decide +kernel
theorem dR_answer_95 : decode mR_answer.2.1 95 = .ok (.iload_n 3, 1) := by decide +kernel
theorem dR_answer_96 : decode mR_answer.2.1 96 = .ok (.iastore, 1) := by decide +kernel
theorem dR_answer_97 : decode mR_answer.2.1 97 = .ok (.aload_n 0, 1) := by decide +kernel
theorem dR_answer_98 : decode mR_answer.2.1 98 = .ok (.getfield 68, 3) := by decide +kernel
theorem dR_answer_101 : decode mR_answer.2.1 101 = .ok (.iload 6, 2) := by decide +kernel
theorem dR_answer_103 : decode mR_answer.2.1 103 = .ok (.aload_n 0, 1) := by decide +kernel
theorem dR_answer_104 : decode mR_answer.2.1 104 = .ok (.getfield 105, 3) := by decide +kernel
theorem dR_answer_107 : decode mR_answer.2.1 107 = .ok (.iastore, 1) := by decide +kernel
theorem dR_answer_108 : decode mR_answer.2.1 108 = .ok (.aload_n 0, 1) := by decide +kernel
theorem dR_answer_109 : decode mR_answer.2.1 109 = .ok (.getfield 71, 3) := by decide +kernel
theorem dR_answer_112 : decode mR_answer.2.1 112 = .ok (.iload 6, 2) := by decide +kernel
theorem dR_answer_114 : decode mR_answer.2.1 114 = .ok (.iload 4, 2) := by decide +kernel
theorem dR_answer_116 : decode mR_answer.2.1 116 = .ok (.iastore, 1) := by decide +kernel
theorem dR_answer_117 : decode mR_answer.2.1 117 = .ok (.aload_n 0, 1) := by decide +kernel
theorem dR_answer_118 : decode mR_answer.2.1 118 = .ok (.getfield 74, 3) := by decide +kernel
theorem dR_answer_121 : decode mR_answer.2.1 121 = .ok (.iload 6, 2) := by decide +kernel
theorem dR_answer_123 : decode mR_answer.2.1 123 = .ok (.aload_n 0, 1) := by decide +kernel
theorem dR_answer_124 : decode mR_answer.2.1 124 = .ok (.getfield 47, 3) := by decide +kernel
theorem dR_answer_127 : decode mR_answer.2.1 127 = .ok (.iload_n 1, 1) := by decide +kernel
theorem dR_answer_128 : decode mR_answer.2.1 128 = .ok (.iaload, 1) := by decide +kernel
theorem dR_answer_129 : decode mR_answer.2.1 129 = .ok (.iastore, 1) := by decide +kernel
theorem dR_answer_130 : decode mR_answer.2.1 130 = .ok (.aload_n 0, 1) := by decide +kernel
theorem dR_answer_131 : decode mR_answer.2.1 131 = .ok (.iload_n 1, 1) := by decide +kernel
theorem dR_answer_132 : decode mR_answer.2.1 132 = .ok (.iload_n 2, 1) := by decide +kernel
theorem dR_answer_133 : decode mR_answer.2.1 133 = .ok (.iload_n 3, 1) := by decide +kernel
theorem dR_answer_134 : decode mR_answer.2.1 134 = .ok (.invokevirtual 123, 3) := by decide +kernel
theorem dR_answer_137 : decode mR_answer.2.1 137 = .ok (.ireturn, 1) := by decide +kernel
theorem dR_isVehicle_0 : decode mR_isVehicle.2.1 0 = .ok (.iload_n 1, 1) := by decide +kernel
theorem dR_isVehicle_1 : decode mR_isVehicle.2.1 1 = .ok (.iconst 0, 1) := by decide +kernel
theorem dR_isVehicle_2 : decode mR_isVehicle.2.1 2 = .ok (.aload_n 0, 1) := by decide +kernel
theorem dR_isVehicle_3 : decode mR_isVehicle.2.1 3 = .ok (.getfield 90, 3) := by decide +kernel
theorem dR_isVehicle_6 : decode mR_isVehicle.2.1 6 = .ok (.iconst 1, 1) := by decide +kernel
theorem dR_isVehicle_7 : decode mR_isVehicle.2.1 7 = .ok (.isub, 1) := by decide +kernel
theorem dR_isVehicle_8 : decode mR_isVehicle.2.1 8 = .ok (.invokestatic 93, 3) := by decide +kernel
theorem dR_isVehicle_11 : decode mR_isVehicle.2.1 11 = .ok (.ireturn, 1) := by decide +kernel
theorem dR_isPerson_0 : decode mR_isPerson.2.1 0 = .ok (.iload_n 0, 1) := by decide +kernel
theorem dR_isPerson_1 : decode mR_isPerson.2.1 1 = .ok (.iconst 0, 1) := by decide +kernel
theorem dR_isPerson_2 : decode mR_isPerson.2.1 2 = .ok (.bipush 39, 2) := by decide +kernel
theorem dR_isPerson_4 : decode mR_isPerson.2.1 4 = .ok (.invokestatic 93, 3) := by decide +kernel
theorem dR_isPerson_7 : decode mR_isPerson.2.1 7 = .ok (.ireturn, 1) := by decide +kernel
theorem dR_rule_0 : decode mR_rule.2.1 0 = .ok (.bipush 10, 2) := by decide +kernel
theorem dR_rule_2 : decode mR_rule.2.1 2 = .ok (.aload_n 0, 1) := by decide +kernel
theorem dR_rule_3 : decode mR_rule.2.1 3 = .ok (.getfield 29, 3) := by decide +kernel
theorem dR_rule_6 : decode mR_rule.2.1 6 = .ok (.iload_n 1, 1) := by decide +kernel
theorem dR_rule_7 : decode mR_rule.2.1 7 = .ok (.iaload, 1) := by decide +kernel
theorem dR_rule_8 : decode mR_rule.2.1 8 = .ok (.imul, 1) := by decide +kernel
theorem dR_rule_9 : decode mR_rule.2.1 9 = .ok (.iload_n 2, 1) := by decide +kernel
theorem dR_rule_10 : decode mR_rule.2.1 10 = .ok (.iadd, 1) := by decide +kernel
theorem dR_rule_11 : decode mR_rule.2.1 11 = .ok (.ireturn, 1) := by decide +kernel
theorem dR_isWithin_0 : decode mR_isWithin.2.1 0 = .ok (.iload_n 3, 1) := by decide +kernel
theorem dR_isWithin_1 : decode mR_isWithin.2.1 1 = .ok (.aload_n 0, 1) := by decide +kernel
theorem dR_isWithin_2 : decode mR_isWithin.2.1 2 = .ok (.getfield 13, 3) := by decide +kernel
theorem dR_isWithin_5 : decode mR_isWithin.2.1 5 = .ok (.aload_n 0, 1) := by decide +kernel
theorem dR_isWithin_6 : decode mR_isWithin.2.1 6 = .ok (.iload_n 1, 1) := by decide +kernel
theorem dR_isWithin_7 : decode mR_isWithin.2.1 7 = .ok (.iload_n 2, 1) := by decide +kernel
theorem dR_isWithin_8 : decode mR_isWithin.2.1 8 = .ok (.invokevirtual 111, 3) := by decide +kernel
theorem dR_isWithin_11 : decode mR_isWithin.2.1 11 = .ok (.iaload, 1) := by decide +kernel
theorem dR_isWithin_12 : decode mR_isWithin.2.1 12 = .ok (.aload_n 0, 1) := by decide +kernel
theorem dR_isWithin_13 : decode mR_isWithin.2.1 13 = .ok (.getfield 17, 3) := by decide +kernel
theorem dR_isWithin_16 : decode mR_isWithin.2.1 16 = .ok (.aload_n 0, 1) := by decide +kernel
theorem dR_isWithin_17 : decode mR_isWithin.2.1 17 = .ok (.iload_n 1, 1) := by decide +kernel
theorem dR_isWithin_18 : decode mR_isWithin.2.1 18 = .ok (.iload_n 2, 1) := by decide +kernel
theorem dR_isWithin_19 : decode mR_isWithin.2.1 19 = .ok (.invokevirtual 111, 3) := by decide +kernel
theorem dR_isWithin_22 : decode mR_isWithin.2.1 22 = .ok (.iaload, 1) := by decide +kernel
theorem dR_isWithin_23 : decode mR_isWithin.2.1 23 = .ok (.invokestatic 93, 3) := by decide +kernel
theorem dR_isWithin_26 : decode mR_isWithin.2.1 26 = .ok (.ireturn, 1) := by decide +kernel
theorem dR_item_0 : decode mR_item.2.1 0 = .ok (.aload_n 0, 1) := by decide +kernel
theorem dR_item_1 : decode mR_item.2.1 1 = .ok (.aload_n 0, 1) := by decide +kernel
theorem dR_item_2 : decode mR_item.2.1 2 = .ok (.iload_n 1, 1) := by decide +kernel
theorem dR_item_3 : decode mR_item.2.1 3 = .ok (.invokevirtual 115, 3) := by decide +kernel
theorem dR_item_6 : decode mR_item.2.1 6 = .ok (.ifCond .eq 23, 3) := by decide +kernel
theorem dR_item_9 : decode mR_item.2.1 9 = .ok (.iload_n 2, 1) := by decide +kernel
theorem dR_item_10 : decode mR_item.2.1 10 = .ok (.invokestatic 108, 3) := by decide +kernel
theorem dR_item_13 : decode mR_item.2.1 13 = .ok (.ifCond .eq 16, 3) := by decide +kernel
theorem dR_item_16 : decode mR_item.2.1 16 = .ok (.iload_n 3, 1) := by decide +kernel
theorem dR_item_17 : decode mR_item.2.1 17 = .ok (.iconst 0, 1) := by decide +kernel
theorem dR_item_18 : decode mR_item.2.1 18 = .ok (.iconst 5, 1) := by decide +kernel
theorem dR_item_19 : decode mR_item.2.1 19 = .ok (.invokestatic 93, 3) := by decide +kernel
theorem dR_item_22 : decode mR_item.2.1 22 = .ok (.ifCond .eq 7, 3) := by decide +kernel
theorem dR_item_25 : decode mR_item.2.1 25 = .ok (.iconst 1, 1) := by decide +kernel
theorem dR_item_26 : decode mR_item.2.1 26 = .ok (.goto 4, 3) := by decide +kernel
theorem dR_item_29 : decode mR_item.2.1 29 = .ok (.iconst 0, 1) := by decide +kernel
theorem dR_item_30 : decode mR_item.2.1 30 = .ok (.iconst 1, 1) := by decide +kernel
theorem dR_item_31 : decode mR_item.2.1 31 = .ok (.iconst 1, 1) := by decide +kernel
theorem dR_item_32 : decode mR_item.2.1 32 = .ok (.invokevirtual 101, 3) := by decide +kernel
theorem dR_item_35 : decode mR_item.2.1 35 = .ok (.ifCond .ne 5, 3) := by decide +kernel
theorem dR_item_38 : decode mR_item.2.1 38 = .ok (.iconst 0, 1) := by decide +kernel
theorem dR_item_39 : decode mR_item.2.1 39 = .ok (.ireturn, 1) := by decide +kernel
theorem dR_item_40 : decode mR_item.2.1 40 = .ok (.bipush 10, 2) := by decide +kernel
theorem dR_item_42 : decode mR_item.2.1 42 = .ok (.iload_n 1, 1) := by decide +kernel
theorem dR_item_43 : decode mR_item.2.1 43 = .ok (.imul, 1) := by decide +kernel
theorem dR_item_44 : decode mR_item.2.1 44 = .ok (.iload_n 2, 1) := by decide +kernel
theorem dR_item_45 : decode mR_item.2.1 45 = .ok (.iadd, 1) := by decide +kernel
theorem dR_item_46 : decode mR_item.2.1 46 = .ok (.istore 4, 2) := by decide +kernel
theorem dR_item_48 : decode mR_item.2.1 48 = .ok (.iload_n 3, 1) := by decide +kernel
theorem dR_item_49 : decode mR_item.2.1 49 = .ok (.ifCond .ne 23, 3) := by decide +kernel
theorem dR_item_52 : decode mR_item.2.1 52 = .ok (.aload_n 0, 1) := by decide +kernel
theorem dR_item_53 : decode mR_item.2.1 53 = .ok (.getfield 7, 3) := by decide +kernel
theorem dR_item_56 : decode mR_item.2.1 56 = .ok (.aload_n 0, 1) := by decide +kernel
theorem dR_item_57 : decode mR_item.2.1 57 = .ok (.iload_n 1, 1) := by decide +kernel
theorem dR_item_58 : decode mR_item.2.1 58 = .ok (.iload_n 2, 1) := by decide +kernel
theorem dR_item_59 : decode mR_item.2.1 59 = .ok (.invokevirtual 111, 3) := by decide +kernel
theorem dR_item_62 : decode mR_item.2.1 62 = .ok (.baload, 1) := by decide +kernel
theorem dR_item_63 : decode mR_item.2.1 63 = .ok (.ifCond .eq 7, 3) := by decide +kernel
theorem dR_item_66 : decode mR_item.2.1 66 = .ok (.iconst 1, 1) := by decide +kernel
theorem dR_item_67 : decode mR_item.2.1 67 = .ok (.goto 4, 3) := by decide +kernel
theorem dR_item_70 : decode mR_item.2.1 70 = .ok (.iconst 0, 1) := by decide +kernel
theorem dR_item_71 : decode mR_item.2.1 71 = .ok (.ireturn, 1) := by decide +kernel
theorem dR_item_72 : decode mR_item.2.1 72 = .ok (.iload_n 3, 1) := by decide +kernel
theorem dR_item_73 : decode mR_item.2.1 73 = .ok (.iconst 3, 1) := by decide +kernel
theorem dR_item_74 : decode mR_item.2.1 74 = .ok (.if_icmp .le 35, 3) := by decide +kernel
theorem dR_item_77 : decode mR_item.2.1 77 = .ok (.iload_n 3, 1) := by decide +kernel
theorem dR_item_78 : decode mR_item.2.1 78 = .ok (.iconst 4, 1) := by decide +kernel
theorem dR_item_79 : decode mR_item.2.1 79 = .ok (.if_icmp .ne 15, 3) := by decide +kernel
theorem dR_item_82 : decode mR_item.2.1 82 = .ok (.aload_n 0, 1) := by decide +kernel
theorem dR_item_83 : decode mR_item.2.1 83 = .ok (.iload_n 1, 1) := by decide +kernel
theorem dR_item_84 : decode mR_item.2.1 84 = .ok (.iload_n 2, 1) := by decide +kernel
theorem dR_item_85 : decode mR_item.2.1 85 = .ok (.invokevirtual 126, 3) := by decide +kernel
theorem dR_item_88 : decode mR_item.2.1 88 = .ok (.ifCond .eq 19, 3) := by decide +kernel
theorem dR_item_91 : decode mR_item.2.1 91 = .ok (.goto 12, 3) := by decide +kernel
theorem dR_item_94 : decode mR_item.2.1 94 = .ok (.aload_n 0, 1) := by decide +kernel
theorem dR_item_95 : decode mR_item.2.1 95 = .ok (.iload_n 1, 1) := by decide +kernel
theorem dR_item_96 : decode mR_item.2.1 96 = .ok (.iload_n 2, 1) := by decide +kernel
theorem dR_item_97 : decode mR_item.2.1 97 = .ok (.invokevirtual 130, 3) := by decide +kernel
theorem dR_item_100 : decode mR_item.2.1 100 = .ok (.ifCond .eq 7, 3) := by decide +kernel
theorem dR_item_103 : decode mR_item.2.1 103 = .ok (.iconst 1, 1) := by decide +kernel
theorem dR_item_104 : decode mR_item.2.1 104 = .ok (.goto 4, 3) := by decide +kernel
theorem dR_item_107 : decode mR_item.2.1 107 = .ok (.iconst 0, 1) := by decide +kernel
theorem dR_item_108 : decode mR_item.2.1 108 = .ok (.ireturn, 1) := by decide +kernel
theorem dR_item_109 : decode mR_item.2.1 109 = .ok (.aload_n 0, 1) := by decide +kernel
theorem dR_item_110 : decode mR_item.2.1 110 = .ok (.getfield 62, 3) := by decide +kernel
theorem dR_item_113 : decode mR_item.2.1 113 = .ok (.iload 4, 2) := by decide +kernel
theorem dR_item_115 : decode mR_item.2.1 115 = .ok (.baload, 1) := by decide +kernel
theorem dR_item_116 : decode mR_item.2.1 116 = .ok (.ifCond .ne 14, 3) := by decide +kernel
theorem dR_item_119 : decode mR_item.2.1 119 = .ok (.iload_n 3, 1) := by decide +kernel
theorem dR_item_120 : decode mR_item.2.1 120 = .ok (.iconst 1, 1) := by decide +kernel
theorem dR_item_121 : decode mR_item.2.1 121 = .ok (.if_icmp .ne 7, 3) := by decide +kernel
theorem dR_item_124 : decode mR_item.2.1 124 = .ok (.iconst 0, 1) := by decide +kernel
theorem dR_item_125 : decode mR_item.2.1 125 = .ok (.goto 4, 3) := by decide +kernel
theorem dR_item_128 : decode mR_item.2.1 128 = .ok (.iconst (-1), 1) := by decide +kernel
theorem dR_item_129 : decode mR_item.2.1 129 = .ok (.ireturn, 1) := by decide +kernel
theorem dR_item_130 : decode mR_item.2.1 130 = .ok (.iload_n 3, 1) := by decide +kernel
theorem dR_item_131 : decode mR_item.2.1 131 = .ok (.iconst 1, 1) := by decide +kernel
theorem dR_item_132 : decode mR_item.2.1 132 = .ok (.if_icmp .ne 13, 3) := by decide +kernel
theorem dR_item_135 : decode mR_item.2.1 135 = .ok (.aload_n 0, 1) := by decide +kernel
theorem dR_item_136 : decode mR_item.2.1 136 = .ok (.getfield 65, 3) := by decide +kernel
theorem dR_item_139 : decode mR_item.2.1 139 = .ok (.iload 4, 2) := by decide +kernel
theorem dR_item_141 : decode mR_item.2.1 141 = .ok (.iaload, 1) := by decide +kernel
theorem dR_item_142 : decode mR_item.2.1 142 = .ok (.goto 25, 3) := by decide +kernel
theorem dR_item_145 : decode mR_item.2.1 145 = .ok (.iload_n 3, 1) := by decide +kernel
theorem dR_item_146 : decode mR_item.2.1 146 = .ok (.iconst 2, 1) := by decide +kernel
theorem dR_item_147 : decode mR_item.2.1 147 = .ok (.if_icmp .ne 13, 3) := by decide +kernel
theorem dR_item_150 : decode mR_item.2.1 150 = .ok (.aload_n 0, 1) := by decide +kernel
theorem dR_item_151 : decode mR_item.2.1 151 = .ok (.getfield 68, 3) := by decide +kernel
theorem dR_item_154 : decode mR_item.2.1 154 = .ok (.iload 4, 2) := by decide +kernel
theorem dR_item_156 : decode mR_item.2.1 156 = .ok (.iaload, 1) := by decide +kernel
theorem dR_item_157 : decode mR_item.2.1 157 = .ok (.goto 10, 3) := by decide +kernel
theorem dR_item_160 : decode mR_item.2.1 160 = .ok (.aload_n 0, 1) := by decide +kernel
theorem dR_item_161 : decode mR_item.2.1 161 = .ok (.getfield 71, 3) := by decide +kernel
theorem dR_item_164 : decode mR_item.2.1 164 = .ok (.iload 4, 2) := by decide +kernel
theorem dR_item_166 : decode mR_item.2.1 166 = .ok (.iaload, 1) := by decide +kernel
theorem dR_item_167 : decode mR_item.2.1 167 = .ok (.ireturn, 1) := by decide +kernel
theorem dR_fails_0 : decode mR_fails.2.1 0 = .ok (.aload_n 0, 1) := by decide +kernel
theorem dR_fails_1 : decode mR_fails.2.1 1 = .ok (.getfield 7, 3) := by decide +kernel
theorem dR_fails_4 : decode mR_fails.2.1 4 = .ok (.aload_n 0, 1) := by decide +kernel
theorem dR_fails_5 : decode mR_fails.2.1 5 = .ok (.iload_n 1, 1) := by decide +kernel
theorem dR_fails_6 : decode mR_fails.2.1 6 = .ok (.iload_n 2, 1) := by decide +kernel
theorem dR_fails_7 : decode mR_fails.2.1 7 = .ok (.invokevirtual 111, 3) := by decide +kernel
theorem dR_fails_10 : decode mR_fails.2.1 10 = .ok (.baload, 1) := by decide +kernel
theorem dR_fails_11 : decode mR_fails.2.1 11 = .ok (.ifCond .eq 41, 3) := by decide +kernel
theorem dR_fails_14 : decode mR_fails.2.1 14 = .ok (.aload_n 0, 1) := by decide +kernel
theorem dR_fails_15 : decode mR_fails.2.1 15 = .ok (.getfield 62, 3) := by decide +kernel
theorem dR_fails_18 : decode mR_fails.2.1 18 = .ok (.bipush 10, 2) := by decide +kernel
theorem dR_fails_20 : decode mR_fails.2.1 20 = .ok (.iload_n 1, 1) := by decide +kernel
theorem dR_fails_21 : decode mR_fails.2.1 21 = .ok (.imul, 1) := by decide +kernel
theorem dR_fails_22 : decode mR_fails.2.1 22 = .ok (.iload_n 2, 1) := by decide +kernel
theorem dR_fails_23 : decode mR_fails.2.1 23 = .ok (.iadd, 1) := by decide +kernel
theorem dR_fails_24 : decode mR_fails.2.1 24 = .ok (.baload, 1) := by decide +kernel
theorem dR_fails_25 : decode mR_fails.2.1 25 = .ok (.ifCond .eq 27, 3) := by decide +kernel
theorem dR_fails_28 : decode mR_fails.2.1 28 = .ok (.aload_n 0, 1) := by decide +kernel
theorem dR_fails_29 : decode mR_fails.2.1 29 = .ok (.iload_n 1, 1) := by decide +kernel
theorem dR_fails_30 : decode mR_fails.2.1 30 = .ok (.iload_n 2, 1) := by decide +kernel
theorem dR_fails_31 : decode mR_fails.2.1 31 = .ok (.aload_n 0, 1) := by decide +kernel
theorem dR_fails_32 : decode mR_fails.2.1 32 = .ok (.getfield 65, 3) := by decide +kernel
theorem dR_fails_35 : decode mR_fails.2.1 35 = .ok (.bipush 10, 2) := by decide +kernel
theorem dR_fails_37 : decode mR_fails.2.1 37 = .ok (.iload_n 1, 1) := by decide +kernel
theorem dR_fails_38 : decode mR_fails.2.1 38 = .ok (.imul, 1) := by decide +kernel
theorem dR_fails_39 : decode mR_fails.2.1 39 = .ok (.iload_n 2, 1) := by decide +kernel
theorem dR_fails_40 : decode mR_fails.2.1 40 = .ok (.iadd, 1) := by decide +kernel
theorem dR_fails_41 : decode mR_fails.2.1 41 = .ok (.iaload, 1) := by decide +kernel
theorem dR_fails_42 : decode mR_fails.2.1 42 = .ok (.invokevirtual 123, 3) := by decide +kernel
theorem dR_fails_45 : decode mR_fails.2.1 45 = .ok (.ifCond .ne 7, 3) := by decide +kernel
theorem dR_fails_48 : decode mR_fails.2.1 48 = .ok (.iconst 1, 1) := by decide +kernel
theorem dR_fails_49 : decode mR_fails.2.1 49 = .ok (.goto 4, 3) := by decide +kernel
theorem dR_fails_52 : decode mR_fails.2.1 52 = .ok (.iconst 0, 1) := by decide +kernel
theorem dR_fails_53 : decode mR_fails.2.1 53 = .ok (.ireturn, 1) := by decide +kernel
theorem dR_isSkipped_0 : decode mR_isSkipped.2.1 0 = .ok (.bipush 10, 2) := by decide +kernel
theorem dR_isSkipped_2 : decode mR_isSkipped.2.1 2 = .ok (.iload_n 1, 1) := by decide +kernel
theorem dR_isSkipped_3 : decode mR_isSkipped.2.1 3 = .ok (.imul, 1) := by decide +kernel
theorem dR_isSkipped_4 : decode mR_isSkipped.2.1 4 = .ok (.iload_n 2, 1) := by decide +kernel
theorem dR_isSkipped_5 : decode mR_isSkipped.2.1 5 = .ok (.iadd, 1) := by decide +kernel
theorem dR_isSkipped_6 : decode mR_isSkipped.2.1 6 = .ok (.istore_n 3, 1) := by decide +kernel
theorem dR_isSkipped_7 : decode mR_isSkipped.2.1 7 = .ok (.aload_n 0, 1) := by decide +kernel
theorem dR_isSkipped_8 : decode mR_isSkipped.2.1 8 = .ok (.getfield 23, 3) := by decide +kernel
theorem dR_isSkipped_11 : decode mR_isSkipped.2.1 11 = .ok (.aload_n 0, 1) := by decide +kernel
theorem dR_isSkipped_12 : decode mR_isSkipped.2.1 12 = .ok (.iload_n 1, 1) := by decide +kernel
theorem dR_isSkipped_13 : decode mR_isSkipped.2.1 13 = .ok (.iload_n 2, 1) := by decide +kernel
theorem dR_isSkipped_14 : decode mR_isSkipped.2.1 14 = .ok (.invokevirtual 111, 3) := by decide +kernel
theorem dR_isSkipped_17 : decode mR_isSkipped.2.1 17 = .ok (.iaload, 1) := by decide +kernel
theorem dR_isSkipped_18 : decode mR_isSkipped.2.1 18 = .ok (.istore 4, 2) := by decide +kernel
theorem dR_isSkipped_20 : decode mR_isSkipped.2.1 20 = .ok (.aload_n 0, 1) := by decide +kernel
theorem dR_isSkipped_21 : decode mR_isSkipped.2.1 21 = .ok (.getfield 7, 3) := by decide +kernel
theorem dR_isSkipped_24 : decode mR_isSkipped.2.1 24 = .ok (.aload_n 0, 1) := by decide +kernel
theorem dR_isSkipped_25 : decode mR_isSkipped.2.1 25 = .ok (.iload_n 1, 1) := by decide +kernel
theorem dR_isSkipped_26 : decode mR_isSkipped.2.1 26 = .ok (.iload_n 2, 1) := by decide +kernel
theorem dR_isSkipped_27 : decode mR_isSkipped.2.1 27 = .ok (.invokevirtual 111, 3) := by decide +kernel
theorem dR_isSkipped_30 : decode mR_isSkipped.2.1 30 = .ok (.baload, 1) := by decide +kernel
theorem dR_isSkipped_31 : decode mR_isSkipped.2.1 31 = .ok (.ifCond .ne 5, 3) := by decide +kernel
theorem dR_isSkipped_34 : decode mR_isSkipped.2.1 34 = .ok (.iconst 0, 1) := by decide +kernel
theorem dR_isSkipped_35 : decode mR_isSkipped.2.1 35 = .ok (.ireturn, 1) := by decide +kernel
theorem dR_isSkipped_36 : decode mR_isSkipped.2.1 36 = .ok (.iload 4, 2) := by decide +kernel
theorem dR_isSkipped_38 : decode mR_isSkipped.2.1 38 = .ok (.ifCond .ne 37, 3) := by decide +kernel
theorem dR_isSkipped_41 : decode mR_isSkipped.2.1 41 = .ok (.aload_n 0, 1) := by decide +kernel
theorem dR_isSkipped_42 : decode mR_isSkipped.2.1 42 = .ok (.getfield 47, 3) := by decide +kernel
theorem dR_isSkipped_45 : decode mR_isSkipped.2.1 45 = .ok (.iload_n 1, 1) := by decide +kernel
theorem dR_isSkipped_46 : decode mR_isSkipped.2.1 46 = .ok (.iaload, 1) := by decide +kernel
theorem dR_isSkipped_47 : decode mR_isSkipped.2.1 47 = .ok (.aload_n 0, 1) := by decide +kernel
theorem dR_isSkipped_48 : decode mR_isSkipped.2.1 48 = .ok (.getfield 62, 3) := by decide +kernel
theorem dR_isSkipped_51 : decode mR_isSkipped.2.1 51 = .ok (.iload_n 3, 1) := by decide +kernel
theorem dR_isSkipped_52 : decode mR_isSkipped.2.1 52 = .ok (.baload, 1) := by decide +kernel
theorem dR_isSkipped_53 : decode mR_isSkipped.2.1 53 = .ok (.ifCond .eq 12, 3) := by decide +kernel
theorem dR_isSkipped_56 : decode mR_isSkipped.2.1 56 = .ok (.aload_n 0, 1) := by decide +kernel
theorem dR_isSkipped_57 : decode mR_isSkipped.2.1 57 = .ok (.getfield 74, 3) := by decide +kernel
theorem dR_isSkipped_60 : decode mR_isSkipped.2.1 60 = .ok (.iload_n 3, 1) := by decide +kernel
theorem dR_isSkipped_61 : decode mR_isSkipped.2.1 61 = .ok (.iaload, 1) := by decide +kernel
theorem dR_isSkipped_62 : decode mR_isSkipped.2.1 62 = .ok (.goto 4, 3) := by decide +kernel
theorem dR_isSkipped_65 : decode mR_isSkipped.2.1 65 = .ok (.iconst 0, 1) := by decide +kernel
theorem dR_isSkipped_66 : decode mR_isSkipped.2.1 66 = .ok (.if_icmp .le 7, 3) := by decide +kernel
theorem dR_isSkipped_69 : decode mR_isSkipped.2.1 69 = .ok (.iconst 1, 1) := by decide +kernel
theorem dR_isSkipped_70 : decode mR_isSkipped.2.1 70 = .ok (.goto 4, 3) := by decide +kernel
theorem dR_isSkipped_73 : decode mR_isSkipped.2.1 73 = .ok (.iconst 0, 1) := by decide +kernel
theorem dR_isSkipped_74 : decode mR_isSkipped.2.1 74 = .ok (.ireturn, 1) := by decide +kernel
theorem dR_isSkipped_75 : decode mR_isSkipped.2.1 75 = .ok (.aload_n 0, 1) := by decide +kernel
theorem dR_isSkipped_76 : decode mR_isSkipped.2.1 76 = .ok (.getfield 105, 3) := by decide +kernel
theorem dR_isSkipped_79 : decode mR_isSkipped.2.1 79 = .ok (.aload_n 0, 1) := by decide +kernel
theorem dR_isSkipped_80 : decode mR_isSkipped.2.1 80 = .ok (.getfield 62, 3) := by decide +kernel
theorem dR_isSkipped_83 : decode mR_isSkipped.2.1 83 = .ok (.iload_n 3, 1) := by decide +kernel
theorem dR_isSkipped_84 : decode mR_isSkipped.2.1 84 = .ok (.baload, 1) := by decide +kernel
theorem dR_isSkipped_85 : decode mR_isSkipped.2.1 85 = .ok (.ifCond .eq 12, 3) := by decide +kernel
theorem dR_isSkipped_88 : decode mR_isSkipped.2.1 88 = .ok (.aload_n 0, 1) := by decide +kernel
theorem dR_isSkipped_89 : decode mR_isSkipped.2.1 89 = .ok (.getfield 68, 3) := by decide +kernel
theorem dR_isSkipped_92 : decode mR_isSkipped.2.1 92 = .ok (.iload_n 3, 1) := by decide +kernel
theorem dR_isSkipped_93 : decode mR_isSkipped.2.1 93 = .ok (.iaload, 1) := by decide +kernel
theorem dR_isSkipped_94 : decode mR_isSkipped.2.1 94 = .ok (.goto 9, 3) := by decide +kernel
theorem dR_isSkipped_97 : decode mR_isSkipped.2.1 97 = .ok (.aload_n 0, 1) := by decide +kernel
theorem dR_isSkipped_98 : decode mR_isSkipped.2.1 98 = .ok (.getfield 38, 3) := by decide +kernel
theorem dR_isSkipped_101 : decode mR_isSkipped.2.1 101 = .ok (.iload_n 1, 1) := by decide +kernel
theorem dR_isSkipped_102 : decode mR_isSkipped.2.1 102 = .ok (.iaload, 1) := by decide +kernel
theorem dR_isSkipped_103 : decode mR_isSkipped.2.1 103 = .ok (.isub, 1) := by decide +kernel
theorem dR_isSkipped_104 : decode mR_isSkipped.2.1 104 = .ok (.iload 4, 2) := by decide +kernel
theorem dR_isSkipped_106 : decode mR_isSkipped.2.1 106 = .ok (.if_icmp .lt 7, 3) := by decide +kernel
theorem dR_isSkipped_109 : decode mR_isSkipped.2.1 109 = .ok (.iconst 1, 1) := by decide +kernel
theorem dR_isSkipped_110 : decode mR_isSkipped.2.1 110 = .ok (.goto 4, 3) := by decide +kernel
theorem dR_isSkipped_113 : decode mR_isSkipped.2.1 113 = .ok (.iconst 0, 1) := by decide +kernel
theorem dR_isSkipped_114 : decode mR_isSkipped.2.1 114 = .ok (.ireturn, 1) := by decide +kernel
theorem dR_reason_0 : decode mR_reason.2.1 0 = .ok (.aload_n 0, 1) := by decide +kernel
theorem dR_reason_1 : decode mR_reason.2.1 1 = .ok (.aload_n 0, 1) := by decide +kernel
theorem dR_reason_2 : decode mR_reason.2.1 2 = .ok (.iload_n 1, 1) := by decide +kernel
theorem dR_reason_3 : decode mR_reason.2.1 3 = .ok (.invokevirtual 115, 3) := by decide +kernel
theorem dR_reason_6 : decode mR_reason.2.1 6 = .ok (.iload_n 2, 1) := by decide +kernel
theorem dR_reason_7 : decode mR_reason.2.1 7 = .ok (.ifCond .lt 7, 3) := by decide +kernel
theorem dR_reason_10 : decode mR_reason.2.1 10 = .ok (.iconst 1, 1) := by decide +kernel
theorem dR_reason_11 : decode mR_reason.2.1 11 = .ok (.goto 4, 3) := by decide +kernel
theorem dR_reason_14 : decode mR_reason.2.1 14 = .ok (.iconst 0, 1) := by decide +kernel
theorem dR_reason_15 : decode mR_reason.2.1 15 = .ok (.iconst 1, 1) := by decide +kernel
theorem dR_reason_16 : decode mR_reason.2.1 16 = .ok (.invokevirtual 101, 3) := by decide +kernel
theorem dR_reason_19 : decode mR_reason.2.1 19 = .ok (.ifCond .ne 5, 3) := by decide +kernel
theorem dR_reason_22 : decode mR_reason.2.1 22 = .ok (.iconst 0, 1) := by decide +kernel
theorem dR_reason_23 : decode mR_reason.2.1 23 = .ok (.ireturn, 1) := by decide +kernel
theorem dR_reason_24 : decode mR_reason.2.1 24 = .ok (.aload_n 0, 1) := by decide +kernel
theorem dR_reason_25 : decode mR_reason.2.1 25 = .ok (.iload_n 1, 1) := by decide +kernel
theorem dR_reason_26 : decode mR_reason.2.1 26 = .ok (.iload_n 2, 1) := by decide +kernel
theorem dR_reason_27 : decode mR_reason.2.1 27 = .ok (.invokevirtual 136, 3) := by decide +kernel
theorem dR_reason_30 : decode mR_reason.2.1 30 = .ok (.ireturn, 1) := by decide +kernel
theorem dR_reasonOf_0 : decode mR_reasonOf.2.1 0 = .ok (.iconst 0, 1) := by decide +kernel
theorem dR_reasonOf_1 : decode mR_reasonOf.2.1 1 = .ok (.istore_n 3, 1) := by decide +kernel
theorem dR_reasonOf_2 : decode mR_reasonOf.2.1 2 = .ok (.iconst 0, 1) := by decide +kernel
theorem dR_reasonOf_3 : decode mR_reasonOf.2.1 3 = .ok (.istore 4, 2) := by decide +kernel
theorem dR_reasonOf_5 : decode mR_reasonOf.2.1 5 = .ok (.iload 4, 2) := by decide +kernel
theorem dR_reasonOf_7 : decode mR_reasonOf.2.1 7 = .ok (.bipush 10, 2) := by decide +kernel
theorem dR_reasonOf_9 : decode mR_reasonOf.2.1 9 = .ok (.if_icmp .ge 50, 3) := by decide +kernel
theorem dR_reasonOf_12 : decode mR_reasonOf.2.1 12 = .ok (.aload_n 0, 1) := by decide +kernel
theorem dR_reasonOf_13 : decode mR_reasonOf.2.1 13 = .ok (.iload_n 1, 1) := by decide +kernel
theorem dR_reasonOf_14 : decode mR_reasonOf.2.1 14 = .ok (.iload 4, 2) := by decide +kernel
theorem dR_reasonOf_16 : decode mR_reasonOf.2.1 16 = .ok (.invokevirtual 126, 3) := by decide +kernel
theorem dR_reasonOf_19 : decode mR_reasonOf.2.1 19 = .ok (.ifCond .ne 6, 3) := by decide +kernel
theorem dR_reasonOf_22 : decode mR_reasonOf.2.1 22 = .ok (.goto 31, 3) := by decide +kernel
theorem dR_reasonOf_25 : decode mR_reasonOf.2.1 25 = .ok (.iload_n 3, 1) := by decide +kernel
theorem dR_reasonOf_26 : decode mR_reasonOf.2.1 26 = .ok (.iload_n 2, 1) := by decide +kernel
theorem dR_reasonOf_27 : decode mR_reasonOf.2.1 27 = .ok (.if_icmp .ne 23, 3) := by decide +kernel
theorem dR_reasonOf_30 : decode mR_reasonOf.2.1 30 = .ok (.sipush 10000, 3) := by decide +kernel
theorem dR_reasonOf_33 : decode mR_reasonOf.2.1 33 = .ok (.aload_n 0, 1) := by decide +kernel
theorem dR_reasonOf_34 : decode mR_reasonOf.2.1 34 = .ok (.getfield 20, 3) := by decide +kernel
theorem dR_reasonOf_37 : decode mR_reasonOf.2.1 37 = .ok (.aload_n 0, 1) := by decide +kernel
theorem dR_reasonOf_38 : decode mR_reasonOf.2.1 38 = .ok (.iload_n 1, 1) := by decide +kernel
theorem dR_reasonOf_39 : decode mR_reasonOf.2.1 39 = .ok (.iload 4, 2) := by decide +kernel
theorem dR_reasonOf_41 : decode mR_reasonOf.2.1 41 = .ok (.invokevirtual 111, 3) := by decide +kernel
theorem dR_reasonOf_44 : decode mR_reasonOf.2.1 44 = .ok (.iaload, 1) := by decide +kernel
theorem dR_reasonOf_45 : decode mR_reasonOf.2.1 45 = .ok (.imul, 1) := by decide +kernel
theorem dR_reasonOf_46 : decode mR_reasonOf.2.1 46 = .ok (.iload 4, 2) := by decide +kernel
theorem dR_reasonOf_48 : decode mR_reasonOf.2.1 48 = .ok (.iadd, 1) := by decide +kernel
theorem dR_reasonOf_49 : decode mR_reasonOf.2.1 49 = .ok (.ireturn, 1) := by decide +kernel
theorem dR_reasonOf_50 : decode mR_reasonOf.2.1 50 = .ok (.iinc 3 1, 3) := by decide +kernel
theorem dR_reasonOf_53 : decode mR_reasonOf.2.1 53 = .ok (.iinc 4 1, 3) := by decide +kernel
theorem dR_reasonOf_56 : decode mR_reasonOf.2.1 56 = .ok (.goto (-51), 3) := by decide +kernel
theorem dR_reasonOf_59 : decode mR_reasonOf.2.1 59 = .ok (.iconst 0, 1) := by decide +kernel
theorem dR_reasonOf_60 : decode mR_reasonOf.2.1 60 = .ok (.istore 4, 2) := by decide +kernel
theorem dR_reasonOf_62 : decode mR_reasonOf.2.1 62 = .ok (.iload 4, 2) := by decide +kernel
theorem dR_reasonOf_64 : decode mR_reasonOf.2.1 64 = .ok (.bipush 10, 2) := by decide +kernel
theorem dR_reasonOf_66 : decode mR_reasonOf.2.1 66 = .ok (.if_icmp .ge 53, 3) := by decide +kernel
theorem dR_reasonOf_69 : decode mR_reasonOf.2.1 69 = .ok (.aload_n 0, 1) := by decide +kernel
theorem dR_reasonOf_70 : decode mR_reasonOf.2.1 70 = .ok (.iload_n 1, 1) := by decide +kernel
theorem dR_reasonOf_71 : decode mR_reasonOf.2.1 71 = .ok (.iload 4, 2) := by decide +kernel
theorem dR_reasonOf_73 : decode mR_reasonOf.2.1 73 = .ok (.invokevirtual 130, 3) := by decide +kernel
theorem dR_reasonOf_76 : decode mR_reasonOf.2.1 76 = .ok (.ifCond .ne 6, 3) := by decide +kernel
theorem dR_reasonOf_79 : decode mR_reasonOf.2.1 79 = .ok (.goto 34, 3) := by decide +kernel
theorem dR_reasonOf_82 : decode mR_reasonOf.2.1 82 = .ok (.iload_n 3, 1) := by decide +kernel
theorem dR_reasonOf_83 : decode mR_reasonOf.2.1 83 = .ok (.iload_n 2, 1) := by decide +kernel
theorem dR_reasonOf_84 : decode mR_reasonOf.2.1 84 = .ok (.if_icmp .ne 26, 3) := by decide +kernel
theorem dR_reasonOf_87 : decode mR_reasonOf.2.1 87 = .ok (.sipush 10000, 3) := by decide +kernel
theorem dR_reasonOf_90 : decode mR_reasonOf.2.1 90 = .ok (.aload_n 0, 1) := by decide +kernel
theorem dR_reasonOf_91 : decode mR_reasonOf.2.1 91 = .ok (.getfield 20, 3) := by decide +kernel
theorem dR_reasonOf_94 : decode mR_reasonOf.2.1 94 = .ok (.aload_n 0, 1) := by decide +kernel
theorem dR_reasonOf_95 : decode mR_reasonOf.2.1 95 = .ok (.iload_n 1, 1) := by decide +kernel
theorem dR_reasonOf_96 : decode mR_reasonOf.2.1 96 = .ok (.iload 4, 2) := by decide +kernel
theorem dR_reasonOf_98 : decode mR_reasonOf.2.1 98 = .ok (.invokevirtual 111, 3) := by decide +kernel
theorem dR_reasonOf_101 : decode mR_reasonOf.2.1 101 = .ok (.iaload, 1) := by decide +kernel
theorem dR_reasonOf_102 : decode mR_reasonOf.2.1 102 = .ok (.imul, 1) := by decide +kernel
theorem dR_reasonOf_103 : decode mR_reasonOf.2.1 103 = .ok (.bipush 100, 2) := by decide +kernel
theorem dR_reasonOf_105 : decode mR_reasonOf.2.1 105 = .ok (.iadd, 1) := by decide +kernel
theorem dR_reasonOf_106 : decode mR_reasonOf.2.1 106 = .ok (.iload 4, 2) := by decide +kernel
theorem dR_reasonOf_108 : decode mR_reasonOf.2.1 108 = .ok (.iadd, 1) := by decide +kernel
theorem dR_reasonOf_109 : decode mR_reasonOf.2.1 109 = .ok (.ireturn, 1) := by decide +kernel
theorem dR_reasonOf_110 : decode mR_reasonOf.2.1 110 = .ok (.iinc 3 1, 3) := by decide +kernel
theorem dR_reasonOf_113 : decode mR_reasonOf.2.1 113 = .ok (.iinc 4 1, 3) := by decide +kernel
theorem dR_reasonOf_116 : decode mR_reasonOf.2.1 116 = .ok (.goto (-54), 3) := by decide +kernel
theorem dR_reasonOf_119 : decode mR_reasonOf.2.1 119 = .ok (.iconst 0, 1) := by decide +kernel
theorem dR_reasonOf_120 : decode mR_reasonOf.2.1 120 = .ok (.istore 4, 2) := by decide +kernel
theorem dR_reasonOf_122 : decode mR_reasonOf.2.1 122 = .ok (.iload 4, 2) := by decide +kernel
theorem dR_reasonOf_124 : decode mR_reasonOf.2.1 124 = .ok (.aload_n 0, 1) := by decide +kernel
theorem dR_reasonOf_125 : decode mR_reasonOf.2.1 125 = .ok (.getfield 133, 3) := by decide +kernel
theorem dR_reasonOf_128 : decode mR_reasonOf.2.1 128 = .ok (.if_icmp .ge 60, 3) := by decide +kernel
theorem dR_reasonOf_131 : decode mR_reasonOf.2.1 131 = .ok (.aload_n 0, 1) := by decide +kernel
theorem dR_reasonOf_132 : decode mR_reasonOf.2.1 132 = .ok (.getfield 77, 3) := by decide +kernel
theorem dR_reasonOf_135 : decode mR_reasonOf.2.1 135 = .ok (.iload 4, 2) := by decide +kernel
theorem dR_reasonOf_137 : decode mR_reasonOf.2.1 137 = .ok (.iaload, 1) := by decide +kernel
theorem dR_reasonOf_138 : decode mR_reasonOf.2.1 138 = .ok (.iload_n 1, 1) := by decide +kernel
theorem dR_reasonOf_139 : decode mR_reasonOf.2.1 139 = .ok (.if_icmp .ne 43, 3) := by decide +kernel
theorem dR_reasonOf_142 : decode mR_reasonOf.2.1 142 = .ok (.aload_n 0, 1) := by decide +kernel
theorem dR_reasonOf_143 : decode mR_reasonOf.2.1 143 = .ok (.getfield 83, 3) := by decide +kernel
theorem dR_reasonOf_146 : decode mR_reasonOf.2.1 146 = .ok (.iload 4, 2) := by decide +kernel
theorem dR_reasonOf_148 : decode mR_reasonOf.2.1 148 = .ok (.iaload, 1) := by decide +kernel
theorem dR_reasonOf_149 : decode mR_reasonOf.2.1 149 = .ok (.ifCond .le 6, 3) := by decide +kernel
theorem dR_reasonOf_152 : decode mR_reasonOf.2.1 152 = .ok (.goto 30, 3) := by decide +kernel
theorem dR_reasonOf_155 : decode mR_reasonOf.2.1 155 = .ok (.iload_n 3, 1) := by decide +kernel
theorem dR_reasonOf_156 : decode mR_reasonOf.2.1 156 = .ok (.iload_n 2, 1) := by decide +kernel
theorem dR_reasonOf_157 : decode mR_reasonOf.2.1 157 = .ok (.if_icmp .ne 22, 3) := by decide +kernel
theorem dR_reasonOf_160 : decode mR_reasonOf.2.1 160 = .ok (.sipush 10000, 3) := by decide +kernel
theorem dR_reasonOf_163 : decode mR_reasonOf.2.1 163 = .ok (.aload_n 0, 1) := by decide +kernel
theorem dR_reasonOf_164 : decode mR_reasonOf.2.1 164 = .ok (.getfield 80, 3) := by decide +kernel
theorem dR_reasonOf_167 : decode mR_reasonOf.2.1 167 = .ok (.iload 4, 2) := by decide +kernel
theorem dR_reasonOf_169 : decode mR_reasonOf.2.1 169 = .ok (.iaload, 1) := by decide +kernel
theorem dR_reasonOf_170 : decode mR_reasonOf.2.1 170 = .ok (.imul, 1) := by decide +kernel
theorem dR_reasonOf_171 : decode mR_reasonOf.2.1 171 = .ok (.sipush 1000, 3) := by decide +kernel
theorem dR_reasonOf_174 : decode mR_reasonOf.2.1 174 = .ok (.iadd, 1) := by decide +kernel
theorem dR_reasonOf_175 : decode mR_reasonOf.2.1 175 = .ok (.iload 4, 2) := by decide +kernel
theorem dR_reasonOf_177 : decode mR_reasonOf.2.1 177 = .ok (.iadd, 1) := by decide +kernel
theorem dR_reasonOf_178 : decode mR_reasonOf.2.1 178 = .ok (.ireturn, 1) := by decide +kernel
theorem dR_reasonOf_179 : decode mR_reasonOf.2.1 179 = .ok (.iinc 3 1, 3) := by decide +kernel
theorem dR_reasonOf_182 : decode mR_reasonOf.2.1 182 = .ok (.iinc 4 1, 3) := by decide +kernel
theorem dR_reasonOf_185 : decode mR_reasonOf.2.1 185 = .ok (.goto (-63), 3) := by decide +kernel
theorem dR_reasonOf_188 : decode mR_reasonOf.2.1 188 = .ok (.iconst (-1), 1) := by decide +kernel
theorem dR_reasonOf_189 : decode mR_reasonOf.2.1 189 = .ok (.ireturn, 1) := by decide +kernel
theorem dR_runs_0 : decode mR_runs.2.1 0 = .ok (.aload_n 0, 1) := by decide +kernel
theorem dR_runs_1 : decode mR_runs.2.1 1 = .ok (.aload_n 0, 1) := by decide +kernel
theorem dR_runs_2 : decode mR_runs.2.1 2 = .ok (.iload_n 1, 1) := by decide +kernel
theorem dR_runs_3 : decode mR_runs.2.1 3 = .ok (.invokevirtual 115, 3) := by decide +kernel
theorem dR_runs_6 : decode mR_runs.2.1 6 = .ok (.iconst 1, 1) := by decide +kernel
theorem dR_runs_7 : decode mR_runs.2.1 7 = .ok (.iconst 1, 1) := by decide +kernel
theorem dR_runs_8 : decode mR_runs.2.1 8 = .ok (.invokevirtual 101, 3) := by decide +kernel
theorem dR_runs_11 : decode mR_runs.2.1 11 = .ok (.ifCond .eq 15, 3) := by decide +kernel
theorem dR_runs_14 : decode mR_runs.2.1 14 = .ok (.aload_n 0, 1) := by decide +kernel
theorem dR_runs_15 : decode mR_runs.2.1 15 = .ok (.iload_n 1, 1) := by decide +kernel
theorem dR_runs_16 : decode mR_runs.2.1 16 = .ok (.invokevirtual 139, 3) := by decide +kernel
theorem dR_runs_19 : decode mR_runs.2.1 19 = .ok (.ifCond .eq 7, 3) := by decide +kernel
theorem dR_runs_22 : decode mR_runs.2.1 22 = .ok (.iconst 1, 1) := by decide +kernel
theorem dR_runs_23 : decode mR_runs.2.1 23 = .ok (.goto 4, 3) := by decide +kernel
theorem dR_runs_26 : decode mR_runs.2.1 26 = .ok (.iconst 0, 1) := by decide +kernel
theorem dR_runs_27 : decode mR_runs.2.1 27 = .ok (.ireturn, 1) := by decide +kernel
theorem dR_isRunning_0 : decode mR_isRunning.2.1 0 = .ok (.iconst 0, 1) := by decide +kernel
theorem dR_isRunning_1 : decode mR_isRunning.2.1 1 = .ok (.istore_n 2, 1) := by decide +kernel
theorem dR_isRunning_2 : decode mR_isRunning.2.1 2 = .ok (.iconst 0, 1) := by decide +kernel
theorem dR_isRunning_3 : decode mR_isRunning.2.1 3 = .ok (.istore_n 3, 1) := by decide +kernel
theorem dR_isRunning_4 : decode mR_isRunning.2.1 4 = .ok (.aload_n 0, 1) := by decide +kernel
theorem dR_isRunning_5 : decode mR_isRunning.2.1 5 = .ok (.iload_n 1, 1) := by decide +kernel
theorem dR_isRunning_6 : decode mR_isRunning.2.1 6 = .ok (.iconst 0, 1) := by decide +kernel
theorem dR_isRunning_7 : decode mR_isRunning.2.1 7 = .ok (.invokevirtual 136, 3) := by decide +kernel
theorem dR_isRunning_10 : decode mR_isRunning.2.1 10 = .ok (.istore 4, 2) := by decide +kernel
theorem dR_isRunning_12 : decode mR_isRunning.2.1 12 = .ok (.iload 4, 2) := by decide +kernel
theorem dR_isRunning_14 : decode mR_isRunning.2.1 14 = .ok (.ifCond .lt 38, 3) := by decide +kernel
theorem dR_isRunning_17 : decode mR_isRunning.2.1 17 = .ok (.iload 4, 2) := by decide +kernel
theorem dR_isRunning_19 : decode mR_isRunning.2.1 19 = .ok (.sipush 30000, 3) := by decide +kernel
theorem dR_isRunning_22 : decode mR_isRunning.2.1 22 = .ok (.if_icmp .lt 5, 3) := by decide +kernel
theorem dR_isRunning_25 : decode mR_isRunning.2.1 25 = .ok (.iconst 0, 1) := by decide +kernel
theorem dR_isRunning_26 : decode mR_isRunning.2.1 26 = .ok (.ireturn, 1) := by decide +kernel
theorem dR_isRunning_27 : decode mR_isRunning.2.1 27 = .ok (.iload 4, 2) := by decide +kernel
theorem dR_isRunning_29 : decode mR_isRunning.2.1 29 = .ok (.sipush 20000, 3) := by decide +kernel
theorem dR_isRunning_32 : decode mR_isRunning.2.1 32 = .ok (.if_icmp .lt 6, 3) := by decide +kernel
theorem dR_isRunning_35 : decode mR_isRunning.2.1 35 = .ok (.iinc 2 1, 3) := by decide +kernel
theorem dR_isRunning_38 : decode mR_isRunning.2.1 38 = .ok (.iinc 3 1, 3) := by decide +kernel
theorem dR_isRunning_41 : decode mR_isRunning.2.1 41 = .ok (.aload_n 0, 1) := by decide +kernel
theorem dR_isRunning_42 : decode mR_isRunning.2.1 42 = .ok (.iload_n 1, 1) := by decide +kernel
theorem dR_isRunning_43 : decode mR_isRunning.2.1 43 = .ok (.iload_n 3, 1) := by decide +kernel
theorem dR_isRunning_44 : decode mR_isRunning.2.1 44 = .ok (.invokevirtual 136, 3) := by decide +kernel
theorem dR_isRunning_47 : decode mR_isRunning.2.1 47 = .ok (.istore 4, 2) := by decide +kernel
theorem dR_isRunning_49 : decode mR_isRunning.2.1 49 = .ok (.goto (-37), 3) := by decide +kernel
theorem dR_isRunning_52 : decode mR_isRunning.2.1 52 = .ok (.aload_n 0, 1) := by decide +kernel
theorem dR_isRunning_53 : decode mR_isRunning.2.1 53 = .ok (.getfield 35, 3) := by decide +kernel
theorem dR_isRunning_56 : decode mR_isRunning.2.1 56 = .ok (.iload_n 1, 1) := by decide +kernel
theorem dR_isRunning_57 : decode mR_isRunning.2.1 57 = .ok (.baload, 1) := by decide +kernel
theorem dR_isRunning_58 : decode mR_isRunning.2.1 58 = .ok (.ifCond .ne 12, 3) := by decide +kernel
theorem dR_isRunning_61 : decode mR_isRunning.2.1 61 = .ok (.iload_n 2, 1) := by decide +kernel
theorem dR_isRunning_62 : decode mR_isRunning.2.1 62 = .ok (.iconst 2, 1) := by decide +kernel
theorem dR_isRunning_63 : decode mR_isRunning.2.1 63 = .ok (.if_icmp .ge 7, 3) := by decide +kernel
theorem dR_isRunning_66 : decode mR_isRunning.2.1 66 = .ok (.iconst 1, 1) := by decide +kernel
theorem dR_isRunning_67 : decode mR_isRunning.2.1 67 = .ok (.goto 4, 3) := by decide +kernel
theorem dR_isRunning_70 : decode mR_isRunning.2.1 70 = .ok (.iconst 0, 1) := by decide +kernel
theorem dR_isRunning_71 : decode mR_isRunning.2.1 71 = .ok (.ireturn, 1) := by decide +kernel
theorem dR_use_0 : decode mR_use.2.1 0 = .ok (.aload_n 0, 1) := by decide +kernel
theorem dR_use_1 : decode mR_use.2.1 1 = .ok (.aload_n 0, 1) := by decide +kernel
theorem dR_use_2 : decode mR_use.2.1 2 = .ok (.iload_n 1, 1) := by decide +kernel
theorem dR_use_3 : decode mR_use.2.1 3 = .ok (.invokevirtual 115, 3) := by decide +kernel
theorem dR_use_6 : decode mR_use.2.1 6 = .ok (.iload_n 2, 1) := by decide +kernel
theorem dR_use_7 : decode mR_use.2.1 7 = .ok (.iconst 0, 1) := by decide +kernel
theorem dR_use_8 : decode mR_use.2.1 8 = .ok (.ldc 142, 2) := by decide +kernel
theorem dR_use_10 : decode mR_use.2.1 10 = .ok (.invokestatic 93, 3) := by decide +kernel
theorem dR_use_13 : decode mR_use.2.1 13 = .ok (.aload_n 0, 1) := by decide +kernel
theorem dR_use_14 : decode mR_use.2.1 14 = .ok (.iload_n 1, 1) := by decide +kernel
theorem dR_use_15 : decode mR_use.2.1 15 = .ok (.invokevirtual 115, 3) := by decide +kernel
theorem dR_use_18 : decode mR_use.2.1 18 = .ok (.ifCond .eq 15, 3) := by decide +kernel
theorem dR_use_21 : decode mR_use.2.1 21 = .ok (.aload_n 0, 1) := by decide +kernel
theorem dR_use_22 : decode mR_use.2.1 22 = .ok (.iload_n 1, 1) := by decide +kernel
theorem dR_use_23 : decode mR_use.2.1 23 = .ok (.invokevirtual 139, 3) := by decide +kernel
theorem dR_use_26 : decode mR_use.2.1 26 = .ok (.ifCond .eq 7, 3) := by decide +kernel
theorem dR_use_29 : decode mR_use.2.1 29 = .ok (.iconst 1, 1) := by decide +kernel
theorem dR_use_30 : decode mR_use.2.1 30 = .ok (.goto 4, 3) := by decide +kernel
theorem dR_use_33 : decode mR_use.2.1 33 = .ok (.iconst 0, 1) := by decide +kernel
theorem dR_use_34 : decode mR_use.2.1 34 = .ok (.invokevirtual 101, 3) := by decide +kernel
theorem dR_use_37 : decode mR_use.2.1 37 = .ok (.ifCond .ne 5, 3) := by decide +kernel
theorem dR_use_40 : decode mR_use.2.1 40 = .ok (.iconst 0, 1) := by decide +kernel
theorem dR_use_41 : decode mR_use.2.1 41 = .ok (.ireturn, 1) := by decide +kernel
theorem dR_use_42 : decode mR_use.2.1 42 = .ok (.aload_n 0, 1) := by decide +kernel
theorem dR_use_43 : decode mR_use.2.1 43 = .ok (.getfield 47, 3) := by decide +kernel
theorem dR_use_46 : decode mR_use.2.1 46 = .ok (.iload_n 1, 1) := by decide +kernel
theorem dR_use_47 : decode mR_use.2.1 47 = .ok (.dup2, 1) := by decide +kernel
theorem dR_use_48 : decode mR_use.2.1 48 = .ok (.iaload, 1) := by decide +kernel
theorem dR_use_49 : decode mR_use.2.1 49 = .ok (.iconst 1, 1) := by decide +kernel
theorem dR_use_50 : decode mR_use.2.1 50 = .ok (.iadd, 1) := by decide +kernel
theorem dR_use_51 : decode mR_use.2.1 51 = .ok (.iastore, 1) := by decide +kernel
theorem dR_use_52 : decode mR_use.2.1 52 = .ok (.iload_n 2, 1) := by decide +kernel
theorem dR_use_53 : decode mR_use.2.1 53 = .ok (.aload_n 0, 1) := by decide +kernel
theorem dR_use_54 : decode mR_use.2.1 54 = .ok (.getfield 41, 3) := by decide +kernel
theorem dR_use_57 : decode mR_use.2.1 57 = .ok (.iload_n 1, 1) := by decide +kernel
theorem dR_use_58 : decode mR_use.2.1 58 = .ok (.iaload, 1) := by decide +kernel
theorem dR_use_59 : decode mR_use.2.1 59 = .ok (.if_icmp .ge 15, 3) := by decide +kernel
theorem dR_use_62 : decode mR_use.2.1 62 = .ok (.aload_n 0, 1) := by decide +kernel
theorem dR_use_63 : decode mR_use.2.1 63 = .ok (.getfield 44, 3) := by decide +kernel
theorem dR_use_66 : decode mR_use.2.1 66 = .ok (.iload_n 1, 1) := by decide +kernel
theorem dR_use_67 : decode mR_use.2.1 67 = .ok (.dup2, 1) := by decide +kernel
theorem dR_use_68 : decode mR_use.2.1 68 = .ok (.iaload, 1) := by decide +kernel
theorem dR_use_69 : decode mR_use.2.1 69 = .ok (.iconst 1, 1) := by decide +kernel
theorem dR_use_70 : decode mR_use.2.1 70 = .ok (.iadd, 1) := by decide +kernel
theorem dR_use_71 : decode mR_use.2.1 71 = .ok (.iastore, 1) := by decide +kernel
theorem dR_use_72 : decode mR_use.2.1 72 = .ok (.iconst 0, 1) := by decide +kernel
theorem dR_use_73 : decode mR_use.2.1 73 = .ok (.ireturn, 1) := by decide +kernel
theorem dR_use_74 : decode mR_use.2.1 74 = .ok (.aload_n 0, 1) := by decide +kernel
theorem dR_use_75 : decode mR_use.2.1 75 = .ok (.getfield 41, 3) := by decide +kernel
theorem dR_use_78 : decode mR_use.2.1 78 = .ok (.iload_n 1, 1) := by decide +kernel
theorem dR_use_79 : decode mR_use.2.1 79 = .ok (.iload_n 2, 1) := by decide +kernel
theorem dR_use_80 : decode mR_use.2.1 80 = .ok (.iastore, 1) := by decide +kernel
theorem dR_use_81 : decode mR_use.2.1 81 = .ok (.iconst 1, 1) := by decide +kernel
theorem dR_use_82 : decode mR_use.2.1 82 = .ok (.ireturn, 1) := by decide +kernel
theorem dR_off_0 : decode mR_off.2.1 0 = .ok (.aload_n 0, 1) := by decide +kernel
theorem dR_off_1 : decode mR_off.2.1 1 = .ok (.iload_n 1, 1) := by decide +kernel
theorem dR_off_2 : decode mR_off.2.1 2 = .ok (.invokevirtual 115, 3) := by decide +kernel
theorem dR_off_5 : decode mR_off.2.1 5 = .ok (.ifCond .eq 22, 3) := by decide +kernel
theorem dR_off_8 : decode mR_off.2.1 8 = .ok (.iload_n 3, 1) := by decide +kernel
theorem dR_off_9 : decode mR_off.2.1 9 = .ok (.invokestatic 118, 3) := by decide +kernel
theorem dR_off_12 : decode mR_off.2.1 12 = .ok (.ifCond .eq 15, 3) := by decide +kernel
theorem dR_off_15 : decode mR_off.2.1 15 = .ok (.iload 4, 2) := by decide +kernel
theorem dR_off_17 : decode mR_off.2.1 17 = .ok (.invokestatic 118, 3) := by decide +kernel
theorem dR_off_20 : decode mR_off.2.1 20 = .ok (.ifCond .eq 7, 3) := by decide +kernel
theorem dR_off_23 : decode mR_off.2.1 23 = .ok (.iconst 1, 1) := by decide +kernel
theorem dR_off_24 : decode mR_off.2.1 24 = .ok (.goto 4, 3) := by decide +kernel
theorem dR_off_27 : decode mR_off.2.1 27 = .ok (.iconst 0, 1) := by decide +kernel
theorem dR_off_28 : decode mR_off.2.1 28 = .ok (.istore 5, 2) := by decide +kernel
theorem dR_off_30 : decode mR_off.2.1 30 = .ok (.aload_n 0, 1) := by decide +kernel
theorem dR_off_31 : decode mR_off.2.1 31 = .ok (.iload 5, 2) := by decide +kernel
theorem dR_off_33 : decode mR_off.2.1 33 = .ok (.iload 5, 2) := by decide +kernel
theorem dR_off_35 : decode mR_off.2.1 35 = .ok (.ifCond .eq 23, 3) := by decide +kernel
theorem dR_off_38 : decode mR_off.2.1 38 = .ok (.aload_n 0, 1) := by decide +kernel
theorem dR_off_39 : decode mR_off.2.1 39 = .ok (.getfield 35, 3) := by decide +kernel
theorem dR_off_42 : decode mR_off.2.1 42 = .ok (.iload_n 1, 1) := by decide +kernel
theorem dR_off_43 : decode mR_off.2.1 43 = .ok (.baload, 1) := by decide +kernel
theorem dR_off_44 : decode mR_off.2.1 44 = .ok (.iload_n 2, 1) := by decide +kernel
theorem dR_off_45 : decode mR_off.2.1 45 = .ok (.if_icmp .eq 13, 3) := by decide +kernel
theorem dR_off_48 : decode mR_off.2.1 48 = .ok (.iload_n 3, 1) := by decide +kernel
theorem dR_off_49 : decode mR_off.2.1 49 = .ok (.iload 4, 2) := by decide +kernel
theorem dR_off_51 : decode mR_off.2.1 51 = .ok (.if_icmp .eq 7, 3) := by decide +kernel
theorem dR_off_54 : decode mR_off.2.1 54 = .ok (.iconst 1, 1) := by decide +kernel
theorem dR_off_55 : decode mR_off.2.1 55 = .ok (.goto 4, 3) := by decide +kernel
theorem dR_off_58 : decode mR_off.2.1 58 = .ok (.iconst 0, 1) := by decide +kernel
theorem dR_off_59 : decode mR_off.2.1 59 = .ok (.iconst 1, 1) := by decide +kernel
theorem dR_off_60 : decode mR_off.2.1 60 = .ok (.invokevirtual 101, 3) := by decide +kernel
theorem dR_off_63 : decode mR_off.2.1 63 = .ok (.ifCond .eq 10, 3) := by decide +kernel
theorem dR_off_66 : decode mR_off.2.1 66 = .ok (.aload_n 0, 1) := by decide +kernel
theorem dR_off_67 : decode mR_off.2.1 67 = .ok (.getfield 35, 3) := by decide +kernel
theorem dR_off_70 : decode mR_off.2.1 70 = .ok (.iload_n 1, 1) := by decide +kernel
theorem dR_off_71 : decode mR_off.2.1 71 = .ok (.iload_n 2, 1) := by decide +kernel
theorem dR_off_72 : decode mR_off.2.1 72 = .ok (.bastore, 1) := by decide +kernel
theorem dR_off_73 : decode mR_off.2.1 73 = .ok (.return_, 1) := by decide +kernel
theorem dR_damage_0 : decode mR_damage.2.1 0 = .ok (.aload_n 0, 1) := by decide +kernel
theorem dR_damage_1 : decode mR_damage.2.1 1 = .ok (.aload_n 0, 1) := by decide +kernel
theorem dR_damage_2 : decode mR_damage.2.1 2 = .ok (.iload_n 1, 1) := by decide +kernel
theorem dR_damage_3 : decode mR_damage.2.1 3 = .ok (.invokevirtual 115, 3) := by decide +kernel
theorem dR_damage_6 : decode mR_damage.2.1 6 = .ok (.iload_n 2, 1) := by decide +kernel
theorem dR_damage_7 : decode mR_damage.2.1 7 = .ok (.iconst 1, 1) := by decide +kernel
theorem dR_damage_8 : decode mR_damage.2.1 8 = .ok (.iconst 3, 1) := by decide +kernel
theorem dR_damage_9 : decode mR_damage.2.1 9 = .ok (.invokestatic 93, 3) := by decide +kernel
theorem dR_damage_12 : decode mR_damage.2.1 12 = .ok (.aload_n 0, 1) := by decide +kernel
theorem dR_damage_13 : decode mR_damage.2.1 13 = .ok (.getfield 133, 3) := by decide +kernel
theorem dR_damage_16 : decode mR_damage.2.1 16 = .ok (.bipush 100, 2) := by decide +kernel
theorem dR_damage_18 : decode mR_damage.2.1 18 = .ok (.if_icmp .ge 7, 3) := by decide +kernel
theorem dR_damage_21 : decode mR_damage.2.1 21 = .ok (.iconst 1, 1) := by decide +kernel
theorem dR_damage_22 : decode mR_damage.2.1 22 = .ok (.goto 4, 3) := by decide +kernel
theorem dR_damage_25 : decode mR_damage.2.1 25 = .ok (.iconst 0, 1) := by decide +kernel
theorem dR_damage_26 : decode mR_damage.2.1 26 = .ok (.invokevirtual 101, 3) := by decide +kernel
theorem dR_damage_29 : decode mR_damage.2.1 29 = .ok (.ifCond .ne 5, 3) := by decide +kernel
theorem dR_damage_32 : decode mR_damage.2.1 32 = .ok (.iconst 0, 1) := by decide +kernel
theorem dR_damage_33 : decode mR_damage.2.1 33 = .ok (.ireturn, 1) := by decide +kernel
theorem dR_damage_34 : decode mR_damage.2.1 34 = .ok (.aload_n 0, 1) := by decide +kernel
theorem dR_damage_35 : decode mR_damage.2.1 35 = .ok (.getfield 77, 3) := by decide +kernel
theorem dR_damage_38 : decode mR_damage.2.1 38 = .ok (.aload_n 0, 1) := by decide +kernel
theorem dR_damage_39 : decode mR_damage.2.1 39 = .ok (.getfield 133, 3) := by decide +kernel
theorem dR_damage_42 : decode mR_damage.2.1 42 = .ok (.iload_n 1, 1) := by decide +kernel
theorem dR_damage_43 : decode mR_damage.2.1 43 = .ok (.iastore, 1) := by decide +kernel
theorem dR_damage_44 : decode mR_damage.2.1 44 = .ok (.aload_n 0, 1) := by decide +kernel
theorem dR_damage_45 : decode mR_damage.2.1 45 = .ok (.getfield 80, 3) := by decide +kernel
theorem dR_damage_48 : decode mR_damage.2.1 48 = .ok (.aload_n 0, 1) := by decide +kernel
theorem dR_damage_49 : decode mR_damage.2.1 49 = .ok (.getfield 133, 3) := by decide +kernel
theorem dR_damage_52 : decode mR_damage.2.1 52 = .ok (.iload_n 2, 1) := by decide +kernel
theorem dR_damage_53 : decode mR_damage.2.1 53 = .ok (.iastore, 1) := by decide +kernel
theorem dR_damage_54 : decode mR_damage.2.1 54 = .ok (.aload_n 0, 1) := by decide +kernel
theorem dR_damage_55 : decode mR_damage.2.1 55 = .ok (.dup, 1) := by decide +kernel
theorem dR_damage_56 : decode mR_damage.2.1 56 = .ok (.getfield 133, 3) := by decide +kernel
theorem dR_damage_59 : decode mR_damage.2.1 59 = .ok (.iconst 1, 1) := by decide +kernel
theorem dR_damage_60 : decode mR_damage.2.1 60 = .ok (.iadd, 1) := by decide +kernel
theorem dR_damage_61 : decode mR_damage.2.1 61 = .ok (.putfield 133, 3) := by decide +kernel
theorem dR_damage_64 : decode mR_damage.2.1 64 = .ok (.aload_n 0, 1) := by decide +kernel
theorem dR_damage_65 : decode mR_damage.2.1 65 = .ok (.getfield 133, 3) := by decide +kernel
theorem dR_damage_68 : decode mR_damage.2.1 68 = .ok (.iconst 1, 1) := by decide +kernel
theorem dR_damage_69 : decode mR_damage.2.1 69 = .ok (.isub, 1) := by decide +kernel
theorem dR_damage_70 : decode mR_damage.2.1 70 = .ok (.ireturn, 1) := by decide +kernel
theorem dR_proof_0 : decode mR_proof.2.1 0 = .ok (.iload_n 1, 1) := by decide +kernel
theorem dR_proof_1 : decode mR_proof.2.1 1 = .ok (.iconst 0, 1) := by decide +kernel
theorem dR_proof_2 : decode mR_proof.2.1 2 = .ok (.aload_n 0, 1) := by decide +kernel
theorem dR_proof_3 : decode mR_proof.2.1 3 = .ok (.getfield 133, 3) := by decide +kernel
theorem dR_proof_6 : decode mR_proof.2.1 6 = .ok (.iconst 1, 1) := by decide +kernel
theorem dR_proof_7 : decode mR_proof.2.1 7 = .ok (.isub, 1) := by decide +kernel
theorem dR_proof_8 : decode mR_proof.2.1 8 = .ok (.invokestatic 93, 3) := by decide +kernel
theorem dR_proof_11 : decode mR_proof.2.1 11 = .ok (.istore_n 3, 1) := by decide +kernel
theorem dR_proof_12 : decode mR_proof.2.1 12 = .ok (.aload_n 0, 1) := by decide +kernel
theorem dR_proof_13 : decode mR_proof.2.1 13 = .ok (.iload_n 3, 1) := by decide +kernel
theorem dR_proof_14 : decode mR_proof.2.1 14 = .ok (.iload_n 2, 1) := by decide +kernel
theorem dR_proof_15 : decode mR_proof.2.1 15 = .ok (.iconst 1, 1) := by decide +kernel
theorem dR_proof_16 : decode mR_proof.2.1 16 = .ok (.sipush 9999, 3) := by decide +kernel
theorem dR_proof_19 : decode mR_proof.2.1 19 = .ok (.invokestatic 93, 3) := by decide +kernel
theorem dR_proof_22 : decode mR_proof.2.1 22 = .ok (.iload_n 3, 1) := by decide +kernel
theorem dR_proof_23 : decode mR_proof.2.1 23 = .ok (.ifCond .eq 16, 3) := by decide +kernel
theorem dR_proof_26 : decode mR_proof.2.1 26 = .ok (.aload_n 0, 1) := by decide +kernel
theorem dR_proof_27 : decode mR_proof.2.1 27 = .ok (.getfield 83, 3) := by decide +kernel
theorem dR_proof_30 : decode mR_proof.2.1 30 = .ok (.iload_n 1, 1) := by decide +kernel
theorem dR_proof_31 : decode mR_proof.2.1 31 = .ok (.iaload, 1) := by decide +kernel
theorem dR_proof_32 : decode mR_proof.2.1 32 = .ok (.ifCond .ne 7, 3) := by decide +kernel
theorem dR_proof_35 : decode mR_proof.2.1 35 = .ok (.iconst 1, 1) := by decide +kernel
theorem dR_proof_36 : decode mR_proof.2.1 36 = .ok (.goto 4, 3) := by decide +kernel
theorem dR_proof_39 : decode mR_proof.2.1 39 = .ok (.iconst 0, 1) := by decide +kernel
theorem dR_proof_40 : decode mR_proof.2.1 40 = .ok (.invokevirtual 101, 3) := by decide +kernel
theorem dR_proof_43 : decode mR_proof.2.1 43 = .ok (.ifCond .eq 10, 3) := by decide +kernel
theorem dR_proof_46 : decode mR_proof.2.1 46 = .ok (.aload_n 0, 1) := by decide +kernel
theorem dR_proof_47 : decode mR_proof.2.1 47 = .ok (.getfield 83, 3) := by decide +kernel
theorem dR_proof_50 : decode mR_proof.2.1 50 = .ok (.iload_n 1, 1) := by decide +kernel
theorem dR_proof_51 : decode mR_proof.2.1 51 = .ok (.iload_n 2, 1) := by decide +kernel
theorem dR_proof_52 : decode mR_proof.2.1 52 = .ok (.iastore, 1) := by decide +kernel
theorem dR_proof_53 : decode mR_proof.2.1 53 = .ok (.return_, 1) := by decide +kernel
theorem dR_need_0 : decode mR_need.2.1 0 = .ok (.aload_n 0, 1) := by decide +kernel
theorem dR_need_1 : decode mR_need.2.1 1 = .ok (.iload_n 1, 1) := by decide +kernel
theorem dR_need_2 : decode mR_need.2.1 2 = .ok (.invokestatic 97, 3) := by decide +kernel
theorem dR_need_5 : decode mR_need.2.1 5 = .ok (.ifCond .eq 14, 3) := by decide +kernel
theorem dR_need_8 : decode mR_need.2.1 8 = .ok (.iload_n 2, 1) := by decide +kernel
theorem dR_need_9 : decode mR_need.2.1 9 = .ok (.invokestatic 143, 3) := by decide +kernel
theorem dR_need_12 : decode mR_need.2.1 12 = .ok (.ifCond .eq 7, 3) := by decide +kernel
theorem dR_need_15 : decode mR_need.2.1 15 = .ok (.iconst 1, 1) := by decide +kernel
theorem dR_need_16 : decode mR_need.2.1 16 = .ok (.goto 4, 3) := by decide +kernel
theorem dR_need_19 : decode mR_need.2.1 19 = .ok (.iconst 0, 1) := by decide +kernel
theorem dR_need_20 : decode mR_need.2.1 20 = .ok (.iload_n 3, 1) := by decide +kernel
theorem dR_need_21 : decode mR_need.2.1 21 = .ok (.iconst 0, 1) := by decide +kernel
theorem dR_need_22 : decode mR_need.2.1 22 = .ok (.bipush 9, 2) := by decide +kernel
theorem dR_need_24 : decode mR_need.2.1 24 = .ok (.invokestatic 93, 3) := by decide +kernel
theorem dR_need_27 : decode mR_need.2.1 27 = .ok (.iconst 1, 1) := by decide +kernel
theorem dR_need_28 : decode mR_need.2.1 28 = .ok (.invokevirtual 101, 3) := by decide +kernel
theorem dR_need_31 : decode mR_need.2.1 31 = .ok (.ifCond .eq 15, 3) := by decide +kernel
theorem dR_need_34 : decode mR_need.2.1 34 = .ok (.aload_n 0, 1) := by decide +kernel
theorem dR_need_35 : decode mR_need.2.1 35 = .ok (.getfield 26, 3) := by decide +kernel
theorem dR_need_38 : decode mR_need.2.1 38 = .ok (.bipush 10, 2) := by decide +kernel
theorem dR_need_40 : decode mR_need.2.1 40 = .ok (.iload_n 1, 1) := by decide +kernel
theorem dR_need_41 : decode mR_need.2.1 41 = .ok (.imul, 1) := by decide +kernel
theorem dR_need_42 : decode mR_need.2.1 42 = .ok (.iload_n 2, 1) := by decide +kernel
theorem dR_need_43 : decode mR_need.2.1 43 = .ok (.iadd, 1) := by decide +kernel
theorem dR_need_44 : decode mR_need.2.1 44 = .ok (.iload_n 3, 1) := by decide +kernel
theorem dR_need_45 : decode mR_need.2.1 45 = .ok (.iastore, 1) := by decide +kernel
theorem dR_need_46 : decode mR_need.2.1 46 = .ok (.return_, 1) := by decide +kernel
theorem dR_isThing_0 : decode mR_isThing.2.1 0 = .ok (.iload_n 0, 1) := by decide +kernel
theorem dR_isThing_1 : decode mR_isThing.2.1 1 = .ok (.iconst 0, 1) := by decide +kernel
theorem dR_isThing_2 : decode mR_isThing.2.1 2 = .ok (.bipush 9, 2) := by decide +kernel
theorem dR_isThing_4 : decode mR_isThing.2.1 4 = .ok (.invokestatic 93, 3) := by decide +kernel
theorem dR_isThing_7 : decode mR_isThing.2.1 7 = .ok (.ireturn, 1) := by decide +kernel
theorem dR_put_0 : decode mR_put.2.1 0 = .ok (.aload_n 0, 1) := by decide +kernel
theorem dR_put_1 : decode mR_put.2.1 1 = .ok (.iload_n 1, 1) := by decide +kernel
theorem dR_put_2 : decode mR_put.2.1 2 = .ok (.invokevirtual 115, 3) := by decide +kernel
theorem dR_put_5 : decode mR_put.2.1 5 = .ok (.ifCond .eq 14, 3) := by decide +kernel
theorem dR_put_8 : decode mR_put.2.1 8 = .ok (.iload_n 2, 1) := by decide +kernel
theorem dR_put_9 : decode mR_put.2.1 9 = .ok (.invokestatic 143, 3) := by decide +kernel
theorem dR_put_12 : decode mR_put.2.1 12 = .ok (.ifCond .eq 7, 3) := by decide +kernel
theorem dR_put_15 : decode mR_put.2.1 15 = .ok (.iconst 1, 1) := by decide +kernel
theorem dR_put_16 : decode mR_put.2.1 16 = .ok (.goto 4, 3) := by decide +kernel
theorem dR_put_19 : decode mR_put.2.1 19 = .ok (.iconst 0, 1) := by decide +kernel
theorem dR_put_20 : decode mR_put.2.1 20 = .ok (.istore 4, 2) := by decide +kernel
theorem dR_put_22 : decode mR_put.2.1 22 = .ok (.aload_n 0, 1) := by decide +kernel
theorem dR_put_23 : decode mR_put.2.1 23 = .ok (.iload 4, 2) := by decide +kernel
theorem dR_put_25 : decode mR_put.2.1 25 = .ok (.iload_n 3, 1) := by decide +kernel
theorem dR_put_26 : decode mR_put.2.1 26 = .ok (.iconst 1, 1) := by decide +kernel
theorem dR_put_27 : decode mR_put.2.1 27 = .ok (.bipush 9, 2) := by decide +kernel
theorem dR_put_29 : decode mR_put.2.1 29 = .ok (.invokestatic 93, 3) := by decide +kernel
theorem dR_put_32 : decode mR_put.2.1 32 = .ok (.iload 4, 2) := by decide +kernel
theorem dR_put_34 : decode mR_put.2.1 34 = .ok (.ifCond .eq 25, 3) := by decide +kernel
theorem dR_put_37 : decode mR_put.2.1 37 = .ok (.aload_n 0, 1) := by decide +kernel
theorem dR_put_38 : decode mR_put.2.1 38 = .ok (.getfield 59, 3) := by decide +kernel
theorem dR_put_41 : decode mR_put.2.1 41 = .ok (.bipush 10, 2) := by decide +kernel
theorem dR_put_43 : decode mR_put.2.1 43 = .ok (.iload_n 1, 1) := by decide +kernel
theorem dR_put_44 : decode mR_put.2.1 44 = .ok (.imul, 1) := by decide +kernel
theorem dR_put_45 : decode mR_put.2.1 45 = .ok (.iload_n 2, 1) := by decide +kernel
theorem dR_put_46 : decode mR_put.2.1 46 = .ok (.iadd, 1) := by decide +kernel
theorem dR_put_47 : decode mR_put.2.1 47 = .ok (.iaload, 1) := by decide +kernel
theorem dR_put_48 : decode mR_put.2.1 48 = .ok (.iload_n 3, 1) := by decide +kernel
theorem dR_put_49 : decode mR_put.2.1 49 = .ok (.iadd, 1) := by decide +kernel
theorem dR_put_50 : decode mR_put.2.1 50 = .ok (.bipush 99, 2) := by decide +kernel
theorem dR_put_52 : decode mR_put.2.1 52 = .ok (.if_icmp .gt 7, 3) := by decide +kernel
theorem dR_put_55 : decode mR_put.2.1 55 = .ok (.iconst 1, 1) := by decide +kernel
theorem dR_put_56 : decode mR_put.2.1 56 = .ok (.goto 4, 3) := by decide +kernel
theorem dR_put_59 : decode mR_put.2.1 59 = .ok (.iconst 0, 1) := by decide +kernel
theorem dR_put_60 : decode mR_put.2.1 60 = .ok (.invokevirtual 101, 3) := by decide +kernel
theorem dR_put_63 : decode mR_put.2.1 63 = .ok (.ifCond .ne 5, 3) := by decide +kernel
theorem dR_put_66 : decode mR_put.2.1 66 = .ok (.iconst 0, 1) := by decide +kernel
theorem dR_put_67 : decode mR_put.2.1 67 = .ok (.ireturn, 1) := by decide +kernel
theorem dR_put_68 : decode mR_put.2.1 68 = .ok (.aload_n 0, 1) := by decide +kernel
theorem dR_put_69 : decode mR_put.2.1 69 = .ok (.getfield 59, 3) := by decide +kernel
theorem dR_put_72 : decode mR_put.2.1 72 = .ok (.bipush 10, 2) := by decide +kernel
theorem dR_put_74 : decode mR_put.2.1 74 = .ok (.iload_n 1, 1) := by decide +kernel
theorem dR_put_75 : decode mR_put.2.1 75 = .ok (.imul, 1) := by decide +kernel
theorem dR_put_76 : decode mR_put.2.1 76 = .ok (.iload_n 2, 1) := by decide +kernel
theorem dR_put_77 : decode mR_put.2.1 77 = .ok (.iadd, 1) := by decide +kernel
theorem dR_put_78 : decode mR_put.2.1 78 = .ok (.aload_n 0, 1) := by decide +kernel
theorem dR_put_79 : decode mR_put.2.1 79 = .ok (.getfield 59, 3) := by decide +kernel
theorem dR_put_82 : decode mR_put.2.1 82 = .ok (.bipush 10, 2) := by decide +kernel
theorem dR_put_84 : decode mR_put.2.1 84 = .ok (.iload_n 1, 1) := by decide +kernel
theorem dR_put_85 : decode mR_put.2.1 85 = .ok (.imul, 1) := by decide +kernel
theorem dR_put_86 : decode mR_put.2.1 86 = .ok (.iload_n 2, 1) := by decide +kernel
theorem dR_put_87 : decode mR_put.2.1 87 = .ok (.iadd, 1) := by decide +kernel
theorem dR_put_88 : decode mR_put.2.1 88 = .ok (.iaload, 1) := by decide +kernel
theorem dR_put_89 : decode mR_put.2.1 89 = .ok (.iload_n 3, 1) := by decide +kernel
theorem dR_put_90 : decode mR_put.2.1 90 = .ok (.iadd, 1) := by decide +kernel
theorem dR_put_91 : decode mR_put.2.1 91 = .ok (.iastore, 1) := by decide +kernel
theorem dR_put_92 : decode mR_put.2.1 92 = .ok (.aload_n 0, 1) := by decide +kernel
theorem dR_put_93 : decode mR_put.2.1 93 = .ok (.getfield 59, 3) := by decide +kernel
theorem dR_put_96 : decode mR_put.2.1 96 = .ok (.bipush 10, 2) := by decide +kernel
theorem dR_put_98 : decode mR_put.2.1 98 = .ok (.iload_n 1, 1) := by decide +kernel
theorem dR_put_99 : decode mR_put.2.1 99 = .ok (.imul, 1) := by decide +kernel
theorem dR_put_100 : decode mR_put.2.1 100 = .ok (.iload_n 2, 1) := by decide +kernel
theorem dR_put_101 : decode mR_put.2.1 101 = .ok (.iadd, 1) := by decide +kernel
theorem dR_put_102 : decode mR_put.2.1 102 = .ok (.iaload, 1) := by decide +kernel
theorem dR_put_103 : decode mR_put.2.1 103 = .ok (.ireturn, 1) := by decide +kernel
theorem dR_swap_0 : decode mR_swap.2.1 0 = .ok (.aload_n 0, 1) := by decide +kernel
theorem dR_swap_1 : decode mR_swap.2.1 1 = .ok (.iload_n 1, 1) := by decide +kernel
theorem dR_swap_2 : decode mR_swap.2.1 2 = .ok (.invokevirtual 115, 3) := by decide +kernel
theorem dR_swap_5 : decode mR_swap.2.1 5 = .ok (.ifCond .eq 27, 3) := by decide +kernel
theorem dR_swap_8 : decode mR_swap.2.1 8 = .ok (.aload_n 0, 1) := by decide +kernel
theorem dR_swap_9 : decode mR_swap.2.1 9 = .ok (.iload_n 2, 1) := by decide +kernel
theorem dR_swap_10 : decode mR_swap.2.1 10 = .ok (.invokevirtual 115, 3) := by decide +kernel
theorem dR_swap_13 : decode mR_swap.2.1 13 = .ok (.ifCond .eq 19, 3) := by decide +kernel
theorem dR_swap_16 : decode mR_swap.2.1 16 = .ok (.iload_n 1, 1) := by decide +kernel
theorem dR_swap_17 : decode mR_swap.2.1 17 = .ok (.iload_n 2, 1) := by decide +kernel
theorem dR_swap_18 : decode mR_swap.2.1 18 = .ok (.if_icmp .eq 14, 3) := by decide +kernel
theorem dR_swap_21 : decode mR_swap.2.1 21 = .ok (.iload_n 3, 1) := by decide +kernel
theorem dR_swap_22 : decode mR_swap.2.1 22 = .ok (.invokestatic 143, 3) := by decide +kernel
theorem dR_swap_25 : decode mR_swap.2.1 25 = .ok (.ifCond .eq 7, 3) := by decide +kernel
theorem dR_swap_28 : decode mR_swap.2.1 28 = .ok (.iconst 1, 1) := by decide +kernel
theorem dR_swap_29 : decode mR_swap.2.1 29 = .ok (.goto 4, 3) := by decide +kernel
theorem dR_swap_32 : decode mR_swap.2.1 32 = .ok (.iconst 0, 1) := by decide +kernel
theorem dR_swap_33 : decode mR_swap.2.1 33 = .ok (.istore 4, 2) := by decide +kernel
theorem dR_swap_35 : decode mR_swap.2.1 35 = .ok (.aload_n 0, 1) := by decide +kernel
theorem dR_swap_36 : decode mR_swap.2.1 36 = .ok (.iload 4, 2) := by decide +kernel
theorem dR_swap_38 : decode mR_swap.2.1 38 = .ok (.iload 4, 2) := by decide +kernel
theorem dR_swap_40 : decode mR_swap.2.1 40 = .ok (.ifCond .eq 32, 3) := by decide +kernel
theorem dR_swap_43 : decode mR_swap.2.1 43 = .ok (.aload_n 0, 1) := by decide +kernel
theorem dR_swap_44 : decode mR_swap.2.1 44 = .ok (.getfield 59, 3) := by decide +kernel
theorem dR_swap_47 : decode mR_swap.2.1 47 = .ok (.bipush 10, 2) := by decide +kernel
theorem dR_swap_49 : decode mR_swap.2.1 49 = .ok (.iload_n 1, 1) := by decide +kernel
theorem dR_swap_50 : decode mR_swap.2.1 50 = .ok (.imul, 1) := by decide +kernel
theorem dR_swap_51 : decode mR_swap.2.1 51 = .ok (.iload_n 3, 1) := by decide +kernel
theorem dR_swap_52 : decode mR_swap.2.1 52 = .ok (.iadd, 1) := by decide +kernel
theorem dR_swap_53 : decode mR_swap.2.1 53 = .ok (.iaload, 1) := by decide +kernel
theorem dR_swap_54 : decode mR_swap.2.1 54 = .ok (.aload_n 0, 1) := by decide +kernel
theorem dR_swap_55 : decode mR_swap.2.1 55 = .ok (.getfield 59, 3) := by decide +kernel
theorem dR_swap_58 : decode mR_swap.2.1 58 = .ok (.bipush 10, 2) := by decide +kernel
theorem dR_swap_60 : decode mR_swap.2.1 60 = .ok (.iload_n 2, 1) := by decide +kernel
theorem dR_swap_61 : decode mR_swap.2.1 61 = .ok (.imul, 1) := by decide +kernel
theorem dR_swap_62 : decode mR_swap.2.1 62 = .ok (.iload_n 3, 1) := by decide +kernel
theorem dR_swap_63 : decode mR_swap.2.1 63 = .ok (.iadd, 1) := by decide +kernel
theorem dR_swap_64 : decode mR_swap.2.1 64 = .ok (.iaload, 1) := by decide +kernel
theorem dR_swap_65 : decode mR_swap.2.1 65 = .ok (.if_icmp .eq 7, 3) := by decide +kernel
theorem dR_swap_68 : decode mR_swap.2.1 68 = .ok (.iconst 1, 1) := by decide +kernel
theorem dR_swap_69 : decode mR_swap.2.1 69 = .ok (.goto 4, 3) := by decide +kernel
theorem dR_swap_72 : decode mR_swap.2.1 72 = .ok (.iconst 0, 1) := by decide +kernel
theorem dR_swap_73 : decode mR_swap.2.1 73 = .ok (.iconst 1, 1) := by decide +kernel
theorem dR_swap_74 : decode mR_swap.2.1 74 = .ok (.invokevirtual 101, 3) := by decide +kernel
theorem dR_swap_77 : decode mR_swap.2.1 77 = .ok (.ifCond .ne 5, 3) := by decide +kernel
theorem dR_swap_80 : decode mR_swap.2.1 80 = .ok (.iconst 0, 1) := by decide +kernel
theorem dR_swap_81 : decode mR_swap.2.1 81 = .ok (.ireturn, 1) := by decide +kernel
theorem dR_swap_82 : decode mR_swap.2.1 82 = .ok (.aload_n 0, 1) := by decide +kernel
theorem dR_swap_83 : decode mR_swap.2.1 83 = .ok (.getfield 59, 3) := by decide +kernel
theorem dR_swap_86 : decode mR_swap.2.1 86 = .ok (.bipush 10, 2) := by decide +kernel
theorem dR_swap_88 : decode mR_swap.2.1 88 = .ok (.iload_n 1, 1) := by decide +kernel
theorem dR_swap_89 : decode mR_swap.2.1 89 = .ok (.imul, 1) := by decide +kernel
theorem dR_swap_90 : decode mR_swap.2.1 90 = .ok (.iload_n 3, 1) := by decide +kernel
theorem dR_swap_91 : decode mR_swap.2.1 91 = .ok (.iadd, 1) := by decide +kernel
theorem dR_swap_92 : decode mR_swap.2.1 92 = .ok (.iaload, 1) := by decide +kernel
theorem dR_swap_93 : decode mR_swap.2.1 93 = .ok (.istore 5, 2) := by decide +kernel
theorem dR_swap_95 : decode mR_swap.2.1 95 = .ok (.aload_n 0, 1) := by decide +kernel
theorem dR_swap_96 : decode mR_swap.2.1 96 = .ok (.getfield 59, 3) := by decide +kernel
theorem dR_swap_99 : decode mR_swap.2.1 99 = .ok (.bipush 10, 2) := by decide +kernel
theorem dR_swap_101 : decode mR_swap.2.1 101 = .ok (.iload_n 1, 1) := by decide +kernel
theorem dR_swap_102 : decode mR_swap.2.1 102 = .ok (.imul, 1) := by decide +kernel
theorem dR_swap_103 : decode mR_swap.2.1 103 = .ok (.iload_n 3, 1) := by decide +kernel
theorem dR_swap_104 : decode mR_swap.2.1 104 = .ok (.iadd, 1) := by decide +kernel
theorem dR_swap_105 : decode mR_swap.2.1 105 = .ok (.aload_n 0, 1) := by decide +kernel
theorem dR_swap_106 : decode mR_swap.2.1 106 = .ok (.getfield 59, 3) := by decide +kernel
theorem dR_swap_109 : decode mR_swap.2.1 109 = .ok (.bipush 10, 2) := by decide +kernel
theorem dR_swap_111 : decode mR_swap.2.1 111 = .ok (.iload_n 2, 1) := by decide +kernel
theorem dR_swap_112 : decode mR_swap.2.1 112 = .ok (.imul, 1) := by decide +kernel
theorem dR_swap_113 : decode mR_swap.2.1 113 = .ok (.iload_n 3, 1) := by decide +kernel
theorem dR_swap_114 : decode mR_swap.2.1 114 = .ok (.iadd, 1) := by decide +kernel
theorem dR_swap_115 : decode mR_swap.2.1 115 = .ok (.iaload, 1) := by decide +kernel
theorem dR_swap_116 : decode mR_swap.2.1 116 = .ok (.iastore, 1) := by decide +kernel
theorem dR_swap_117 : decode mR_swap.2.1 117 = .ok (.aload_n 0, 1) := by decide +kernel
theorem dR_swap_118 : decode mR_swap.2.1 118 = .ok (.getfield 59, 3) := by decide +kernel
theorem dR_swap_121 : decode mR_swap.2.1 121 = .ok (.bipush 10, 2) := by decide +kernel
theorem dR_swap_123 : decode mR_swap.2.1 123 = .ok (.iload_n 2, 1) := by decide +kernel
theorem dR_swap_124 : decode mR_swap.2.1 124 = .ok (.imul, 1) := by decide +kernel
theorem dR_swap_125 : decode mR_swap.2.1 125 = .ok (.iload_n 3, 1) := by decide +kernel
theorem dR_swap_126 : decode mR_swap.2.1 126 = .ok (.iadd, 1) := by decide +kernel
theorem dR_swap_127 : decode mR_swap.2.1 127 = .ok (.iload 5, 2) := by decide +kernel
theorem dR_swap_129 : decode mR_swap.2.1 129 = .ok (.iastore, 1) := by decide +kernel
theorem dR_swap_130 : decode mR_swap.2.1 130 = .ok (.aload_n 0, 1) := by decide +kernel
theorem dR_swap_131 : decode mR_swap.2.1 131 = .ok (.getfield 59, 3) := by decide +kernel
theorem dR_swap_134 : decode mR_swap.2.1 134 = .ok (.bipush 10, 2) := by decide +kernel
theorem dR_swap_136 : decode mR_swap.2.1 136 = .ok (.iload_n 1, 1) := by decide +kernel
theorem dR_swap_137 : decode mR_swap.2.1 137 = .ok (.imul, 1) := by decide +kernel
theorem dR_swap_138 : decode mR_swap.2.1 138 = .ok (.iload_n 3, 1) := by decide +kernel
theorem dR_swap_139 : decode mR_swap.2.1 139 = .ok (.iadd, 1) := by decide +kernel
theorem dR_swap_140 : decode mR_swap.2.1 140 = .ok (.iaload, 1) := by decide +kernel
theorem dR_swap_141 : decode mR_swap.2.1 141 = .ok (.ireturn, 1) := by decide +kernel
theorem dR_spare_0 : decode mR_spare.2.1 0 = .ok (.aload_n 0, 1) := by decide +kernel
theorem dR_spare_1 : decode mR_spare.2.1 1 = .ok (.aload_n 0, 1) := by decide +kernel
theorem dR_spare_2 : decode mR_spare.2.1 2 = .ok (.iload_n 1, 1) := by decide +kernel
theorem dR_spare_3 : decode mR_spare.2.1 3 = .ok (.invokevirtual 115, 3) := by decide +kernel
theorem dR_spare_6 : decode mR_spare.2.1 6 = .ok (.iconst 1, 1) := by decide +kernel
theorem dR_spare_7 : decode mR_spare.2.1 7 = .ok (.iconst 1, 1) := by decide +kernel
theorem dR_spare_8 : decode mR_spare.2.1 8 = .ok (.invokevirtual 101, 3) := by decide +kernel
theorem dR_spare_11 : decode mR_spare.2.1 11 = .ok (.ifCond .ne 5, 3) := by decide +kernel
theorem dR_spare_14 : decode mR_spare.2.1 14 = .ok (.iconst 0, 1) := by decide +kernel
theorem dR_spare_15 : decode mR_spare.2.1 15 = .ok (.ireturn, 1) := by decide +kernel
theorem dR_spare_16 : decode mR_spare.2.1 16 = .ok (.iconst (-1), 1) := by decide +kernel
theorem dR_spare_17 : decode mR_spare.2.1 17 = .ok (.istore_n 2, 1) := by decide +kernel
theorem dR_spare_18 : decode mR_spare.2.1 18 = .ok (.iconst 0, 1) := by decide +kernel
theorem dR_spare_19 : decode mR_spare.2.1 19 = .ok (.istore_n 3, 1) := by decide +kernel
theorem dR_spare_20 : decode mR_spare.2.1 20 = .ok (.iload_n 3, 1) := by decide +kernel
theorem dR_spare_21 : decode mR_spare.2.1 21 = .ok (.aload_n 0, 1) := by decide +kernel
theorem dR_spare_22 : decode mR_spare.2.1 22 = .ok (.getfield 90, 3) := by decide +kernel
theorem dR_spare_25 : decode mR_spare.2.1 25 = .ok (.if_icmp .ge 70, 3) := by decide +kernel
theorem dR_spare_28 : decode mR_spare.2.1 28 = .ok (.iload_n 3, 1) := by decide +kernel
theorem dR_spare_29 : decode mR_spare.2.1 29 = .ok (.iload_n 1, 1) := by decide +kernel
theorem dR_spare_30 : decode mR_spare.2.1 30 = .ok (.if_icmp .eq 59, 3) := by decide +kernel
theorem dR_spare_33 : decode mR_spare.2.1 33 = .ok (.aload_n 0, 1) := by decide +kernel
theorem dR_spare_34 : decode mR_spare.2.1 34 = .ok (.getfield 29, 3) := by decide +kernel
theorem dR_spare_37 : decode mR_spare.2.1 37 = .ok (.iload_n 3, 1) := by decide +kernel
theorem dR_spare_38 : decode mR_spare.2.1 38 = .ok (.iaload, 1) := by decide +kernel
theorem dR_spare_39 : decode mR_spare.2.1 39 = .ok (.aload_n 0, 1) := by decide +kernel
theorem dR_spare_40 : decode mR_spare.2.1 40 = .ok (.getfield 29, 3) := by decide +kernel
theorem dR_spare_43 : decode mR_spare.2.1 43 = .ok (.iload_n 1, 1) := by decide +kernel
theorem dR_spare_44 : decode mR_spare.2.1 44 = .ok (.iaload, 1) := by decide +kernel
theorem dR_spare_45 : decode mR_spare.2.1 45 = .ok (.if_icmp .ne 44, 3) := by decide +kernel
theorem dR_spare_48 : decode mR_spare.2.1 48 = .ok (.aload_n 0, 1) := by decide +kernel
theorem dR_spare_49 : decode mR_spare.2.1 49 = .ok (.getfield 32, 3) := by decide +kernel
theorem dR_spare_52 : decode mR_spare.2.1 52 = .ok (.iload_n 3, 1) := by decide +kernel
theorem dR_spare_53 : decode mR_spare.2.1 53 = .ok (.baload, 1) := by decide +kernel
theorem dR_spare_54 : decode mR_spare.2.1 54 = .ok (.ifCond .eq 35, 3) := by decide +kernel
theorem dR_spare_57 : decode mR_spare.2.1 57 = .ok (.aload_n 0, 1) := by decide +kernel
theorem dR_spare_58 : decode mR_spare.2.1 58 = .ok (.iload_n 3, 1) := by decide +kernel
theorem dR_spare_59 : decode mR_spare.2.1 59 = .ok (.invokevirtual 139, 3) := by decide +kernel
theorem dR_spare_62 : decode mR_spare.2.1 62 = .ok (.ifCond .ne 6, 3) := by decide +kernel
theorem dR_spare_65 : decode mR_spare.2.1 65 = .ok (.goto 24, 3) := by decide +kernel
theorem dR_spare_68 : decode mR_spare.2.1 68 = .ok (.iload_n 2, 1) := by decide +kernel
theorem dR_spare_69 : decode mR_spare.2.1 69 = .ok (.ifCond .lt 18, 3) := by decide +kernel
theorem dR_spare_72 : decode mR_spare.2.1 72 = .ok (.aload_n 0, 1) := by decide +kernel
theorem dR_spare_73 : decode mR_spare.2.1 73 = .ok (.getfield 41, 3) := by decide +kernel
theorem dR_spare_76 : decode mR_spare.2.1 76 = .ok (.iload_n 3, 1) := by decide +kernel
theorem dR_spare_77 : decode mR_spare.2.1 77 = .ok (.iaload, 1) := by decide +kernel
theorem dR_spare_78 : decode mR_spare.2.1 78 = .ok (.aload_n 0, 1) := by decide +kernel
theorem dR_spare_79 : decode mR_spare.2.1 79 = .ok (.getfield 41, 3) := by decide +kernel
theorem dR_spare_82 : decode mR_spare.2.1 82 = .ok (.iload_n 2, 1) := by decide +kernel
theorem dR_spare_83 : decode mR_spare.2.1 83 = .ok (.iaload, 1) := by decide +kernel
theorem dR_spare_84 : decode mR_spare.2.1 84 = .ok (.if_icmp .ge 5, 3) := by decide +kernel
theorem dR_spare_87 : decode mR_spare.2.1 87 = .ok (.iload_n 3, 1) := by decide +kernel
theorem dR_spare_88 : decode mR_spare.2.1 88 = .ok (.istore_n 2, 1) := by decide +kernel
theorem dR_spare_89 : decode mR_spare.2.1 89 = .ok (.iinc 3 1, 3) := by decide +kernel
theorem dR_spare_92 : decode mR_spare.2.1 92 = .ok (.goto (-72), 3) := by decide +kernel
theorem dR_spare_95 : decode mR_spare.2.1 95 = .ok (.iconst 0, 1) := by decide +kernel
theorem dR_spare_96 : decode mR_spare.2.1 96 = .ok (.istore_n 3, 1) := by decide +kernel
theorem dR_spare_97 : decode mR_spare.2.1 97 = .ok (.iload_n 3, 1) := by decide +kernel
theorem dR_spare_98 : decode mR_spare.2.1 98 = .ok (.bipush 10, 2) := by decide +kernel
theorem dR_spare_100 : decode mR_spare.2.1 100 = .ok (.if_icmp .ge 48, 3) := by decide +kernel
theorem dR_spare_103 : decode mR_spare.2.1 103 = .ok (.iload_n 2, 1) := by decide +kernel
theorem dR_spare_104 : decode mR_spare.2.1 104 = .ok (.ifCond .lt 44, 3) := by decide +kernel
theorem dR_spare_107 : decode mR_spare.2.1 107 = .ok (.aload_n 0, 1) := by decide +kernel
theorem dR_spare_108 : decode mR_spare.2.1 108 = .ok (.getfield 59, 3) := by decide +kernel
theorem dR_spare_111 : decode mR_spare.2.1 111 = .ok (.bipush 10, 2) := by decide +kernel
theorem dR_spare_113 : decode mR_spare.2.1 113 = .ok (.iload_n 2, 1) := by decide +kernel
theorem dR_spare_114 : decode mR_spare.2.1 114 = .ok (.imul, 1) := by decide +kernel
theorem dR_spare_115 : decode mR_spare.2.1 115 = .ok (.iload_n 3, 1) := by decide +kernel
theorem dR_spare_116 : decode mR_spare.2.1 116 = .ok (.iadd, 1) := by decide +kernel
theorem dR_spare_117 : decode mR_spare.2.1 117 = .ok (.iaload, 1) := by decide +kernel
theorem dR_spare_118 : decode mR_spare.2.1 118 = .ok (.aload_n 0, 1) := by decide +kernel
theorem dR_spare_119 : decode mR_spare.2.1 119 = .ok (.getfield 26, 3) := by decide +kernel
theorem dR_spare_122 : decode mR_spare.2.1 122 = .ok (.bipush 10, 2) := by decide +kernel
theorem dR_spare_124 : decode mR_spare.2.1 124 = .ok (.aload_n 0, 1) := by decide +kernel
theorem dR_spare_125 : decode mR_spare.2.1 125 = .ok (.getfield 29, 3) := by decide +kernel
theorem dR_spare_128 : decode mR_spare.2.1 128 = .ok (.iload_n 1, 1) := by decide +kernel
theorem dR_spare_129 : decode mR_spare.2.1 129 = .ok (.iaload, 1) := by decide +kernel
theorem dR_spare_130 : decode mR_spare.2.1 130 = .ok (.imul, 1) := by decide +kernel
theorem dR_spare_131 : decode mR_spare.2.1 131 = .ok (.iload_n 3, 1) := by decide +kernel
theorem dR_spare_132 : decode mR_spare.2.1 132 = .ok (.iadd, 1) := by decide +kernel
theorem dR_spare_133 : decode mR_spare.2.1 133 = .ok (.iaload, 1) := by decide +kernel
theorem dR_spare_134 : decode mR_spare.2.1 134 = .ok (.if_icmp .ge 8, 3) := by decide +kernel
theorem dR_spare_137 : decode mR_spare.2.1 137 = .ok (.bipush (-2), 2) := by decide +kernel
theorem dR_spare_139 : decode mR_spare.2.1 139 = .ok (.iload_n 3, 1) := by decide +kernel
theorem dR_spare_140 : decode mR_spare.2.1 140 = .ok (.isub, 1) := by decide +kernel
theorem dR_spare_141 : decode mR_spare.2.1 141 = .ok (.ireturn, 1) := by decide +kernel
theorem dR_spare_142 : decode mR_spare.2.1 142 = .ok (.iinc 3 1, 3) := by decide +kernel
theorem dR_spare_145 : decode mR_spare.2.1 145 = .ok (.goto (-48), 3) := by decide +kernel
theorem dR_spare_148 : decode mR_spare.2.1 148 = .ok (.iload_n 2, 1) := by decide +kernel
theorem dR_spare_149 : decode mR_spare.2.1 149 = .ok (.ireturn, 1) := by decide +kernel
theorem dR_fuel_0 : decode mR_fuel.2.1 0 = .ok (.aload_n 0, 1) := by decide +kernel
theorem dR_fuel_1 : decode mR_fuel.2.1 1 = .ok (.aload_n 0, 1) := by decide +kernel
theorem dR_fuel_2 : decode mR_fuel.2.1 2 = .ok (.iload_n 1, 1) := by decide +kernel
theorem dR_fuel_3 : decode mR_fuel.2.1 3 = .ok (.invokevirtual 115, 3) := by decide +kernel
theorem dR_fuel_6 : decode mR_fuel.2.1 6 = .ok (.iload_n 2, 1) := by decide +kernel
theorem dR_fuel_7 : decode mR_fuel.2.1 7 = .ok (.iconst 1, 1) := by decide +kernel
theorem dR_fuel_8 : decode mR_fuel.2.1 8 = .ok (.ldc 142, 2) := by decide +kernel
theorem dR_fuel_10 : decode mR_fuel.2.1 10 = .ok (.invokestatic 93, 3) := by decide +kernel
theorem dR_fuel_13 : decode mR_fuel.2.1 13 = .ok (.aload_n 0, 1) := by decide +kernel
theorem dR_fuel_14 : decode mR_fuel.2.1 14 = .ok (.iload_n 1, 1) := by decide +kernel
theorem dR_fuel_15 : decode mR_fuel.2.1 15 = .ok (.invokevirtual 115, 3) := by decide +kernel
theorem dR_fuel_18 : decode mR_fuel.2.1 18 = .ok (.ifCond .eq 20, 3) := by decide +kernel
theorem dR_fuel_21 : decode mR_fuel.2.1 21 = .ok (.aload_n 0, 1) := by decide +kernel
theorem dR_fuel_22 : decode mR_fuel.2.1 22 = .ok (.getfield 50, 3) := by decide +kernel
theorem dR_fuel_25 : decode mR_fuel.2.1 25 = .ok (.iload_n 1, 1) := by decide +kernel
theorem dR_fuel_26 : decode mR_fuel.2.1 26 = .ok (.iaload, 1) := by decide +kernel
theorem dR_fuel_27 : decode mR_fuel.2.1 27 = .ok (.iload_n 2, 1) := by decide +kernel
theorem dR_fuel_28 : decode mR_fuel.2.1 28 = .ok (.iadd, 1) := by decide +kernel
theorem dR_fuel_29 : decode mR_fuel.2.1 29 = .ok (.ldc 146, 2) := by decide +kernel
theorem dR_fuel_31 : decode mR_fuel.2.1 31 = .ok (.if_icmp .gt 7, 3) := by decide +kernel
theorem dR_fuel_34 : decode mR_fuel.2.1 34 = .ok (.iconst 1, 1) := by decide +kernel
theorem dR_fuel_35 : decode mR_fuel.2.1 35 = .ok (.goto 4, 3) := by decide +kernel
theorem dR_fuel_38 : decode mR_fuel.2.1 38 = .ok (.iconst 0, 1) := by decide +kernel
theorem dR_fuel_39 : decode mR_fuel.2.1 39 = .ok (.invokevirtual 101, 3) := by decide +kernel
theorem dR_fuel_42 : decode mR_fuel.2.1 42 = .ok (.ifCond .ne 5, 3) := by decide +kernel
theorem dR_fuel_45 : decode mR_fuel.2.1 45 = .ok (.iconst 0, 1) := by decide +kernel
theorem dR_fuel_46 : decode mR_fuel.2.1 46 = .ok (.ireturn, 1) := by decide +kernel
theorem dR_fuel_47 : decode mR_fuel.2.1 47 = .ok (.aload_n 0, 1) := by decide +kernel
theorem dR_fuel_48 : decode mR_fuel.2.1 48 = .ok (.getfield 50, 3) := by decide +kernel
theorem dR_fuel_51 : decode mR_fuel.2.1 51 = .ok (.iload_n 1, 1) := by decide +kernel
theorem dR_fuel_52 : decode mR_fuel.2.1 52 = .ok (.aload_n 0, 1) := by decide +kernel
theorem dR_fuel_53 : decode mR_fuel.2.1 53 = .ok (.getfield 50, 3) := by decide +kernel
theorem dR_fuel_56 : decode mR_fuel.2.1 56 = .ok (.iload_n 1, 1) := by decide +kernel
theorem dR_fuel_57 : decode mR_fuel.2.1 57 = .ok (.iaload, 1) := by decide +kernel
theorem dR_fuel_58 : decode mR_fuel.2.1 58 = .ok (.iload_n 2, 1) := by decide +kernel
theorem dR_fuel_59 : decode mR_fuel.2.1 59 = .ok (.iadd, 1) := by decide +kernel
theorem dR_fuel_60 : decode mR_fuel.2.1 60 = .ok (.iastore, 1) := by decide +kernel
theorem dR_fuel_61 : decode mR_fuel.2.1 61 = .ok (.aload_n 0, 1) := by decide +kernel
theorem dR_fuel_62 : decode mR_fuel.2.1 62 = .ok (.getfield 50, 3) := by decide +kernel
theorem dR_fuel_65 : decode mR_fuel.2.1 65 = .ok (.iload_n 1, 1) := by decide +kernel
theorem dR_fuel_66 : decode mR_fuel.2.1 66 = .ok (.iaload, 1) := by decide +kernel
theorem dR_fuel_67 : decode mR_fuel.2.1 67 = .ok (.ireturn, 1) := by decide +kernel
theorem dR_using_0 : decode mR_using.2.1 0 = .ok (.aload_n 0, 1) := by decide +kernel
theorem dR_using_1 : decode mR_using.2.1 1 = .ok (.iload_n 1, 1) := by decide +kernel
theorem dR_using_2 : decode mR_using.2.1 2 = .ok (.invokevirtual 115, 3) := by decide +kernel
theorem dR_using_5 : decode mR_using.2.1 5 = .ok (.ifCond .eq 16, 3) := by decide +kernel
theorem dR_using_8 : decode mR_using.2.1 8 = .ok (.iload_n 2, 1) := by decide +kernel
theorem dR_using_9 : decode mR_using.2.1 9 = .ok (.iconst 0, 1) := by decide +kernel
theorem dR_using_10 : decode mR_using.2.1 10 = .ok (.iconst 1, 1) := by decide +kernel
theorem dR_using_11 : decode mR_using.2.1 11 = .ok (.invokestatic 93, 3) := by decide +kernel
theorem dR_using_14 : decode mR_using.2.1 14 = .ok (.ifCond .eq 7, 3) := by decide +kernel
theorem dR_using_17 : decode mR_using.2.1 17 = .ok (.iconst 1, 1) := by decide +kernel
theorem dR_using_18 : decode mR_using.2.1 18 = .ok (.goto 4, 3) := by decide +kernel
theorem dR_using_21 : decode mR_using.2.1 21 = .ok (.iconst 0, 1) := by decide +kernel
theorem dR_using_22 : decode mR_using.2.1 22 = .ok (.istore_n 3, 1) := by decide +kernel
theorem dR_using_23 : decode mR_using.2.1 23 = .ok (.aload_n 0, 1) := by decide +kernel
theorem dR_using_24 : decode mR_using.2.1 24 = .ok (.iload_n 3, 1) := by decide +kernel
theorem dR_using_25 : decode mR_using.2.1 25 = .ok (.iload_n 3, 1) := by decide +kernel
theorem dR_using_26 : decode mR_using.2.1 26 = .ok (.ifCond .eq 16, 3) := by decide +kernel
theorem dR_using_29 : decode mR_using.2.1 29 = .ok (.aload_n 0, 1) := by decide +kernel
theorem dR_using_30 : decode mR_using.2.1 30 = .ok (.getfield 41, 3) := by decide +kernel
theorem dR_using_33 : decode mR_using.2.1 33 = .ok (.iload_n 1, 1) := by decide +kernel
theorem dR_using_34 : decode mR_using.2.1 34 = .ok (.iaload, 1) := by decide +kernel
theorem dR_using_35 : decode mR_using.2.1 35 = .ok (.ifCond .le 7, 3) := by decide +kernel
theorem dR_using_38 : decode mR_using.2.1 38 = .ok (.iconst 1, 1) := by decide +kernel
theorem dR_using_39 : decode mR_using.2.1 39 = .ok (.goto 4, 3) := by decide +kernel
theorem dR_using_42 : decode mR_using.2.1 42 = .ok (.iconst 0, 1) := by decide +kernel
theorem dR_using_43 : decode mR_using.2.1 43 = .ok (.iconst 1, 1) := by decide +kernel
theorem dR_using_44 : decode mR_using.2.1 44 = .ok (.invokevirtual 101, 3) := by decide +kernel
theorem dR_using_47 : decode mR_using.2.1 47 = .ok (.ifCond .ne 5, 3) := by decide +kernel
theorem dR_using_50 : decode mR_using.2.1 50 = .ok (.lconst 0, 1) := by decide +kernel
theorem dR_using_51 : decode mR_using.2.1 51 = .ok (.lreturn, 1) := by decide +kernel
theorem dR_using_52 : decode mR_using.2.1 52 = .ok (.ldc2_w 147, 3) := by decide +kernel
theorem dR_using_55 : decode mR_using.2.1 55 = .ok (.aload_n 0, 1) := by decide +kernel
theorem dR_using_56 : decode mR_using.2.1 56 = .ok (.getfield 50, 3) := by decide +kernel
theorem dR_using_59 : decode mR_using.2.1 59 = .ok (.iload_n 1, 1) := by decide +kernel
theorem dR_using_60 : decode mR_using.2.1 60 = .ok (.iaload, 1) := by decide +kernel
theorem dR_using_61 : decode mR_using.2.1 61 = .ok (.i2l, 1) := by decide +kernel
theorem dR_using_62 : decode mR_using.2.1 62 = .ok (.lmul, 1) := by decide +kernel
theorem dR_using_63 : decode mR_using.2.1 63 = .ok (.lstore 4, 2) := by decide +kernel
theorem dR_using_65 : decode mR_using.2.1 65 = .ok (.aload_n 0, 1) := by decide +kernel
theorem dR_using_66 : decode mR_using.2.1 66 = .ok (.getfield 41, 3) := by decide +kernel
theorem dR_using_69 : decode mR_using.2.1 69 = .ok (.iload_n 1, 1) := by decide +kernel
theorem dR_using_70 : decode mR_using.2.1 70 = .ok (.iaload, 1) := by decide +kernel
theorem dR_using_71 : decode mR_using.2.1 71 = .ok (.i2l, 1) := by decide +kernel
theorem dR_using_72 : decode mR_using.2.1 72 = .ok (.lstore 6, 2) := by decide +kernel
theorem dR_using_74 : decode mR_using.2.1 74 = .ok (.lload 6, 2) := by decide +kernel
theorem dR_using_76 : decode mR_using.2.1 76 = .ok (.lstore 8, 2) := by decide +kernel
theorem dR_using_78 : decode mR_using.2.1 78 = .ok (.lload 4, 2) := by decide +kernel
theorem dR_using_80 : decode mR_using.2.1 80 = .ok (.lstore 10, 2) := by decide +kernel
theorem dR_using_82 : decode mR_using.2.1 82 = .ok (.lload 10, 2) := by decide +kernel
theorem dR_using_84 : decode mR_using.2.1 84 = .ok (.lconst 0, 1) := by decide +kernel
theorem dR_using_85 : decode mR_using.2.1 85 = .ok (.lcmp, 1) := by decide +kernel
theorem dR_using_86 : decode mR_using.2.1 86 = .ok (.ifCond .le 21, 3) := by decide +kernel
theorem dR_using_89 : decode mR_using.2.1 89 = .ok (.lload 8, 2) := by decide +kernel
theorem dR_using_91 : decode mR_using.2.1 91 = .ok (.lload 10, 2) := by decide +kernel
theorem dR_using_93 : decode mR_using.2.1 93 = .ok (.lrem, 1) := by decide +kernel
theorem dR_using_94 : decode mR_using.2.1 94 = .ok (.lstore 12, 2) := by decide +kernel
theorem dR_using_96 : decode mR_using.2.1 96 = .ok (.lload 10, 2) := by decide +kernel
theorem dR_using_98 : decode mR_using.2.1 98 = .ok (.lstore 8, 2) := by decide +kernel
theorem dR_using_100 : decode mR_using.2.1 100 = .ok (.lload 12, 2) := by decide +kernel
theorem dR_using_102 : decode mR_using.2.1 102 = .ok (.lstore 10, 2) := by decide +kernel
theorem dR_using_104 : decode mR_using.2.1 104 = .ok (.goto (-22), 3) := by decide +kernel
theorem dR_using_107 : decode mR_using.2.1 107 = .ok (.iload_n 2, 1) := by decide +kernel
theorem dR_using_108 : decode mR_using.2.1 108 = .ok (.ifCond .ne 8, 3) := by decide +kernel
theorem dR_using_111 : decode mR_using.2.1 111 = .ok (.lload 4, 2) := by decide +kernel
theorem dR_using_113 : decode mR_using.2.1 113 = .ok (.goto 5, 3) := by decide +kernel
theorem dR_using_116 : decode mR_using.2.1 116 = .ok (.lload 6, 2) := by decide +kernel
theorem dR_using_118 : decode mR_using.2.1 118 = .ok (.lload 8, 2) := by decide +kernel
theorem dR_using_120 : decode mR_using.2.1 120 = .ok (.ldiv, 1) := by decide +kernel
theorem dR_using_121 : decode mR_using.2.1 121 = .ok (.lreturn, 1) := by decide +kernel
theorem dR_key_0 : decode mR_key.2.1 0 = .ok (.aload_n 0, 1) := by decide +kernel
theorem dR_key_1 : decode mR_key.2.1 1 = .ok (.iload_n 1, 1) := by decide +kernel
theorem dR_key_2 : decode mR_key.2.1 2 = .ok (.invokevirtual 115, 3) := by decide +kernel
theorem dR_key_5 : decode mR_key.2.1 5 = .ok (.ifCond .eq 19, 3) := by decide +kernel
theorem dR_key_8 : decode mR_key.2.1 8 = .ok (.iload_n 2, 1) := by decide +kernel
theorem dR_key_9 : decode mR_key.2.1 9 = .ok (.iconst (-1), 1) := by decide +kernel
theorem dR_key_10 : decode mR_key.2.1 10 = .ok (.if_icmp .eq 10, 3) := by decide +kernel
theorem dR_key_13 : decode mR_key.2.1 13 = .ok (.iload_n 2, 1) := by decide +kernel
theorem dR_key_14 : decode mR_key.2.1 14 = .ok (.invokestatic 118, 3) := by decide +kernel
theorem dR_key_17 : decode mR_key.2.1 17 = .ok (.ifCond .eq 7, 3) := by decide +kernel
theorem dR_key_20 : decode mR_key.2.1 20 = .ok (.iconst 1, 1) := by decide +kernel
theorem dR_key_21 : decode mR_key.2.1 21 = .ok (.goto 4, 3) := by decide +kernel
theorem dR_key_24 : decode mR_key.2.1 24 = .ok (.iconst 0, 1) := by decide +kernel
theorem dR_key_25 : decode mR_key.2.1 25 = .ok (.istore_n 3, 1) := by decide +kernel
theorem dR_key_26 : decode mR_key.2.1 26 = .ok (.aload_n 0, 1) := by decide +kernel
theorem dR_key_27 : decode mR_key.2.1 27 = .ok (.iload_n 3, 1) := by decide +kernel
theorem dR_key_28 : decode mR_key.2.1 28 = .ok (.iload_n 3, 1) := by decide +kernel
theorem dR_key_29 : decode mR_key.2.1 29 = .ok (.ifCond .eq 17, 3) := by decide +kernel
theorem dR_key_32 : decode mR_key.2.1 32 = .ok (.aload_n 0, 1) := by decide +kernel
theorem dR_key_33 : decode mR_key.2.1 33 = .ok (.getfield 56, 3) := by decide +kernel
theorem dR_key_36 : decode mR_key.2.1 36 = .ok (.iload_n 1, 1) := by decide +kernel
theorem dR_key_37 : decode mR_key.2.1 37 = .ok (.iaload, 1) := by decide +kernel
theorem dR_key_38 : decode mR_key.2.1 38 = .ok (.iload_n 2, 1) := by decide +kernel
theorem dR_key_39 : decode mR_key.2.1 39 = .ok (.if_icmp .eq 7, 3) := by decide +kernel
theorem dR_key_42 : decode mR_key.2.1 42 = .ok (.iconst 1, 1) := by decide +kernel
theorem dR_key_43 : decode mR_key.2.1 43 = .ok (.goto 4, 3) := by decide +kernel
theorem dR_key_46 : decode mR_key.2.1 46 = .ok (.iconst 0, 1) := by decide +kernel
theorem dR_key_47 : decode mR_key.2.1 47 = .ok (.iconst 1, 1) := by decide +kernel
theorem dR_key_48 : decode mR_key.2.1 48 = .ok (.invokevirtual 101, 3) := by decide +kernel
theorem dR_key_51 : decode mR_key.2.1 51 = .ok (.ifCond .ne 5, 3) := by decide +kernel
theorem dR_key_54 : decode mR_key.2.1 54 = .ok (.iconst 0, 1) := by decide +kernel
theorem dR_key_55 : decode mR_key.2.1 55 = .ok (.ireturn, 1) := by decide +kernel
theorem dR_key_56 : decode mR_key.2.1 56 = .ok (.aload_n 0, 1) := by decide +kernel
theorem dR_key_57 : decode mR_key.2.1 57 = .ok (.getfield 56, 3) := by decide +kernel
theorem dR_key_60 : decode mR_key.2.1 60 = .ok (.iload_n 1, 1) := by decide +kernel
theorem dR_key_61 : decode mR_key.2.1 61 = .ok (.iaload, 1) := by decide +kernel
theorem dR_key_62 : decode mR_key.2.1 62 = .ok (.istore 4, 2) := by decide +kernel
theorem dR_key_64 : decode mR_key.2.1 64 = .ok (.aload_n 0, 1) := by decide +kernel
theorem dR_key_65 : decode mR_key.2.1 65 = .ok (.getfield 56, 3) := by decide +kernel
theorem dR_key_68 : decode mR_key.2.1 68 = .ok (.iload_n 1, 1) := by decide +kernel
theorem dR_key_69 : decode mR_key.2.1 69 = .ok (.iload_n 2, 1) := by decide +kernel
theorem dR_key_70 : decode mR_key.2.1 70 = .ok (.iastore, 1) := by decide +kernel
theorem dR_key_71 : decode mR_key.2.1 71 = .ok (.iload 4, 2) := by decide +kernel
theorem dR_key_73 : decode mR_key.2.1 73 = .ok (.ireturn, 1) := by decide +kernel
theorem dR_cost_0 : decode mR_cost.2.1 0 = .ok (.aload_n 0, 1) := by decide +kernel
theorem dR_cost_1 : decode mR_cost.2.1 1 = .ok (.aload_n 0, 1) := by decide +kernel
theorem dR_cost_2 : decode mR_cost.2.1 2 = .ok (.iload_n 1, 1) := by decide +kernel
theorem dR_cost_3 : decode mR_cost.2.1 3 = .ok (.invokevirtual 115, 3) := by decide +kernel
theorem dR_cost_6 : decode mR_cost.2.1 6 = .ok (.iload_n 2, 1) := by decide +kernel
theorem dR_cost_7 : decode mR_cost.2.1 7 = .ok (.iconst 0, 1) := by decide +kernel
theorem dR_cost_8 : decode mR_cost.2.1 8 = .ok (.ldc 149, 2) := by decide +kernel
theorem dR_cost_10 : decode mR_cost.2.1 10 = .ok (.invokestatic 93, 3) := by decide +kernel
theorem dR_cost_13 : decode mR_cost.2.1 13 = .ok (.aload_n 0, 1) := by decide +kernel
theorem dR_cost_14 : decode mR_cost.2.1 14 = .ok (.iload_n 1, 1) := by decide +kernel
theorem dR_cost_15 : decode mR_cost.2.1 15 = .ok (.invokevirtual 115, 3) := by decide +kernel
theorem dR_cost_18 : decode mR_cost.2.1 18 = .ok (.ifCond .eq 20, 3) := by decide +kernel
theorem dR_cost_21 : decode mR_cost.2.1 21 = .ok (.aload_n 0, 1) := by decide +kernel
theorem dR_cost_22 : decode mR_cost.2.1 22 = .ok (.getfield 53, 3) := by decide +kernel
theorem dR_cost_25 : decode mR_cost.2.1 25 = .ok (.iload_n 1, 1) := by decide +kernel
theorem dR_cost_26 : decode mR_cost.2.1 26 = .ok (.iaload, 1) := by decide +kernel
theorem dR_cost_27 : decode mR_cost.2.1 27 = .ok (.iload_n 2, 1) := by decide +kernel
theorem dR_cost_28 : decode mR_cost.2.1 28 = .ok (.iadd, 1) := by decide +kernel
theorem dR_cost_29 : decode mR_cost.2.1 29 = .ok (.ldc 146, 2) := by decide +kernel
theorem dR_cost_31 : decode mR_cost.2.1 31 = .ok (.if_icmp .gt 7, 3) := by decide +kernel
theorem dR_cost_34 : decode mR_cost.2.1 34 = .ok (.iconst 1, 1) := by decide +kernel
theorem dR_cost_35 : decode mR_cost.2.1 35 = .ok (.goto 4, 3) := by decide +kernel
theorem dR_cost_38 : decode mR_cost.2.1 38 = .ok (.iconst 0, 1) := by decide +kernel
theorem dR_cost_39 : decode mR_cost.2.1 39 = .ok (.invokevirtual 101, 3) := by decide +kernel
theorem dR_cost_42 : decode mR_cost.2.1 42 = .ok (.ifCond .ne 5, 3) := by decide +kernel
theorem dR_cost_45 : decode mR_cost.2.1 45 = .ok (.iconst 0, 1) := by decide +kernel
theorem dR_cost_46 : decode mR_cost.2.1 46 = .ok (.ireturn, 1) := by decide +kernel
theorem dR_cost_47 : decode mR_cost.2.1 47 = .ok (.aload_n 0, 1) := by decide +kernel
theorem dR_cost_48 : decode mR_cost.2.1 48 = .ok (.getfield 53, 3) := by decide +kernel
theorem dR_cost_51 : decode mR_cost.2.1 51 = .ok (.iload_n 1, 1) := by decide +kernel
theorem dR_cost_52 : decode mR_cost.2.1 52 = .ok (.aload_n 0, 1) := by decide +kernel
theorem dR_cost_53 : decode mR_cost.2.1 53 = .ok (.getfield 53, 3) := by decide +kernel
theorem dR_cost_56 : decode mR_cost.2.1 56 = .ok (.iload_n 1, 1) := by decide +kernel
theorem dR_cost_57 : decode mR_cost.2.1 57 = .ok (.iaload, 1) := by decide +kernel
theorem dR_cost_58 : decode mR_cost.2.1 58 = .ok (.iload_n 2, 1) := by decide +kernel
theorem dR_cost_59 : decode mR_cost.2.1 59 = .ok (.iadd, 1) := by decide +kernel
theorem dR_cost_60 : decode mR_cost.2.1 60 = .ok (.iastore, 1) := by decide +kernel
theorem dR_cost_61 : decode mR_cost.2.1 61 = .ok (.aload_n 0, 1) := by decide +kernel
theorem dR_cost_62 : decode mR_cost.2.1 62 = .ok (.getfield 53, 3) := by decide +kernel
theorem dR_cost_65 : decode mR_cost.2.1 65 = .ok (.iload_n 1, 1) := by decide +kernel
theorem dR_cost_66 : decode mR_cost.2.1 66 = .ok (.iaload, 1) := by decide +kernel
theorem dR_cost_67 : decode mR_cost.2.1 67 = .ok (.ireturn, 1) := by decide +kernel
theorem dR_skipped_0 : decode mR_skipped.2.1 0 = .ok (.aload_n 0, 1) := by decide +kernel
theorem dR_skipped_1 : decode mR_skipped.2.1 1 = .ok (.iload_n 1, 1) := by decide +kernel
theorem dR_skipped_2 : decode mR_skipped.2.1 2 = .ok (.ifCond .lt 7, 3) := by decide +kernel
theorem dR_skipped_5 : decode mR_skipped.2.1 5 = .ok (.iconst 1, 1) := by decide +kernel
theorem dR_skipped_6 : decode mR_skipped.2.1 6 = .ok (.goto 4, 3) := by decide +kernel
theorem dR_skipped_9 : decode mR_skipped.2.1 9 = .ok (.iconst 0, 1) := by decide +kernel
theorem dR_skipped_10 : decode mR_skipped.2.1 10 = .ok (.iconst 1, 1) := by decide +kernel
theorem dR_skipped_11 : decode mR_skipped.2.1 11 = .ok (.iconst 1, 1) := by decide +kernel
theorem dR_skipped_12 : decode mR_skipped.2.1 12 = .ok (.invokevirtual 101, 3) := by decide +kernel
theorem dR_skipped_15 : decode mR_skipped.2.1 15 = .ok (.ifCond .ne 5, 3) := by decide +kernel
theorem dR_skipped_18 : decode mR_skipped.2.1 18 = .ok (.iconst 0, 1) := by decide +kernel
theorem dR_skipped_19 : decode mR_skipped.2.1 19 = .ok (.ireturn, 1) := by decide +kernel
theorem dR_skipped_20 : decode mR_skipped.2.1 20 = .ok (.iload_n 1, 1) := by decide +kernel
theorem dR_skipped_21 : decode mR_skipped.2.1 21 = .ok (.istore_n 2, 1) := by decide +kernel
theorem dR_skipped_22 : decode mR_skipped.2.1 22 = .ok (.iconst 0, 1) := by decide +kernel
theorem dR_skipped_23 : decode mR_skipped.2.1 23 = .ok (.istore_n 3, 1) := by decide +kernel
theorem dR_skipped_24 : decode mR_skipped.2.1 24 = .ok (.iload_n 3, 1) := by decide +kernel
theorem dR_skipped_25 : decode mR_skipped.2.1 25 = .ok (.bipush 10, 2) := by decide +kernel
theorem dR_skipped_27 : decode mR_skipped.2.1 27 = .ok (.aload_n 0, 1) := by decide +kernel
theorem dR_skipped_28 : decode mR_skipped.2.1 28 = .ok (.getfield 90, 3) := by decide +kernel
theorem dR_skipped_31 : decode mR_skipped.2.1 31 = .ok (.imul, 1) := by decide +kernel
theorem dR_skipped_32 : decode mR_skipped.2.1 32 = .ok (.if_icmp .ge 48, 3) := by decide +kernel
theorem dR_skipped_35 : decode mR_skipped.2.1 35 = .ok (.aload_n 0, 1) := by decide +kernel
theorem dR_skipped_36 : decode mR_skipped.2.1 36 = .ok (.getfield 35, 3) := by decide +kernel
theorem dR_skipped_39 : decode mR_skipped.2.1 39 = .ok (.iload_n 3, 1) := by decide +kernel
theorem dR_skipped_40 : decode mR_skipped.2.1 40 = .ok (.bipush 10, 2) := by decide +kernel
theorem dR_skipped_42 : decode mR_skipped.2.1 42 = .ok (.idiv, 1) := by decide +kernel
theorem dR_skipped_43 : decode mR_skipped.2.1 43 = .ok (.baload, 1) := by decide +kernel
theorem dR_skipped_44 : decode mR_skipped.2.1 44 = .ok (.ifCond .ne 30, 3) := by decide +kernel
theorem dR_skipped_47 : decode mR_skipped.2.1 47 = .ok (.aload_n 0, 1) := by decide +kernel
theorem dR_skipped_48 : decode mR_skipped.2.1 48 = .ok (.iload_n 3, 1) := by decide +kernel
theorem dR_skipped_49 : decode mR_skipped.2.1 49 = .ok (.bipush 10, 2) := by decide +kernel
theorem dR_skipped_51 : decode mR_skipped.2.1 51 = .ok (.idiv, 1) := by decide +kernel
theorem dR_skipped_52 : decode mR_skipped.2.1 52 = .ok (.iload_n 3, 1) := by decide +kernel
theorem dR_skipped_53 : decode mR_skipped.2.1 53 = .ok (.bipush 10, 2) := by decide +kernel
theorem dR_skipped_55 : decode mR_skipped.2.1 55 = .ok (.irem, 1) := by decide +kernel
theorem dR_skipped_56 : decode mR_skipped.2.1 56 = .ok (.invokevirtual 130, 3) := by decide +kernel
theorem dR_skipped_59 : decode mR_skipped.2.1 59 = .ok (.ifCond .ne 6, 3) := by decide +kernel
theorem dR_skipped_62 : decode mR_skipped.2.1 62 = .ok (.goto 12, 3) := by decide +kernel
theorem dR_skipped_65 : decode mR_skipped.2.1 65 = .ok (.iload_n 2, 1) := by decide +kernel
theorem dR_skipped_66 : decode mR_skipped.2.1 66 = .ok (.ifCond .ne 5, 3) := by decide +kernel
theorem dR_skipped_69 : decode mR_skipped.2.1 69 = .ok (.iload_n 3, 1) := by decide +kernel
theorem dR_skipped_70 : decode mR_skipped.2.1 70 = .ok (.ireturn, 1) := by decide +kernel
theorem dR_skipped_71 : decode mR_skipped.2.1 71 = .ok (.iinc 2 (-1), 3) := by decide +kernel
theorem dR_skipped_74 : decode mR_skipped.2.1 74 = .ok (.iinc 3 1, 3) := by decide +kernel
theorem dR_skipped_77 : decode mR_skipped.2.1 77 = .ok (.goto (-53), 3) := by decide +kernel
theorem dR_skipped_80 : decode mR_skipped.2.1 80 = .ok (.iconst (-1), 1) := by decide +kernel
theorem dR_skipped_81 : decode mR_skipped.2.1 81 = .ok (.ireturn, 1) := by decide +kernel
theorem dR_tick_0 : decode mR_tick.2.1 0 = .ok (.aload_n 0, 1) := by decide +kernel
theorem dR_tick_1 : decode mR_tick.2.1 1 = .ok (.iload_n 1, 1) := by decide +kernel
theorem dR_tick_2 : decode mR_tick.2.1 2 = .ok (.iconst 1, 1) := by decide +kernel
theorem dR_tick_3 : decode mR_tick.2.1 3 = .ok (.sipush 5000, 3) := by decide +kernel
theorem dR_tick_6 : decode mR_tick.2.1 6 = .ok (.invokestatic 93, 3) := by decide +kernel
theorem dR_tick_9 : decode mR_tick.2.1 9 = .ok (.ifCond .eq 18, 3) := by decide +kernel
theorem dR_tick_12 : decode mR_tick.2.1 12 = .ok (.iload_n 1, 1) := by decide +kernel
theorem dR_tick_13 : decode mR_tick.2.1 13 = .ok (.ldc 122, 2) := by decide +kernel
theorem dR_tick_15 : decode mR_tick.2.1 15 = .ok (.aload_n 0, 1) := by decide +kernel
theorem dR_tick_16 : decode mR_tick.2.1 16 = .ok (.getfield 105, 3) := by decide +kernel
theorem dR_tick_19 : decode mR_tick.2.1 19 = .ok (.isub, 1) := by decide +kernel
theorem dR_tick_20 : decode mR_tick.2.1 20 = .ok (.if_icmp .gt 7, 3) := by decide +kernel
theorem dR_tick_23 : decode mR_tick.2.1 23 = .ok (.iconst 1, 1) := by decide +kernel
theorem dR_tick_24 : decode mR_tick.2.1 24 = .ok (.goto 4, 3) := by decide +kernel
theorem dR_tick_27 : decode mR_tick.2.1 27 = .ok (.iconst 0, 1) := by decide +kernel
theorem dR_tick_28 : decode mR_tick.2.1 28 = .ok (.iconst 1, 1) := by decide +kernel
theorem dR_tick_29 : decode mR_tick.2.1 29 = .ok (.iconst 1, 1) := by decide +kernel
theorem dR_tick_30 : decode mR_tick.2.1 30 = .ok (.invokevirtual 101, 3) := by decide +kernel
theorem dR_tick_33 : decode mR_tick.2.1 33 = .ok (.ifCond .ne 5, 3) := by decide +kernel
theorem dR_tick_36 : decode mR_tick.2.1 36 = .ok (.iconst 0, 1) := by decide +kernel
theorem dR_tick_37 : decode mR_tick.2.1 37 = .ok (.ireturn, 1) := by decide +kernel
theorem dR_tick_38 : decode mR_tick.2.1 38 = .ok (.aload_n 0, 1) := by decide +kernel
theorem dR_tick_39 : decode mR_tick.2.1 39 = .ok (.aload_n 0, 1) := by decide +kernel
theorem dR_tick_40 : decode mR_tick.2.1 40 = .ok (.getfield 105, 3) := by decide +kernel
theorem dR_tick_43 : decode mR_tick.2.1 43 = .ok (.iload_n 1, 1) := by decide +kernel
theorem dR_tick_44 : decode mR_tick.2.1 44 = .ok (.iadd, 1) := by decide +kernel
theorem dR_tick_45 : decode mR_tick.2.1 45 = .ok (.putfield 105, 3) := by decide +kernel
theorem dR_tick_48 : decode mR_tick.2.1 48 = .ok (.iconst 0, 1) := by decide +kernel
theorem dR_tick_49 : decode mR_tick.2.1 49 = .ok (.istore_n 2, 1) := by decide +kernel
theorem dR_tick_50 : decode mR_tick.2.1 50 = .ok (.iconst 0, 1) := by decide +kernel
theorem dR_tick_51 : decode mR_tick.2.1 51 = .ok (.istore_n 3, 1) := by decide +kernel
theorem dR_tick_52 : decode mR_tick.2.1 52 = .ok (.iload_n 3, 1) := by decide +kernel
theorem dR_tick_53 : decode mR_tick.2.1 53 = .ok (.aload_n 0, 1) := by decide +kernel
theorem dR_tick_54 : decode mR_tick.2.1 54 = .ok (.getfield 90, 3) := by decide +kernel
theorem dR_tick_57 : decode mR_tick.2.1 57 = .ok (.if_icmp .ge 20, 3) := by decide +kernel
theorem dR_tick_60 : decode mR_tick.2.1 60 = .ok (.aload_n 0, 1) := by decide +kernel
theorem dR_tick_61 : decode mR_tick.2.1 61 = .ok (.iload_n 3, 1) := by decide +kernel
theorem dR_tick_62 : decode mR_tick.2.1 62 = .ok (.invokevirtual 139, 3) := by decide +kernel
theorem dR_tick_65 : decode mR_tick.2.1 65 = .ok (.ifCond .eq 6, 3) := by decide +kernel
theorem dR_tick_68 : decode mR_tick.2.1 68 = .ok (.iinc 2 1, 3) := by decide +kernel
theorem dR_tick_71 : decode mR_tick.2.1 71 = .ok (.iinc 3 1, 3) := by decide +kernel
theorem dR_tick_74 : decode mR_tick.2.1 74 = .ok (.goto (-22), 3) := by decide +kernel
theorem dR_tick_77 : decode mR_tick.2.1 77 = .ok (.iload_n 2, 1) := by decide +kernel
theorem dR_tick_78 : decode mR_tick.2.1 78 = .ok (.ireturn, 1) := by decide +kernel
theorem dR_vehicleAt_0 : decode mR_vehicleAt.2.1 0 = .ok (.aload_n 0, 1) := by decide +kernel
theorem dR_vehicleAt_1 : decode mR_vehicleAt.2.1 1 = .ok (.aload_n 0, 1) := by decide +kernel
theorem dR_vehicleAt_2 : decode mR_vehicleAt.2.1 2 = .ok (.iload_n 1, 1) := by decide +kernel
theorem dR_vehicleAt_3 : decode mR_vehicleAt.2.1 3 = .ok (.invokevirtual 115, 3) := by decide +kernel
theorem dR_vehicleAt_6 : decode mR_vehicleAt.2.1 6 = .ok (.ifCond .eq 16, 3) := by decide +kernel
theorem dR_vehicleAt_9 : decode mR_vehicleAt.2.1 9 = .ok (.iload_n 2, 1) := by decide +kernel
theorem dR_vehicleAt_10 : decode mR_vehicleAt.2.1 10 = .ok (.iconst 0, 1) := by decide +kernel
theorem dR_vehicleAt_11 : decode mR_vehicleAt.2.1 11 = .ok (.iconst 5, 1) := by decide +kernel
theorem dR_vehicleAt_12 : decode mR_vehicleAt.2.1 12 = .ok (.invokestatic 93, 3) := by decide +kernel
theorem dR_vehicleAt_15 : decode mR_vehicleAt.2.1 15 = .ok (.ifCond .eq 7, 3) := by decide +kernel
theorem dR_vehicleAt_18 : decode mR_vehicleAt.2.1 18 = .ok (.iconst 1, 1) := by decide +kernel
theorem dR_vehicleAt_19 : decode mR_vehicleAt.2.1 19 = .ok (.goto 4, 3) := by decide +kernel
theorem dR_vehicleAt_22 : decode mR_vehicleAt.2.1 22 = .ok (.iconst 0, 1) := by decide +kernel
theorem dR_vehicleAt_23 : decode mR_vehicleAt.2.1 23 = .ok (.iconst 1, 1) := by decide +kernel
theorem dR_vehicleAt_24 : decode mR_vehicleAt.2.1 24 = .ok (.iconst 1, 1) := by decide +kernel
theorem dR_vehicleAt_25 : decode mR_vehicleAt.2.1 25 = .ok (.invokevirtual 101, 3) := by decide +kernel
theorem dR_vehicleAt_28 : decode mR_vehicleAt.2.1 28 = .ok (.ifCond .ne 5, 3) := by decide +kernel
theorem dR_vehicleAt_31 : decode mR_vehicleAt.2.1 31 = .ok (.iconst 0, 1) := by decide +kernel
theorem dR_vehicleAt_32 : decode mR_vehicleAt.2.1 32 = .ok (.ireturn, 1) := by decide +kernel
theorem dR_vehicleAt_33 : decode mR_vehicleAt.2.1 33 = .ok (.iconst 0, 1) := by decide +kernel
theorem dR_vehicleAt_34 : decode mR_vehicleAt.2.1 34 = .ok (.istore_n 3, 1) := by decide +kernel
theorem dR_vehicleAt_35 : decode mR_vehicleAt.2.1 35 = .ok (.iconst 0, 1) := by decide +kernel
theorem dR_vehicleAt_36 : decode mR_vehicleAt.2.1 36 = .ok (.istore 4, 2) := by decide +kernel
theorem dR_vehicleAt_38 : decode mR_vehicleAt.2.1 38 = .ok (.iload 4, 2) := by decide +kernel
theorem dR_vehicleAt_40 : decode mR_vehicleAt.2.1 40 = .ok (.aload_n 0, 1) := by decide +kernel
theorem dR_vehicleAt_41 : decode mR_vehicleAt.2.1 41 = .ok (.getfield 133, 3) := by decide +kernel
theorem dR_vehicleAt_44 : decode mR_vehicleAt.2.1 44 = .ok (.if_icmp .ge 33, 3) := by decide +kernel
theorem dR_vehicleAt_47 : decode mR_vehicleAt.2.1 47 = .ok (.aload_n 0, 1) := by decide +kernel
theorem dR_vehicleAt_48 : decode mR_vehicleAt.2.1 48 = .ok (.getfield 77, 3) := by decide +kernel
theorem dR_vehicleAt_51 : decode mR_vehicleAt.2.1 51 = .ok (.iload 4, 2) := by decide +kernel
theorem dR_vehicleAt_53 : decode mR_vehicleAt.2.1 53 = .ok (.iaload, 1) := by decide +kernel
theorem dR_vehicleAt_54 : decode mR_vehicleAt.2.1 54 = .ok (.iload_n 1, 1) := by decide +kernel
theorem dR_vehicleAt_55 : decode mR_vehicleAt.2.1 55 = .ok (.if_icmp .ne 16, 3) := by decide +kernel
theorem dR_vehicleAt_58 : decode mR_vehicleAt.2.1 58 = .ok (.aload_n 0, 1) := by decide +kernel
theorem dR_vehicleAt_59 : decode mR_vehicleAt.2.1 59 = .ok (.getfield 83, 3) := by decide +kernel
theorem dR_vehicleAt_62 : decode mR_vehicleAt.2.1 62 = .ok (.iload 4, 2) := by decide +kernel
theorem dR_vehicleAt_64 : decode mR_vehicleAt.2.1 64 = .ok (.iaload, 1) := by decide +kernel
theorem dR_vehicleAt_65 : decode mR_vehicleAt.2.1 65 = .ok (.ifCond .ne 6, 3) := by decide +kernel
theorem dR_vehicleAt_68 : decode mR_vehicleAt.2.1 68 = .ok (.iinc 3 1, 3) := by decide +kernel
theorem dR_vehicleAt_71 : decode mR_vehicleAt.2.1 71 = .ok (.iinc 4 1, 3) := by decide +kernel
theorem dR_vehicleAt_74 : decode mR_vehicleAt.2.1 74 = .ok (.goto (-36), 3) := by decide +kernel
theorem dR_vehicleAt_77 : decode mR_vehicleAt.2.1 77 = .ok (.iload_n 2, 1) := by decide +kernel
theorem dR_vehicleAt_78 : decode mR_vehicleAt.2.1 78 = .ok (.ifCond .ne 12, 3) := by decide +kernel
theorem dR_vehicleAt_81 : decode mR_vehicleAt.2.1 81 = .ok (.aload_n 0, 1) := by decide +kernel
theorem dR_vehicleAt_82 : decode mR_vehicleAt.2.1 82 = .ok (.getfield 41, 3) := by decide +kernel
theorem dR_vehicleAt_85 : decode mR_vehicleAt.2.1 85 = .ok (.iload_n 1, 1) := by decide +kernel
theorem dR_vehicleAt_86 : decode mR_vehicleAt.2.1 86 = .ok (.iaload, 1) := by decide +kernel
theorem dR_vehicleAt_87 : decode mR_vehicleAt.2.1 87 = .ok (.goto 68, 3) := by decide +kernel
theorem dR_vehicleAt_90 : decode mR_vehicleAt.2.1 90 = .ok (.iload_n 2, 1) := by decide +kernel
theorem dR_vehicleAt_91 : decode mR_vehicleAt.2.1 91 = .ok (.iconst 1, 1) := by decide +kernel
theorem dR_vehicleAt_92 : decode mR_vehicleAt.2.1 92 = .ok (.if_icmp .ne 20, 3) := by decide +kernel
theorem dR_vehicleAt_95 : decode mR_vehicleAt.2.1 95 = .ok (.aload_n 0, 1) := by decide +kernel
theorem dR_vehicleAt_96 : decode mR_vehicleAt.2.1 96 = .ok (.getfield 35, 3) := by decide +kernel
theorem dR_vehicleAt_99 : decode mR_vehicleAt.2.1 99 = .ok (.iload_n 1, 1) := by decide +kernel
theorem dR_vehicleAt_100 : decode mR_vehicleAt.2.1 100 = .ok (.baload, 1) := by decide +kernel
theorem dR_vehicleAt_101 : decode mR_vehicleAt.2.1 101 = .ok (.ifCond .eq 7, 3) := by decide +kernel
theorem dR_vehicleAt_104 : decode mR_vehicleAt.2.1 104 = .ok (.iconst 0, 1) := by decide +kernel
theorem dR_vehicleAt_105 : decode mR_vehicleAt.2.1 105 = .ok (.goto 50, 3) := by decide +kernel
theorem dR_vehicleAt_108 : decode mR_vehicleAt.2.1 108 = .ok (.iconst 1, 1) := by decide +kernel
theorem dR_vehicleAt_109 : decode mR_vehicleAt.2.1 109 = .ok (.goto 46, 3) := by decide +kernel
theorem dR_vehicleAt_112 : decode mR_vehicleAt.2.1 112 = .ok (.iload_n 2, 1) := by decide +kernel
theorem dR_vehicleAt_113 : decode mR_vehicleAt.2.1 113 = .ok (.iconst 2, 1) := by decide +kernel
theorem dR_vehicleAt_114 : decode mR_vehicleAt.2.1 114 = .ok (.if_icmp .ne 12, 3) := by decide +kernel
theorem dR_vehicleAt_117 : decode mR_vehicleAt.2.1 117 = .ok (.aload_n 0, 1) := by decide +kernel
theorem dR_vehicleAt_118 : decode mR_vehicleAt.2.1 118 = .ok (.getfield 44, 3) := by decide +kernel
theorem dR_vehicleAt_121 : decode mR_vehicleAt.2.1 121 = .ok (.iload_n 1, 1) := by decide +kernel
theorem dR_vehicleAt_122 : decode mR_vehicleAt.2.1 122 = .ok (.iaload, 1) := by decide +kernel
theorem dR_vehicleAt_123 : decode mR_vehicleAt.2.1 123 = .ok (.goto 32, 3) := by decide +kernel
theorem dR_vehicleAt_126 : decode mR_vehicleAt.2.1 126 = .ok (.iload_n 2, 1) := by decide +kernel
theorem dR_vehicleAt_127 : decode mR_vehicleAt.2.1 127 = .ok (.iconst 3, 1) := by decide +kernel
theorem dR_vehicleAt_128 : decode mR_vehicleAt.2.1 128 = .ok (.if_icmp .ne 12, 3) := by decide +kernel
theorem dR_vehicleAt_131 : decode mR_vehicleAt.2.1 131 = .ok (.aload_n 0, 1) := by decide +kernel
theorem dR_vehicleAt_132 : decode mR_vehicleAt.2.1 132 = .ok (.getfield 47, 3) := by decide +kernel
theorem dR_vehicleAt_135 : decode mR_vehicleAt.2.1 135 = .ok (.iload_n 1, 1) := by decide +kernel
theorem dR_vehicleAt_136 : decode mR_vehicleAt.2.1 136 = .ok (.iaload, 1) := by decide +kernel
theorem dR_vehicleAt_137 : decode mR_vehicleAt.2.1 137 = .ok (.goto 18, 3) := by decide +kernel
theorem dR_vehicleAt_140 : decode mR_vehicleAt.2.1 140 = .ok (.iload_n 2, 1) := by decide +kernel
theorem dR_vehicleAt_141 : decode mR_vehicleAt.2.1 141 = .ok (.iconst 4, 1) := by decide +kernel
theorem dR_vehicleAt_142 : decode mR_vehicleAt.2.1 142 = .ok (.if_icmp .ne 7, 3) := by decide +kernel
theorem dR_vehicleAt_145 : decode mR_vehicleAt.2.1 145 = .ok (.iload_n 3, 1) := by decide +kernel
theorem dR_vehicleAt_146 : decode mR_vehicleAt.2.1 146 = .ok (.goto 9, 3) := by decide +kernel
theorem dR_vehicleAt_149 : decode mR_vehicleAt.2.1 149 = .ok (.aload_n 0, 1) := by decide +kernel
theorem dR_vehicleAt_150 : decode mR_vehicleAt.2.1 150 = .ok (.getfield 56, 3) := by decide +kernel
theorem dR_vehicleAt_153 : decode mR_vehicleAt.2.1 153 = .ok (.iload_n 1, 1) := by decide +kernel
theorem dR_vehicleAt_154 : decode mR_vehicleAt.2.1 154 = .ok (.iaload, 1) := by decide +kernel
theorem dR_vehicleAt_155 : decode mR_vehicleAt.2.1 155 = .ok (.ireturn, 1) := by decide +kernel
end
section
theorem dL_vehicle_0 : decode mL_vehicle.2.1 0 = .ok (.aload_n 3, 1) := by decide +kernel
theorem dL_vehicle_1 : decode mL_vehicle.2.1 1 = .ok (.iconst 0, 1) := by decide +kernel
theorem dL_vehicle_2 : decode mL_vehicle.2.1 2 = .ok (.aload_n 0, 1) := by decide +kernel
theorem dL_vehicle_3 : decode mL_vehicle.2.1 3 = .ok (.iload_n 1, 1) := by decide +kernel
theorem dL_vehicle_4 : decode mL_vehicle.2.1 4 = .ok (.iload_n 2, 1) := by decide +kernel
theorem dL_vehicle_5 : decode mL_vehicle.2.1 5 = .ok (.invokevirtual 7, 3) := by decide +kernel
theorem dL_vehicle_8 : decode mL_vehicle.2.1 8 = .ok (.i2l, 1) := by decide +kernel
theorem dL_vehicle_9 : decode mL_vehicle.2.1 9 = .ok (.lastore, 1) := by decide +kernel
theorem dL_vehicle_10 : decode mL_vehicle.2.1 10 = .ok (.goto 11, 3) := by decide +kernel
theorem dL_vehicle_13 : decode mL_vehicle.2.1 13 = .ok (.astore 4, 2) := by decide +kernel
theorem dL_vehicle_15 : decode mL_vehicle.2.1 15 = .ok (.iconst 1, 1) := by decide +kernel
theorem dL_vehicle_16 : decode mL_vehicle.2.1 16 = .ok (.ireturn, 1) := by decide +kernel
theorem dL_vehicle_17 : decode mL_vehicle.2.1 17 = .ok (.astore 4, 2) := by decide +kernel
theorem dL_vehicle_19 : decode mL_vehicle.2.1 19 = .ok (.iconst 2, 1) := by decide +kernel
theorem dL_vehicle_20 : decode mL_vehicle.2.1 20 = .ok (.ireturn, 1) := by decide +kernel
theorem dL_vehicle_21 : decode mL_vehicle.2.1 21 = .ok (.iconst 0, 1) := by decide +kernel
theorem dL_vehicle_22 : decode mL_vehicle.2.1 22 = .ok (.ireturn, 1) := by decide +kernel
theorem dL_list_0 : decode mL_list.2.1 0 = .ok (.aload_n 0, 1) := by decide +kernel
theorem dL_list_1 : decode mL_list.2.1 1 = .ok (.iload_n 1, 1) := by decide +kernel
theorem dL_list_2 : decode mL_list.2.1 2 = .ok (.iload_n 2, 1) := by decide +kernel
theorem dL_list_3 : decode mL_list.2.1 3 = .ok (.iload_n 3, 1) := by decide +kernel
theorem dL_list_4 : decode mL_list.2.1 4 = .ok (.iload 4, 2) := by decide +kernel
theorem dL_list_6 : decode mL_list.2.1 6 = .ok (.iload 5, 2) := by decide +kernel
theorem dL_list_8 : decode mL_list.2.1 8 = .ok (.iload 6, 2) := by decide +kernel
theorem dL_list_10 : decode mL_list.2.1 10 = .ok (.invokevirtual 17, 3) := by decide +kernel
theorem dL_list_13 : decode mL_list.2.1 13 = .ok (.goto 11, 3) := by decide +kernel
theorem dL_list_16 : decode mL_list.2.1 16 = .ok (.astore 7, 2) := by decide +kernel
theorem dL_list_18 : decode mL_list.2.1 18 = .ok (.iconst 1, 1) := by decide +kernel
theorem dL_list_19 : decode mL_list.2.1 19 = .ok (.ireturn, 1) := by decide +kernel
theorem dL_list_20 : decode mL_list.2.1 20 = .ok (.astore 7, 2) := by decide +kernel
theorem dL_list_22 : decode mL_list.2.1 22 = .ok (.iconst 2, 1) := by decide +kernel
theorem dL_list_23 : decode mL_list.2.1 23 = .ok (.ireturn, 1) := by decide +kernel
theorem dL_list_24 : decode mL_list.2.1 24 = .ok (.iconst 0, 1) := by decide +kernel
theorem dL_list_25 : decode mL_list.2.1 25 = .ok (.ireturn, 1) := by decide +kernel
theorem dL_unlist_0 : decode mL_unlist.2.1 0 = .ok (.aload_n 0, 1) := by decide +kernel
theorem dL_unlist_1 : decode mL_unlist.2.1 1 = .ok (.iload_n 1, 1) := by decide +kernel
theorem dL_unlist_2 : decode mL_unlist.2.1 2 = .ok (.iload_n 2, 1) := by decide +kernel
theorem dL_unlist_3 : decode mL_unlist.2.1 3 = .ok (.invokevirtual 23, 3) := by decide +kernel
theorem dL_unlist_6 : decode mL_unlist.2.1 6 = .ok (.goto 9, 3) := by decide +kernel
theorem dL_unlist_9 : decode mL_unlist.2.1 9 = .ok (.astore_n 3, 1) := by decide +kernel
theorem dL_unlist_10 : decode mL_unlist.2.1 10 = .ok (.iconst 1, 1) := by decide +kernel
theorem dL_unlist_11 : decode mL_unlist.2.1 11 = .ok (.ireturn, 1) := by decide +kernel
theorem dL_unlist_12 : decode mL_unlist.2.1 12 = .ok (.astore_n 3, 1) := by decide +kernel
theorem dL_unlist_13 : decode mL_unlist.2.1 13 = .ok (.iconst 2, 1) := by decide +kernel
theorem dL_unlist_14 : decode mL_unlist.2.1 14 = .ok (.ireturn, 1) := by decide +kernel
theorem dL_unlist_15 : decode mL_unlist.2.1 15 = .ok (.iconst 0, 1) := by decide +kernel
theorem dL_unlist_16 : decode mL_unlist.2.1 16 = .ok (.ireturn, 1) := by decide +kernel
theorem dL_answer_0 : decode mL_answer.2.1 0 = .ok (.aload 5, 2) := by decide +kernel
theorem dL_answer_2 : decode mL_answer.2.1 2 = .ok (.iconst 0, 1) := by decide +kernel
theorem dL_answer_3 : decode mL_answer.2.1 3 = .ok (.aload_n 0, 1) := by decide +kernel
theorem dL_answer_4 : decode mL_answer.2.1 4 = .ok (.iload_n 1, 1) := by decide +kernel
theorem dL_answer_5 : decode mL_answer.2.1 5 = .ok (.iload_n 2, 1) := by decide +kernel
theorem dL_answer_6 : decode mL_answer.2.1 6 = .ok (.iload_n 3, 1) := by decide +kernel
theorem dL_answer_7 : decode mL_answer.2.1 7 = .ok (.iload 4, 2) := by decide +kernel
theorem dL_answer_9 : decode mL_answer.2.1 9 = .ok (.invokevirtual 29, 3) := by decide +kernel
theorem dL_answer_12 : decode mL_answer.2.1 12 = .ok (.ifCond .eq 7, 3) := by decide +kernel
theorem dL_answer_15 : decode mL_answer.2.1 15 = .ok (.lconst 1, 1) := by decide +kernel
theorem dL_answer_16 : decode mL_answer.2.1 16 = .ok (.goto 4, 3) := by decide +kernel
theorem dL_answer_19 : decode mL_answer.2.1 19 = .ok (.lconst 0, 1) := by decide +kernel
theorem dL_answer_20 : decode mL_answer.2.1 20 = .ok (.lastore, 1) := by decide +kernel
theorem dL_answer_21 : decode mL_answer.2.1 21 = .ok (.goto 15, 3) := by decide +kernel
theorem dL_answer_24 : decode mL_answer.2.1 24 = .ok (.astore 6, 2) := by decide +kernel
theorem dL_answer_26 : decode mL_answer.2.1 26 = .ok (.iconst 1, 1) := by decide +kernel
theorem dL_answer_27 : decode mL_answer.2.1 27 = .ok (.ireturn, 1) := by decide +kernel
theorem dL_answer_28 : decode mL_answer.2.1 28 = .ok (.astore 6, 2) := by decide +kernel
theorem dL_answer_30 : decode mL_answer.2.1 30 = .ok (.iconst 2, 1) := by decide +kernel
theorem dL_answer_31 : decode mL_answer.2.1 31 = .ok (.ireturn, 1) := by decide +kernel
theorem dL_answer_32 : decode mL_answer.2.1 32 = .ok (.astore 6, 2) := by decide +kernel
theorem dL_answer_34 : decode mL_answer.2.1 34 = .ok (.iconst 3, 1) := by decide +kernel
theorem dL_answer_35 : decode mL_answer.2.1 35 = .ok (.ireturn, 1) := by decide +kernel
theorem dL_answer_36 : decode mL_answer.2.1 36 = .ok (.iconst 0, 1) := by decide +kernel
theorem dL_answer_37 : decode mL_answer.2.1 37 = .ok (.ireturn, 1) := by decide +kernel
theorem dL_item_0 : decode mL_item.2.1 0 = .ok (.aload 4, 2) := by decide +kernel
theorem dL_item_2 : decode mL_item.2.1 2 = .ok (.iconst 0, 1) := by decide +kernel
theorem dL_item_3 : decode mL_item.2.1 3 = .ok (.aload_n 0, 1) := by decide +kernel
theorem dL_item_4 : decode mL_item.2.1 4 = .ok (.iload_n 1, 1) := by decide +kernel
theorem dL_item_5 : decode mL_item.2.1 5 = .ok (.iload_n 2, 1) := by decide +kernel
theorem dL_item_6 : decode mL_item.2.1 6 = .ok (.iload_n 3, 1) := by decide +kernel
theorem dL_item_7 : decode mL_item.2.1 7 = .ok (.invokevirtual 33, 3) := by decide +kernel
theorem dL_item_10 : decode mL_item.2.1 10 = .ok (.i2l, 1) := by decide +kernel
theorem dL_item_11 : decode mL_item.2.1 11 = .ok (.lastore, 1) := by decide +kernel
theorem dL_item_12 : decode mL_item.2.1 12 = .ok (.goto 7, 3) := by decide +kernel
theorem dL_item_15 : decode mL_item.2.1 15 = .ok (.astore 5, 2) := by decide +kernel
theorem dL_item_17 : decode mL_item.2.1 17 = .ok (.iconst 1, 1) := by decide +kernel
theorem dL_item_18 : decode mL_item.2.1 18 = .ok (.ireturn, 1) := by decide +kernel
theorem dL_item_19 : decode mL_item.2.1 19 = .ok (.iconst 0, 1) := by decide +kernel
theorem dL_item_20 : decode mL_item.2.1 20 = .ok (.ireturn, 1) := by decide +kernel
theorem dL_use_0 : decode mL_use.2.1 0 = .ok (.aload_n 3, 1) := by decide +kernel
theorem dL_use_1 : decode mL_use.2.1 1 = .ok (.iconst 0, 1) := by decide +kernel
theorem dL_use_2 : decode mL_use.2.1 2 = .ok (.aload_n 0, 1) := by decide +kernel
theorem dL_use_3 : decode mL_use.2.1 3 = .ok (.iload_n 1, 1) := by decide +kernel
theorem dL_use_4 : decode mL_use.2.1 4 = .ok (.iload_n 2, 1) := by decide +kernel
theorem dL_use_5 : decode mL_use.2.1 5 = .ok (.invokevirtual 37, 3) := by decide +kernel
theorem dL_use_8 : decode mL_use.2.1 8 = .ok (.ifCond .eq 7, 3) := by decide +kernel
theorem dL_use_11 : decode mL_use.2.1 11 = .ok (.lconst 1, 1) := by decide +kernel
theorem dL_use_12 : decode mL_use.2.1 12 = .ok (.goto 4, 3) := by decide +kernel
theorem dL_use_15 : decode mL_use.2.1 15 = .ok (.lconst 0, 1) := by decide +kernel
theorem dL_use_16 : decode mL_use.2.1 16 = .ok (.lastore, 1) := by decide +kernel
theorem dL_use_17 : decode mL_use.2.1 17 = .ok (.goto 15, 3) := by decide +kernel
theorem dL_use_20 : decode mL_use.2.1 20 = .ok (.astore 4, 2) := by decide +kernel
theorem dL_use_22 : decode mL_use.2.1 22 = .ok (.iconst 1, 1) := by decide +kernel
theorem dL_use_23 : decode mL_use.2.1 23 = .ok (.ireturn, 1) := by decide +kernel
theorem dL_use_24 : decode mL_use.2.1 24 = .ok (.astore 4, 2) := by decide +kernel
theorem dL_use_26 : decode mL_use.2.1 26 = .ok (.iconst 2, 1) := by decide +kernel
theorem dL_use_27 : decode mL_use.2.1 27 = .ok (.ireturn, 1) := by decide +kernel
theorem dL_use_28 : decode mL_use.2.1 28 = .ok (.astore 4, 2) := by decide +kernel
theorem dL_use_30 : decode mL_use.2.1 30 = .ok (.iconst 3, 1) := by decide +kernel
theorem dL_use_31 : decode mL_use.2.1 31 = .ok (.ireturn, 1) := by decide +kernel
theorem dL_use_32 : decode mL_use.2.1 32 = .ok (.iconst 0, 1) := by decide +kernel
theorem dL_use_33 : decode mL_use.2.1 33 = .ok (.ireturn, 1) := by decide +kernel
theorem dL_runs_0 : decode mL_runs.2.1 0 = .ok (.aload_n 2, 1) := by decide +kernel
theorem dL_runs_1 : decode mL_runs.2.1 1 = .ok (.iconst 0, 1) := by decide +kernel
theorem dL_runs_2 : decode mL_runs.2.1 2 = .ok (.aload_n 0, 1) := by decide +kernel
theorem dL_runs_3 : decode mL_runs.2.1 3 = .ok (.iload_n 1, 1) := by decide +kernel
theorem dL_runs_4 : decode mL_runs.2.1 4 = .ok (.invokevirtual 41, 3) := by decide +kernel
theorem dL_runs_7 : decode mL_runs.2.1 7 = .ok (.ifCond .eq 7, 3) := by decide +kernel
theorem dL_runs_10 : decode mL_runs.2.1 10 = .ok (.lconst 1, 1) := by decide +kernel
theorem dL_runs_11 : decode mL_runs.2.1 11 = .ok (.goto 4, 3) := by decide +kernel
theorem dL_runs_14 : decode mL_runs.2.1 14 = .ok (.lconst 0, 1) := by decide +kernel
theorem dL_runs_15 : decode mL_runs.2.1 15 = .ok (.lastore, 1) := by decide +kernel
theorem dL_runs_16 : decode mL_runs.2.1 16 = .ok (.goto 6, 3) := by decide +kernel
theorem dL_runs_19 : decode mL_runs.2.1 19 = .ok (.astore_n 3, 1) := by decide +kernel
theorem dL_runs_20 : decode mL_runs.2.1 20 = .ok (.iconst 1, 1) := by decide +kernel
theorem dL_runs_21 : decode mL_runs.2.1 21 = .ok (.ireturn, 1) := by decide +kernel
theorem dL_runs_22 : decode mL_runs.2.1 22 = .ok (.iconst 0, 1) := by decide +kernel
theorem dL_runs_23 : decode mL_runs.2.1 23 = .ok (.ireturn, 1) := by decide +kernel
theorem dL_reason_0 : decode mL_reason.2.1 0 = .ok (.aload_n 3, 1) := by decide +kernel
theorem dL_reason_1 : decode mL_reason.2.1 1 = .ok (.iconst 0, 1) := by decide +kernel
theorem dL_reason_2 : decode mL_reason.2.1 2 = .ok (.aload_n 0, 1) := by decide +kernel
theorem dL_reason_3 : decode mL_reason.2.1 3 = .ok (.iload_n 1, 1) := by decide +kernel
theorem dL_reason_4 : decode mL_reason.2.1 4 = .ok (.iload_n 2, 1) := by decide +kernel
theorem dL_reason_5 : decode mL_reason.2.1 5 = .ok (.invokevirtual 45, 3) := by decide +kernel
theorem dL_reason_8 : decode mL_reason.2.1 8 = .ok (.i2l, 1) := by decide +kernel
theorem dL_reason_9 : decode mL_reason.2.1 9 = .ok (.lastore, 1) := by decide +kernel
theorem dL_reason_10 : decode mL_reason.2.1 10 = .ok (.goto 11, 3) := by decide +kernel
theorem dL_reason_13 : decode mL_reason.2.1 13 = .ok (.astore 4, 2) := by decide +kernel
theorem dL_reason_15 : decode mL_reason.2.1 15 = .ok (.iconst 1, 1) := by decide +kernel
theorem dL_reason_16 : decode mL_reason.2.1 16 = .ok (.ireturn, 1) := by decide +kernel
theorem dL_reason_17 : decode mL_reason.2.1 17 = .ok (.astore 4, 2) := by decide +kernel
theorem dL_reason_19 : decode mL_reason.2.1 19 = .ok (.iconst 2, 1) := by decide +kernel
theorem dL_reason_20 : decode mL_reason.2.1 20 = .ok (.ireturn, 1) := by decide +kernel
theorem dL_reason_21 : decode mL_reason.2.1 21 = .ok (.iconst 0, 1) := by decide +kernel
theorem dL_reason_22 : decode mL_reason.2.1 22 = .ok (.ireturn, 1) := by decide +kernel
theorem dL_off_0 : decode mL_off.2.1 0 = .ok (.aload_n 0, 1) := by decide +kernel
theorem dL_off_1 : decode mL_off.2.1 1 = .ok (.iload_n 1, 1) := by decide +kernel
theorem dL_off_2 : decode mL_off.2.1 2 = .ok (.iload_n 2, 1) := by decide +kernel
theorem dL_off_3 : decode mL_off.2.1 3 = .ok (.iload_n 3, 1) := by decide +kernel
theorem dL_off_4 : decode mL_off.2.1 4 = .ok (.iload 4, 2) := by decide +kernel
theorem dL_off_6 : decode mL_off.2.1 6 = .ok (.invokevirtual 49, 3) := by decide +kernel
theorem dL_off_9 : decode mL_off.2.1 9 = .ok (.goto 11, 3) := by decide +kernel
theorem dL_off_12 : decode mL_off.2.1 12 = .ok (.astore 5, 2) := by decide +kernel
theorem dL_off_14 : decode mL_off.2.1 14 = .ok (.iconst 1, 1) := by decide +kernel
theorem dL_off_15 : decode mL_off.2.1 15 = .ok (.ireturn, 1) := by decide +kernel
theorem dL_off_16 : decode mL_off.2.1 16 = .ok (.astore 5, 2) := by decide +kernel
theorem dL_off_18 : decode mL_off.2.1 18 = .ok (.iconst 2, 1) := by decide +kernel
theorem dL_off_19 : decode mL_off.2.1 19 = .ok (.ireturn, 1) := by decide +kernel
theorem dL_off_20 : decode mL_off.2.1 20 = .ok (.iconst 0, 1) := by decide +kernel
theorem dL_off_21 : decode mL_off.2.1 21 = .ok (.ireturn, 1) := by decide +kernel
theorem dL_damage_0 : decode mL_damage.2.1 0 = .ok (.aload_n 3, 1) := by decide +kernel
theorem dL_damage_1 : decode mL_damage.2.1 1 = .ok (.iconst 0, 1) := by decide +kernel
theorem dL_damage_2 : decode mL_damage.2.1 2 = .ok (.aload_n 0, 1) := by decide +kernel
theorem dL_damage_3 : decode mL_damage.2.1 3 = .ok (.iload_n 1, 1) := by decide +kernel
theorem dL_damage_4 : decode mL_damage.2.1 4 = .ok (.iload_n 2, 1) := by decide +kernel
theorem dL_damage_5 : decode mL_damage.2.1 5 = .ok (.invokevirtual 53, 3) := by decide +kernel
theorem dL_damage_8 : decode mL_damage.2.1 8 = .ok (.i2l, 1) := by decide +kernel
theorem dL_damage_9 : decode mL_damage.2.1 9 = .ok (.lastore, 1) := by decide +kernel
theorem dL_damage_10 : decode mL_damage.2.1 10 = .ok (.goto 15, 3) := by decide +kernel
theorem dL_damage_13 : decode mL_damage.2.1 13 = .ok (.astore 4, 2) := by decide +kernel
theorem dL_damage_15 : decode mL_damage.2.1 15 = .ok (.iconst 1, 1) := by decide +kernel
theorem dL_damage_16 : decode mL_damage.2.1 16 = .ok (.ireturn, 1) := by decide +kernel
theorem dL_damage_17 : decode mL_damage.2.1 17 = .ok (.astore 4, 2) := by decide +kernel
theorem dL_damage_19 : decode mL_damage.2.1 19 = .ok (.iconst 2, 1) := by decide +kernel
theorem dL_damage_20 : decode mL_damage.2.1 20 = .ok (.ireturn, 1) := by decide +kernel
theorem dL_damage_21 : decode mL_damage.2.1 21 = .ok (.astore 4, 2) := by decide +kernel
theorem dL_damage_23 : decode mL_damage.2.1 23 = .ok (.iconst 3, 1) := by decide +kernel
theorem dL_damage_24 : decode mL_damage.2.1 24 = .ok (.ireturn, 1) := by decide +kernel
theorem dL_damage_25 : decode mL_damage.2.1 25 = .ok (.iconst 0, 1) := by decide +kernel
theorem dL_damage_26 : decode mL_damage.2.1 26 = .ok (.ireturn, 1) := by decide +kernel
theorem dL_proof_0 : decode mL_proof.2.1 0 = .ok (.aload_n 0, 1) := by decide +kernel
theorem dL_proof_1 : decode mL_proof.2.1 1 = .ok (.iload_n 1, 1) := by decide +kernel
theorem dL_proof_2 : decode mL_proof.2.1 2 = .ok (.iload_n 2, 1) := by decide +kernel
theorem dL_proof_3 : decode mL_proof.2.1 3 = .ok (.invokevirtual 56, 3) := by decide +kernel
theorem dL_proof_6 : decode mL_proof.2.1 6 = .ok (.goto 12, 3) := by decide +kernel
theorem dL_proof_9 : decode mL_proof.2.1 9 = .ok (.astore_n 3, 1) := by decide +kernel
theorem dL_proof_10 : decode mL_proof.2.1 10 = .ok (.iconst 1, 1) := by decide +kernel
theorem dL_proof_11 : decode mL_proof.2.1 11 = .ok (.ireturn, 1) := by decide +kernel
theorem dL_proof_12 : decode mL_proof.2.1 12 = .ok (.astore_n 3, 1) := by decide +kernel
theorem dL_proof_13 : decode mL_proof.2.1 13 = .ok (.iconst 2, 1) := by decide +kernel
theorem dL_proof_14 : decode mL_proof.2.1 14 = .ok (.ireturn, 1) := by decide +kernel
theorem dL_proof_15 : decode mL_proof.2.1 15 = .ok (.astore_n 3, 1) := by decide +kernel
theorem dL_proof_16 : decode mL_proof.2.1 16 = .ok (.iconst 3, 1) := by decide +kernel
theorem dL_proof_17 : decode mL_proof.2.1 17 = .ok (.ireturn, 1) := by decide +kernel
theorem dL_proof_18 : decode mL_proof.2.1 18 = .ok (.iconst 0, 1) := by decide +kernel
theorem dL_proof_19 : decode mL_proof.2.1 19 = .ok (.ireturn, 1) := by decide +kernel
theorem dL_need_0 : decode mL_need.2.1 0 = .ok (.aload_n 0, 1) := by decide +kernel
theorem dL_need_1 : decode mL_need.2.1 1 = .ok (.iload_n 1, 1) := by decide +kernel
theorem dL_need_2 : decode mL_need.2.1 2 = .ok (.iload_n 2, 1) := by decide +kernel
theorem dL_need_3 : decode mL_need.2.1 3 = .ok (.iload_n 3, 1) := by decide +kernel
theorem dL_need_4 : decode mL_need.2.1 4 = .ok (.invokevirtual 59, 3) := by decide +kernel
theorem dL_need_7 : decode mL_need.2.1 7 = .ok (.goto 11, 3) := by decide +kernel
theorem dL_need_10 : decode mL_need.2.1 10 = .ok (.astore 4, 2) := by decide +kernel
theorem dL_need_12 : decode mL_need.2.1 12 = .ok (.iconst 1, 1) := by decide +kernel
theorem dL_need_13 : decode mL_need.2.1 13 = .ok (.ireturn, 1) := by decide +kernel
theorem dL_need_14 : decode mL_need.2.1 14 = .ok (.astore 4, 2) := by decide +kernel
theorem dL_need_16 : decode mL_need.2.1 16 = .ok (.iconst 2, 1) := by decide +kernel
theorem dL_need_17 : decode mL_need.2.1 17 = .ok (.ireturn, 1) := by decide +kernel
theorem dL_need_18 : decode mL_need.2.1 18 = .ok (.iconst 0, 1) := by decide +kernel
theorem dL_need_19 : decode mL_need.2.1 19 = .ok (.ireturn, 1) := by decide +kernel
theorem dL_put_0 : decode mL_put.2.1 0 = .ok (.aload 4, 2) := by decide +kernel
theorem dL_put_2 : decode mL_put.2.1 2 = .ok (.iconst 0, 1) := by decide +kernel
theorem dL_put_3 : decode mL_put.2.1 3 = .ok (.aload_n 0, 1) := by decide +kernel
theorem dL_put_4 : decode mL_put.2.1 4 = .ok (.iload_n 1, 1) := by decide +kernel
theorem dL_put_5 : decode mL_put.2.1 5 = .ok (.iload_n 2, 1) := by decide +kernel
theorem dL_put_6 : decode mL_put.2.1 6 = .ok (.iload_n 3, 1) := by decide +kernel
theorem dL_put_7 : decode mL_put.2.1 7 = .ok (.invokevirtual 63, 3) := by decide +kernel
theorem dL_put_10 : decode mL_put.2.1 10 = .ok (.i2l, 1) := by decide +kernel
theorem dL_put_11 : decode mL_put.2.1 11 = .ok (.lastore, 1) := by decide +kernel
theorem dL_put_12 : decode mL_put.2.1 12 = .ok (.goto 15, 3) := by decide +kernel
theorem dL_put_15 : decode mL_put.2.1 15 = .ok (.astore 5, 2) := by decide +kernel
theorem dL_put_17 : decode mL_put.2.1 17 = .ok (.iconst 1, 1) := by decide +kernel
theorem dL_put_18 : decode mL_put.2.1 18 = .ok (.ireturn, 1) := by decide +kernel
theorem dL_put_19 : decode mL_put.2.1 19 = .ok (.astore 5, 2) := by decide +kernel
theorem dL_put_21 : decode mL_put.2.1 21 = .ok (.iconst 2, 1) := by decide +kernel
theorem dL_put_22 : decode mL_put.2.1 22 = .ok (.ireturn, 1) := by decide +kernel
theorem dL_put_23 : decode mL_put.2.1 23 = .ok (.astore 5, 2) := by decide +kernel
theorem dL_put_25 : decode mL_put.2.1 25 = .ok (.iconst 3, 1) := by decide +kernel
theorem dL_put_26 : decode mL_put.2.1 26 = .ok (.ireturn, 1) := by decide +kernel
theorem dL_put_27 : decode mL_put.2.1 27 = .ok (.iconst 0, 1) := by decide +kernel
theorem dL_put_28 : decode mL_put.2.1 28 = .ok (.ireturn, 1) := by decide +kernel
theorem dL_swap_0 : decode mL_swap.2.1 0 = .ok (.aload 4, 2) := by decide +kernel
theorem dL_swap_2 : decode mL_swap.2.1 2 = .ok (.iconst 0, 1) := by decide +kernel
theorem dL_swap_3 : decode mL_swap.2.1 3 = .ok (.aload_n 0, 1) := by decide +kernel
theorem dL_swap_4 : decode mL_swap.2.1 4 = .ok (.iload_n 1, 1) := by decide +kernel
theorem dL_swap_5 : decode mL_swap.2.1 5 = .ok (.iload_n 2, 1) := by decide +kernel
theorem dL_swap_6 : decode mL_swap.2.1 6 = .ok (.iload_n 3, 1) := by decide +kernel
theorem dL_swap_7 : decode mL_swap.2.1 7 = .ok (.invokevirtual 66, 3) := by decide +kernel
theorem dL_swap_10 : decode mL_swap.2.1 10 = .ok (.i2l, 1) := by decide +kernel
theorem dL_swap_11 : decode mL_swap.2.1 11 = .ok (.lastore, 1) := by decide +kernel
theorem dL_swap_12 : decode mL_swap.2.1 12 = .ok (.goto 11, 3) := by decide +kernel
theorem dL_swap_15 : decode mL_swap.2.1 15 = .ok (.astore 5, 2) := by decide +kernel
theorem dL_swap_17 : decode mL_swap.2.1 17 = .ok (.iconst 1, 1) := by decide +kernel
theorem dL_swap_18 : decode mL_swap.2.1 18 = .ok (.ireturn, 1) := by decide +kernel
theorem dL_swap_19 : decode mL_swap.2.1 19 = .ok (.astore 5, 2) := by decide +kernel
theorem dL_swap_21 : decode mL_swap.2.1 21 = .ok (.iconst 2, 1) := by decide +kernel
theorem dL_swap_22 : decode mL_swap.2.1 22 = .ok (.ireturn, 1) := by decide +kernel
theorem dL_swap_23 : decode mL_swap.2.1 23 = .ok (.iconst 0, 1) := by decide +kernel
theorem dL_swap_24 : decode mL_swap.2.1 24 = .ok (.ireturn, 1) := by decide +kernel
theorem dL_spare_0 : decode mL_spare.2.1 0 = .ok (.aload_n 2, 1) := by decide +kernel
theorem dL_spare_1 : decode mL_spare.2.1 1 = .ok (.iconst 0, 1) := by decide +kernel
theorem dL_spare_2 : decode mL_spare.2.1 2 = .ok (.aload_n 0, 1) := by decide +kernel
theorem dL_spare_3 : decode mL_spare.2.1 3 = .ok (.iload_n 1, 1) := by decide +kernel
theorem dL_spare_4 : decode mL_spare.2.1 4 = .ok (.invokevirtual 69, 3) := by decide +kernel
theorem dL_spare_7 : decode mL_spare.2.1 7 = .ok (.i2l, 1) := by decide +kernel
theorem dL_spare_8 : decode mL_spare.2.1 8 = .ok (.lastore, 1) := by decide +kernel
theorem dL_spare_9 : decode mL_spare.2.1 9 = .ok (.goto 6, 3) := by decide +kernel
theorem dL_spare_12 : decode mL_spare.2.1 12 = .ok (.astore_n 3, 1) := by decide +kernel
theorem dL_spare_13 : decode mL_spare.2.1 13 = .ok (.iconst 1, 1) := by decide +kernel
theorem dL_spare_14 : decode mL_spare.2.1 14 = .ok (.ireturn, 1) := by decide +kernel
theorem dL_spare_15 : decode mL_spare.2.1 15 = .ok (.iconst 0, 1) := by decide +kernel
theorem dL_spare_16 : decode mL_spare.2.1 16 = .ok (.ireturn, 1) := by decide +kernel
theorem dL_fuel_0 : decode mL_fuel.2.1 0 = .ok (.aload_n 3, 1) := by decide +kernel
theorem dL_fuel_1 : decode mL_fuel.2.1 1 = .ok (.iconst 0, 1) := by decide +kernel
theorem dL_fuel_2 : decode mL_fuel.2.1 2 = .ok (.aload_n 0, 1) := by decide +kernel
theorem dL_fuel_3 : decode mL_fuel.2.1 3 = .ok (.iload_n 1, 1) := by decide +kernel
theorem dL_fuel_4 : decode mL_fuel.2.1 4 = .ok (.iload_n 2, 1) := by decide +kernel
theorem dL_fuel_5 : decode mL_fuel.2.1 5 = .ok (.invokevirtual 73, 3) := by decide +kernel
theorem dL_fuel_8 : decode mL_fuel.2.1 8 = .ok (.i2l, 1) := by decide +kernel
theorem dL_fuel_9 : decode mL_fuel.2.1 9 = .ok (.lastore, 1) := by decide +kernel
theorem dL_fuel_10 : decode mL_fuel.2.1 10 = .ok (.goto 15, 3) := by decide +kernel
theorem dL_fuel_13 : decode mL_fuel.2.1 13 = .ok (.astore 4, 2) := by decide +kernel
theorem dL_fuel_15 : decode mL_fuel.2.1 15 = .ok (.iconst 1, 1) := by decide +kernel
theorem dL_fuel_16 : decode mL_fuel.2.1 16 = .ok (.ireturn, 1) := by decide +kernel
theorem dL_fuel_17 : decode mL_fuel.2.1 17 = .ok (.astore 4, 2) := by decide +kernel
theorem dL_fuel_19 : decode mL_fuel.2.1 19 = .ok (.iconst 2, 1) := by decide +kernel
theorem dL_fuel_20 : decode mL_fuel.2.1 20 = .ok (.ireturn, 1) := by decide +kernel
theorem dL_fuel_21 : decode mL_fuel.2.1 21 = .ok (.astore 4, 2) := by decide +kernel
theorem dL_fuel_23 : decode mL_fuel.2.1 23 = .ok (.iconst 3, 1) := by decide +kernel
theorem dL_fuel_24 : decode mL_fuel.2.1 24 = .ok (.ireturn, 1) := by decide +kernel
theorem dL_fuel_25 : decode mL_fuel.2.1 25 = .ok (.iconst 0, 1) := by decide +kernel
theorem dL_fuel_26 : decode mL_fuel.2.1 26 = .ok (.ireturn, 1) := by decide +kernel
theorem dL_using_0 : decode mL_using.2.1 0 = .ok (.aload_n 3, 1) := by decide +kernel
theorem dL_using_1 : decode mL_using.2.1 1 = .ok (.iconst 0, 1) := by decide +kernel
theorem dL_using_2 : decode mL_using.2.1 2 = .ok (.aload_n 0, 1) := by decide +kernel
theorem dL_using_3 : decode mL_using.2.1 3 = .ok (.iload_n 1, 1) := by decide +kernel
theorem dL_using_4 : decode mL_using.2.1 4 = .ok (.iload_n 2, 1) := by decide +kernel
theorem dL_using_5 : decode mL_using.2.1 5 = .ok (.invokevirtual 76, 3) := by decide +kernel
theorem dL_using_8 : decode mL_using.2.1 8 = .ok (.lastore, 1) := by decide +kernel
theorem dL_using_9 : decode mL_using.2.1 9 = .ok (.goto 11, 3) := by decide +kernel
theorem dL_using_12 : decode mL_using.2.1 12 = .ok (.astore 4, 2) := by decide +kernel
theorem dL_using_14 : decode mL_using.2.1 14 = .ok (.iconst 1, 1) := by decide +kernel
theorem dL_using_15 : decode mL_using.2.1 15 = .ok (.ireturn, 1) := by decide +kernel
theorem dL_using_16 : decode mL_using.2.1 16 = .ok (.astore 4, 2) := by decide +kernel
theorem dL_using_18 : decode mL_using.2.1 18 = .ok (.iconst 2, 1) := by decide +kernel
theorem dL_using_19 : decode mL_using.2.1 19 = .ok (.ireturn, 1) := by decide +kernel
theorem dL_using_20 : decode mL_using.2.1 20 = .ok (.iconst 0, 1) := by decide +kernel
theorem dL_using_21 : decode mL_using.2.1 21 = .ok (.ireturn, 1) := by decide +kernel
theorem dL_key_0 : decode mL_key.2.1 0 = .ok (.aload_n 3, 1) := by decide +kernel
theorem dL_key_1 : decode mL_key.2.1 1 = .ok (.iconst 0, 1) := by decide +kernel
theorem dL_key_2 : decode mL_key.2.1 2 = .ok (.aload_n 0, 1) := by decide +kernel
theorem dL_key_3 : decode mL_key.2.1 3 = .ok (.iload_n 1, 1) := by decide +kernel
theorem dL_key_4 : decode mL_key.2.1 4 = .ok (.iload_n 2, 1) := by decide +kernel
theorem dL_key_5 : decode mL_key.2.1 5 = .ok (.invokevirtual 80, 3) := by decide +kernel
theorem dL_key_8 : decode mL_key.2.1 8 = .ok (.i2l, 1) := by decide +kernel
theorem dL_key_9 : decode mL_key.2.1 9 = .ok (.lastore, 1) := by decide +kernel
theorem dL_key_10 : decode mL_key.2.1 10 = .ok (.goto 11, 3) := by decide +kernel
theorem dL_key_13 : decode mL_key.2.1 13 = .ok (.astore 4, 2) := by decide +kernel
theorem dL_key_15 : decode mL_key.2.1 15 = .ok (.iconst 1, 1) := by decide +kernel
theorem dL_key_16 : decode mL_key.2.1 16 = .ok (.ireturn, 1) := by decide +kernel
theorem dL_key_17 : decode mL_key.2.1 17 = .ok (.astore 4, 2) := by decide +kernel
theorem dL_key_19 : decode mL_key.2.1 19 = .ok (.iconst 2, 1) := by decide +kernel
theorem dL_key_20 : decode mL_key.2.1 20 = .ok (.ireturn, 1) := by decide +kernel
theorem dL_key_21 : decode mL_key.2.1 21 = .ok (.iconst 0, 1) := by decide +kernel
theorem dL_key_22 : decode mL_key.2.1 22 = .ok (.ireturn, 1) := by decide +kernel
theorem dL_cost_0 : decode mL_cost.2.1 0 = .ok (.aload_n 3, 1) := by decide +kernel
theorem dL_cost_1 : decode mL_cost.2.1 1 = .ok (.iconst 0, 1) := by decide +kernel
theorem dL_cost_2 : decode mL_cost.2.1 2 = .ok (.aload_n 0, 1) := by decide +kernel
theorem dL_cost_3 : decode mL_cost.2.1 3 = .ok (.iload_n 1, 1) := by decide +kernel
theorem dL_cost_4 : decode mL_cost.2.1 4 = .ok (.iload_n 2, 1) := by decide +kernel
theorem dL_cost_5 : decode mL_cost.2.1 5 = .ok (.invokevirtual 83, 3) := by decide +kernel
theorem dL_cost_8 : decode mL_cost.2.1 8 = .ok (.i2l, 1) := by decide +kernel
theorem dL_cost_9 : decode mL_cost.2.1 9 = .ok (.lastore, 1) := by decide +kernel
theorem dL_cost_10 : decode mL_cost.2.1 10 = .ok (.goto 15, 3) := by decide +kernel
theorem dL_cost_13 : decode mL_cost.2.1 13 = .ok (.astore 4, 2) := by decide +kernel
theorem dL_cost_15 : decode mL_cost.2.1 15 = .ok (.iconst 1, 1) := by decide +kernel
theorem dL_cost_16 : decode mL_cost.2.1 16 = .ok (.ireturn, 1) := by decide +kernel
theorem dL_cost_17 : decode mL_cost.2.1 17 = .ok (.astore 4, 2) := by decide +kernel
theorem dL_cost_19 : decode mL_cost.2.1 19 = .ok (.iconst 2, 1) := by decide +kernel
theorem dL_cost_20 : decode mL_cost.2.1 20 = .ok (.ireturn, 1) := by decide +kernel
theorem dL_cost_21 : decode mL_cost.2.1 21 = .ok (.astore 4, 2) := by decide +kernel
theorem dL_cost_23 : decode mL_cost.2.1 23 = .ok (.iconst 3, 1) := by decide +kernel
theorem dL_cost_24 : decode mL_cost.2.1 24 = .ok (.ireturn, 1) := by decide +kernel
theorem dL_cost_25 : decode mL_cost.2.1 25 = .ok (.iconst 0, 1) := by decide +kernel
theorem dL_cost_26 : decode mL_cost.2.1 26 = .ok (.ireturn, 1) := by decide +kernel
theorem dL_skipped_0 : decode mL_skipped.2.1 0 = .ok (.aload_n 2, 1) := by decide +kernel
theorem dL_skipped_1 : decode mL_skipped.2.1 1 = .ok (.iconst 0, 1) := by decide +kernel
theorem dL_skipped_2 : decode mL_skipped.2.1 2 = .ok (.aload_n 0, 1) := by decide +kernel
theorem dL_skipped_3 : decode mL_skipped.2.1 3 = .ok (.iload_n 1, 1) := by decide +kernel
theorem dL_skipped_4 : decode mL_skipped.2.1 4 = .ok (.invokevirtual 86, 3) := by decide +kernel
theorem dL_skipped_7 : decode mL_skipped.2.1 7 = .ok (.i2l, 1) := by decide +kernel
theorem dL_skipped_8 : decode mL_skipped.2.1 8 = .ok (.lastore, 1) := by decide +kernel
theorem dL_skipped_9 : decode mL_skipped.2.1 9 = .ok (.goto 6, 3) := by decide +kernel
theorem dL_skipped_12 : decode mL_skipped.2.1 12 = .ok (.astore_n 3, 1) := by decide +kernel
theorem dL_skipped_13 : decode mL_skipped.2.1 13 = .ok (.iconst 1, 1) := by decide +kernel
theorem dL_skipped_14 : decode mL_skipped.2.1 14 = .ok (.ireturn, 1) := by decide +kernel
theorem dL_skipped_15 : decode mL_skipped.2.1 15 = .ok (.iconst 0, 1) := by decide +kernel
theorem dL_skipped_16 : decode mL_skipped.2.1 16 = .ok (.ireturn, 1) := by decide +kernel
theorem dL_tick_0 : decode mL_tick.2.1 0 = .ok (.aload_n 2, 1) := by decide +kernel
theorem dL_tick_1 : decode mL_tick.2.1 1 = .ok (.iconst 0, 1) := by decide +kernel
theorem dL_tick_2 : decode mL_tick.2.1 2 = .ok (.aload_n 0, 1) := by decide +kernel
theorem dL_tick_3 : decode mL_tick.2.1 3 = .ok (.iload_n 1, 1) := by decide +kernel
theorem dL_tick_4 : decode mL_tick.2.1 4 = .ok (.invokevirtual 89, 3) := by decide +kernel
theorem dL_tick_7 : decode mL_tick.2.1 7 = .ok (.i2l, 1) := by decide +kernel
theorem dL_tick_8 : decode mL_tick.2.1 8 = .ok (.lastore, 1) := by decide +kernel
theorem dL_tick_9 : decode mL_tick.2.1 9 = .ok (.goto 6, 3) := by decide +kernel
theorem dL_tick_12 : decode mL_tick.2.1 12 = .ok (.astore_n 3, 1) := by decide +kernel
theorem dL_tick_13 : decode mL_tick.2.1 13 = .ok (.iconst 1, 1) := by decide +kernel
theorem dL_tick_14 : decode mL_tick.2.1 14 = .ok (.ireturn, 1) := by decide +kernel
theorem dL_tick_15 : decode mL_tick.2.1 15 = .ok (.iconst 0, 1) := by decide +kernel
theorem dL_tick_16 : decode mL_tick.2.1 16 = .ok (.ireturn, 1) := by decide +kernel
theorem dL_vehicleAt_0 : decode mL_vehicleAt.2.1 0 = .ok (.aload_n 3, 1) := by decide +kernel
theorem dL_vehicleAt_1 : decode mL_vehicleAt.2.1 1 = .ok (.iconst 0, 1) := by decide +kernel
theorem dL_vehicleAt_2 : decode mL_vehicleAt.2.1 2 = .ok (.aload_n 0, 1) := by decide +kernel
theorem dL_vehicleAt_3 : decode mL_vehicleAt.2.1 3 = .ok (.iload_n 1, 1) := by decide +kernel
theorem dL_vehicleAt_4 : decode mL_vehicleAt.2.1 4 = .ok (.iload_n 2, 1) := by decide +kernel
theorem dL_vehicleAt_5 : decode mL_vehicleAt.2.1 5 = .ok (.invokevirtual 92, 3) := by decide +kernel
theorem dL_vehicleAt_8 : decode mL_vehicleAt.2.1 8 = .ok (.i2l, 1) := by decide +kernel
theorem dL_vehicleAt_9 : decode mL_vehicleAt.2.1 9 = .ok (.lastore, 1) := by decide +kernel
theorem dL_vehicleAt_10 : decode mL_vehicleAt.2.1 10 = .ok (.goto 7, 3) := by decide +kernel
theorem dL_vehicleAt_13 : decode mL_vehicleAt.2.1 13 = .ok (.astore 4, 2) := by decide +kernel
theorem dL_vehicleAt_15 : decode mL_vehicleAt.2.1 15 = .ok (.iconst 1, 1) := by decide +kernel
theorem dL_vehicleAt_16 : decode mL_vehicleAt.2.1 16 = .ok (.ireturn, 1) := by decide +kernel
theorem dL_vehicleAt_17 : decode mL_vehicleAt.2.1 17 = .ok (.iconst 0, 1) := by decide +kernel
theorem dL_vehicleAt_18 : decode mL_vehicleAt.2.1 18 = .ok (.ireturn, 1) := by decide +kernel
end
section
theorem dL_law_0 : decode mL_law.2.1 0 = .ok (.new 8, 3) := by decide +kernel
theorem dL_law_3 : decode mL_law.2.1 3 = .ok (.dup, 1) := by decide +kernel
theorem dL_law_4 : decode mL_law.2.1 4 = .ok (.invokespecial 95, 3) := by decide +kernel
theorem dL_law_7 : decode mL_law.2.1 7 = .ok (.astore_n 1, 1) := by decide +kernel
theorem dL_law_8 : decode mL_law.2.1 8 = .ok (.new 96, 3) := by decide +kernel
theorem dL_law_11 : decode mL_law.2.1 11 = .ok (.dup, 1) := by decide +kernel
theorem dL_law_12 : decode mL_law.2.1 12 = .ok (.invokespecial 98, 3) := by decide +kernel
theorem dL_law_15 : decode mL_law.2.1 15 = .ok (.astore_n 2, 1) := by decide +kernel
theorem dL_law_16 : decode mL_law.2.1 16 = .ok (.iconst 1, 1) := by decide +kernel
theorem dL_law_17 : decode mL_law.2.1 17 = .ok (.newarray .long, 2) := by decide +kernel
theorem dL_law_19 : decode mL_law.2.1 19 = .ok (.astore_n 3, 1) := by decide +kernel
theorem dL_law_20 : decode mL_law.2.1 20 = .ok (.iconst 0, 1) := by decide +kernel
theorem dL_law_21 : decode mL_law.2.1 21 = .ok (.istore 4, 2) := by decide +kernel
theorem dL_law_23 : decode mL_law.2.1 23 = .ok (.iload 4, 2) := by decide +kernel
theorem dL_law_25 : decode mL_law.2.1 25 = .ok (.aload_n 0, 1) := by decide +kernel
theorem dL_law_26 : decode mL_law.2.1 26 = .ok (.arraylength, 1) := by decide +kernel
theorem dL_law_27 : decode mL_law.2.1 27 = .ok (.bipush 7, 2) := by decide +kernel
theorem dL_law_29 : decode mL_law.2.1 29 = .ok (.isub, 1) := by decide +kernel
theorem dL_law_30 : decode mL_law.2.1 30 = .ok (.if_icmp .gt 1666, 3) := by decide +kernel
theorem dL_law_33 : decode mL_law.2.1 33 = .ok (.aload_n 0, 1) := by decide +kernel
theorem dL_law_34 : decode mL_law.2.1 34 = .ok (.iload 4, 2) := by decide +kernel
theorem dL_law_36 : decode mL_law.2.1 36 = .ok (.iaload, 1) := by decide +kernel
theorem dL_law_37 : decode mL_law.2.1 37 = .ok (.bipush 31, 2) := by decide +kernel
theorem dL_law_39 : decode mL_law.2.1 39 = .ok (.iand, 1) := by decide +kernel
theorem dL_law_40 : decode mL_law.2.1 40 = .ok (.tableswitch 1650 0 21 #[104, 188, 286, 334, 433, 513, 588, 651, 719, 807, 875, 923, 983, 1063, 1143, 1199, 1267, 1334, 1402, 1470, 1526, 1582], 104) := by decide +kernel
theorem dL_law_144 : decode mL_law.2.1 144 = .ok (.aload_n 1, 1) := by decide +kernel
theorem dL_law_145 : decode mL_law.2.1 145 = .ok (.aload_n 0, 1) := by decide +kernel
theorem dL_law_146 : decode mL_law.2.1 146 = .ok (.iload 4, 2) := by decide +kernel
theorem dL_law_148 : decode mL_law.2.1 148 = .ok (.iconst 1, 1) := by decide +kernel
theorem dL_law_149 : decode mL_law.2.1 149 = .ok (.iadd, 1) := by decide +kernel
theorem dL_law_150 : decode mL_law.2.1 150 = .ok (.iaload, 1) := by decide +kernel
theorem dL_law_151 : decode mL_law.2.1 151 = .ok (.aload_n 0, 1) := by decide +kernel
theorem dL_law_152 : decode mL_law.2.1 152 = .ok (.iload 4, 2) := by decide +kernel
theorem dL_law_154 : decode mL_law.2.1 154 = .ok (.iconst 2, 1) := by decide +kernel
theorem dL_law_155 : decode mL_law.2.1 155 = .ok (.iadd, 1) := by decide +kernel
theorem dL_law_156 : decode mL_law.2.1 156 = .ok (.iaload, 1) := by decide +kernel
theorem dL_law_157 : decode mL_law.2.1 157 = .ok (.ifCond .eq 7, 3) := by decide +kernel
theorem dL_law_160 : decode mL_law.2.1 160 = .ok (.iconst 1, 1) := by decide +kernel
theorem dL_law_161 : decode mL_law.2.1 161 = .ok (.goto 4, 3) := by decide +kernel
theorem dL_law_164 : decode mL_law.2.1 164 = .ok (.iconst 0, 1) := by decide +kernel
theorem dL_law_165 : decode mL_law.2.1 165 = .ok (.aload_n 3, 1) := by decide +kernel
theorem dL_law_166 : decode mL_law.2.1 166 = .ok (.invokestatic 99, 3) := by decide +kernel
theorem dL_law_169 : decode mL_law.2.1 169 = .ok (.istore 5, 2) := by decide +kernel
theorem dL_law_171 : decode mL_law.2.1 171 = .ok (.aload_n 2, 1) := by decide +kernel
theorem dL_law_172 : decode mL_law.2.1 172 = .ok (.aload_n 0, 1) := by decide +kernel
theorem dL_law_173 : decode mL_law.2.1 173 = .ok (.iload 4, 2) := by decide +kernel
theorem dL_law_175 : decode mL_law.2.1 175 = .ok (.iconst 1, 1) := by decide +kernel
theorem dL_law_176 : decode mL_law.2.1 176 = .ok (.iadd, 1) := by decide +kernel
theorem dL_law_177 : decode mL_law.2.1 177 = .ok (.iaload, 1) := by decide +kernel
theorem dL_law_178 : decode mL_law.2.1 178 = .ok (.aload_n 0, 1) := by decide +kernel
theorem dL_law_179 : decode mL_law.2.1 179 = .ok (.iload 4, 2) := by decide +kernel
theorem dL_law_181 : decode mL_law.2.1 181 = .ok (.iconst 2, 1) := by decide +kernel
theorem dL_law_182 : decode mL_law.2.1 182 = .ok (.iadd, 1) := by decide +kernel
theorem dL_law_183 : decode mL_law.2.1 183 = .ok (.iaload, 1) := by decide +kernel
theorem dL_law_184 : decode mL_law.2.1 184 = .ok (.ifCond .eq 7, 3) := by decide +kernel
theorem dL_law_187 : decode mL_law.2.1 187 = .ok (.iconst 1, 1) := by decide +kernel
theorem dL_law_188 : decode mL_law.2.1 188 = .ok (.goto 4, 3) := by decide +kernel
theorem dL_law_191 : decode mL_law.2.1 191 = .ok (.iconst 0, 1) := by decide +kernel
theorem dL_law_192 : decode mL_law.2.1 192 = .ok (.invokevirtual 104, 3) := by decide +kernel
theorem dL_law_195 : decode mL_law.2.1 195 = .ok (.istore 6, 2) := by decide +kernel
theorem dL_law_197 : decode mL_law.2.1 197 = .ok (.aload_n 2, 1) := by decide +kernel
theorem dL_law_198 : decode mL_law.2.1 198 = .ok (.invokevirtual 105, 3) := by decide +kernel
theorem dL_law_201 : decode mL_law.2.1 201 = .ok (.iload 5, 2) := by decide +kernel
theorem dL_law_203 : decode mL_law.2.1 203 = .ok (.if_icmp .eq 5, 3) := by decide +kernel
theorem dL_law_206 : decode mL_law.2.1 206 = .ok (.iconst 0, 1) := by decide +kernel
theorem dL_law_207 : decode mL_law.2.1 207 = .ok (.ireturn, 1) := by decide +kernel
theorem dL_law_208 : decode mL_law.2.1 208 = .ok (.iload 5, 2) := by decide +kernel
theorem dL_law_210 : decode mL_law.2.1 210 = .ok (.ifCond .ne 15, 3) := by decide +kernel
theorem dL_law_213 : decode mL_law.2.1 213 = .ok (.aload_n 3, 1) := by decide +kernel
theorem dL_law_214 : decode mL_law.2.1 214 = .ok (.iconst 0, 1) := by decide +kernel
theorem dL_law_215 : decode mL_law.2.1 215 = .ok (.laload, 1) := by decide +kernel
theorem dL_law_216 : decode mL_law.2.1 216 = .ok (.iload 6, 2) := by decide +kernel
theorem dL_law_218 : decode mL_law.2.1 218 = .ok (.i2l, 1) := by decide +kernel
theorem dL_law_219 : decode mL_law.2.1 219 = .ok (.lcmp, 1) := by decide +kernel
theorem dL_law_220 : decode mL_law.2.1 220 = .ok (.ifCond .eq 5, 3) := by decide +kernel
theorem dL_law_223 : decode mL_law.2.1 223 = .ok (.iconst 0, 1) := by decide +kernel
theorem dL_law_224 : decode mL_law.2.1 224 = .ok (.ireturn, 1) := by decide +kernel
theorem dL_law_225 : decode mL_law.2.1 225 = .ok (.goto 1465, 3) := by decide +kernel
theorem dL_law_228 : decode mL_law.2.1 228 = .ok (.aload_n 1, 1) := by decide +kernel
theorem dL_law_229 : decode mL_law.2.1 229 = .ok (.aload_n 0, 1) := by decide +kernel
theorem dL_law_230 : decode mL_law.2.1 230 = .ok (.iload 4, 2) := by decide +kernel
theorem dL_law_232 : decode mL_law.2.1 232 = .ok (.iconst 1, 1) := by decide +kernel
theorem dL_law_233 : decode mL_law.2.1 233 = .ok (.iadd, 1) := by decide +kernel
theorem dL_law_234 : decode mL_law.2.1 234 = .ok (.iaload, 1) := by decide +kernel
theorem dL_law_235 : decode mL_law.2.1 235 = .ok (.aload_n 0, 1) := by decide +kernel
theorem dL_law_236 : decode mL_law.2.1 236 = .ok (.iload 4, 2) := by decide +kernel
theorem dL_law_238 : decode mL_law.2.1 238 = .ok (.iconst 2, 1) := by decide +kernel
theorem dL_law_239 : decode mL_law.2.1 239 = .ok (.iadd, 1) := by decide +kernel
theorem dL_law_240 : decode mL_law.2.1 240 = .ok (.iaload, 1) := by decide +kernel
theorem dL_law_241 : decode mL_law.2.1 241 = .ok (.aload_n 0, 1) := by decide +kernel
theorem dL_law_242 : decode mL_law.2.1 242 = .ok (.iload 4, 2) := by decide +kernel
theorem dL_law_244 : decode mL_law.2.1 244 = .ok (.iconst 3, 1) := by decide +kernel
theorem dL_law_245 : decode mL_law.2.1 245 = .ok (.iadd, 1) := by decide +kernel
theorem dL_law_246 : decode mL_law.2.1 246 = .ok (.iaload, 1) := by decide +kernel
theorem dL_law_247 : decode mL_law.2.1 247 = .ok (.aload_n 0, 1) := by decide +kernel
theorem dL_law_248 : decode mL_law.2.1 248 = .ok (.iload 4, 2) := by decide +kernel
theorem dL_law_250 : decode mL_law.2.1 250 = .ok (.iconst 4, 1) := by decide +kernel
theorem dL_law_251 : decode mL_law.2.1 251 = .ok (.iadd, 1) := by decide +kernel
theorem dL_law_252 : decode mL_law.2.1 252 = .ok (.iaload, 1) := by decide +kernel
theorem dL_law_253 : decode mL_law.2.1 253 = .ok (.aload_n 0, 1) := by decide +kernel
theorem dL_law_254 : decode mL_law.2.1 254 = .ok (.iload 4, 2) := by decide +kernel
theorem dL_law_256 : decode mL_law.2.1 256 = .ok (.iconst 5, 1) := by decide +kernel
theorem dL_law_257 : decode mL_law.2.1 257 = .ok (.iadd, 1) := by decide +kernel
theorem dL_law_258 : decode mL_law.2.1 258 = .ok (.iaload, 1) := by decide +kernel
theorem dL_law_259 : decode mL_law.2.1 259 = .ok (.aload_n 0, 1) := by decide +kernel
theorem dL_law_260 : decode mL_law.2.1 260 = .ok (.iload 4, 2) := by decide +kernel
theorem dL_law_262 : decode mL_law.2.1 262 = .ok (.bipush 6, 2) := by decide +kernel
theorem dL_law_264 : decode mL_law.2.1 264 = .ok (.iadd, 1) := by decide +kernel
theorem dL_law_265 : decode mL_law.2.1 265 = .ok (.iaload, 1) := by decide +kernel
theorem dL_law_266 : decode mL_law.2.1 266 = .ok (.invokestatic 109, 3) := by decide +kernel
theorem dL_law_269 : decode mL_law.2.1 269 = .ok (.istore 5, 2) := by decide +kernel
theorem dL_law_271 : decode mL_law.2.1 271 = .ok (.aload_n 2, 1) := by decide +kernel
theorem dL_law_272 : decode mL_law.2.1 272 = .ok (.aload_n 0, 1) := by decide +kernel
theorem dL_law_273 : decode mL_law.2.1 273 = .ok (.iload 4, 2) := by decide +kernel
theorem dL_law_275 : decode mL_law.2.1 275 = .ok (.iconst 1, 1) := by decide +kernel
theorem dL_law_276 : decode mL_law.2.1 276 = .ok (.iadd, 1) := by decide +kernel
theorem dL_law_277 : decode mL_law.2.1 277 = .ok (.iaload, 1) := by decide +kernel
theorem dL_law_278 : decode mL_law.2.1 278 = .ok (.aload_n 0, 1) := by decide +kernel
theorem dL_law_279 : decode mL_law.2.1 279 = .ok (.iload 4, 2) := by decide +kernel
theorem dL_law_281 : decode mL_law.2.1 281 = .ok (.iconst 2, 1) := by decide +kernel
theorem dL_law_282 : decode mL_law.2.1 282 = .ok (.iadd, 1) := by decide +kernel
theorem dL_law_283 : decode mL_law.2.1 283 = .ok (.iaload, 1) := by decide +kernel
theorem dL_law_284 : decode mL_law.2.1 284 = .ok (.aload_n 0, 1) := by decide +kernel
theorem dL_law_285 : decode mL_law.2.1 285 = .ok (.iload 4, 2) := by decide +kernel
theorem dL_law_287 : decode mL_law.2.1 287 = .ok (.iconst 3, 1) := by decide +kernel
theorem dL_law_288 : decode mL_law.2.1 288 = .ok (.iadd, 1) := by decide +kernel
theorem dL_law_289 : decode mL_law.2.1 289 = .ok (.iaload, 1) := by decide +kernel
theorem dL_law_290 : decode mL_law.2.1 290 = .ok (.aload_n 0, 1) := by decide +kernel
theorem dL_law_291 : decode mL_law.2.1 291 = .ok (.iload 4, 2) := by decide +kernel
theorem dL_law_293 : decode mL_law.2.1 293 = .ok (.iconst 4, 1) := by decide +kernel
theorem dL_law_294 : decode mL_law.2.1 294 = .ok (.iadd, 1) := by decide +kernel
theorem dL_law_295 : decode mL_law.2.1 295 = .ok (.iaload, 1) := by decide +kernel
theorem dL_law_296 : decode mL_law.2.1 296 = .ok (.aload_n 0, 1) := by decide +kernel
theorem dL_law_297 : decode mL_law.2.1 297 = .ok (.iload 4, 2) := by decide +kernel
theorem dL_law_299 : decode mL_law.2.1 299 = .ok (.iconst 5, 1) := by decide +kernel
theorem dL_law_300 : decode mL_law.2.1 300 = .ok (.iadd, 1) := by decide +kernel
theorem dL_law_301 : decode mL_law.2.1 301 = .ok (.iaload, 1) := by decide +kernel
theorem dL_law_302 : decode mL_law.2.1 302 = .ok (.aload_n 0, 1) := by decide +kernel
theorem dL_law_303 : decode mL_law.2.1 303 = .ok (.iload 4, 2) := by decide +kernel
theorem dL_law_305 : decode mL_law.2.1 305 = .ok (.bipush 6, 2) := by decide +kernel
theorem dL_law_307 : decode mL_law.2.1 307 = .ok (.iadd, 1) := by decide +kernel
theorem dL_law_308 : decode mL_law.2.1 308 = .ok (.iaload, 1) := by decide +kernel
theorem dL_law_309 : decode mL_law.2.1 309 = .ok (.invokevirtual 112, 3) := by decide +kernel
theorem dL_law_312 : decode mL_law.2.1 312 = .ok (.aload_n 2, 1) := by decide +kernel
theorem dL_law_313 : decode mL_law.2.1 313 = .ok (.invokevirtual 105, 3) := by decide +kernel
theorem dL_law_316 : decode mL_law.2.1 316 = .ok (.iload 5, 2) := by decide +kernel
theorem dL_law_318 : decode mL_law.2.1 318 = .ok (.if_icmp .eq 5, 3) := by decide +kernel
theorem dL_law_321 : decode mL_law.2.1 321 = .ok (.iconst 0, 1) := by decide +kernel
theorem dL_law_322 : decode mL_law.2.1 322 = .ok (.ireturn, 1) := by decide +kernel
theorem dL_law_323 : decode mL_law.2.1 323 = .ok (.goto 1367, 3) := by decide +kernel
theorem dL_law_326 : decode mL_law.2.1 326 = .ok (.aload_n 1, 1) := by decide +kernel
theorem dL_law_327 : decode mL_law.2.1 327 = .ok (.aload_n 0, 1) := by decide +kernel
theorem dL_law_328 : decode mL_law.2.1 328 = .ok (.iload 4, 2) := by decide +kernel
theorem dL_law_330 : decode mL_law.2.1 330 = .ok (.iconst 1, 1) := by decide +kernel
theorem dL_law_331 : decode mL_law.2.1 331 = .ok (.iadd, 1) := by decide +kernel
theorem dL_law_332 : decode mL_law.2.1 332 = .ok (.iaload, 1) := by decide +kernel
theorem dL_law_333 : decode mL_law.2.1 333 = .ok (.aload_n 0, 1) := by decide +kernel
theorem dL_law_334 : decode mL_law.2.1 334 = .ok (.iload 4, 2) := by decide +kernel
theorem dL_law_336 : decode mL_law.2.1 336 = .ok (.iconst 2, 1) := by decide +kernel
theorem dL_law_337 : decode mL_law.2.1 337 = .ok (.iadd, 1) := by decide +kernel
theorem dL_law_338 : decode mL_law.2.1 338 = .ok (.iaload, 1) := by decide +kernel
theorem dL_law_339 : decode mL_law.2.1 339 = .ok (.invokestatic 113, 3) := by decide +kernel
theorem dL_law_342 : decode mL_law.2.1 342 = .ok (.istore 5, 2) := by decide +kernel
theorem dL_law_344 : decode mL_law.2.1 344 = .ok (.aload_n 2, 1) := by decide +kernel
theorem dL_law_345 : decode mL_law.2.1 345 = .ok (.aload_n 0, 1) := by decide +kernel
theorem dL_law_346 : decode mL_law.2.1 346 = .ok (.iload 4, 2) := by decide +kernel
theorem dL_law_348 : decode mL_law.2.1 348 = .ok (.iconst 1, 1) := by decide +kernel
theorem dL_law_349 : decode mL_law.2.1 349 = .ok (.iadd, 1) := by decide +kernel
theorem dL_law_350 : decode mL_law.2.1 350 = .ok (.iaload, 1) := by decide +kernel
theorem dL_law_351 : decode mL_law.2.1 351 = .ok (.aload_n 0, 1) := by decide +kernel
theorem dL_law_352 : decode mL_law.2.1 352 = .ok (.iload 4, 2) := by decide +kernel
theorem dL_law_354 : decode mL_law.2.1 354 = .ok (.iconst 2, 1) := by decide +kernel
theorem dL_law_355 : decode mL_law.2.1 355 = .ok (.iadd, 1) := by decide +kernel
theorem dL_law_356 : decode mL_law.2.1 356 = .ok (.iaload, 1) := by decide +kernel
theorem dL_law_357 : decode mL_law.2.1 357 = .ok (.invokevirtual 116, 3) := by decide +kernel
theorem dL_law_360 : decode mL_law.2.1 360 = .ok (.aload_n 2, 1) := by decide +kernel
theorem dL_law_361 : decode mL_law.2.1 361 = .ok (.invokevirtual 105, 3) := by decide +kernel
theorem dL_law_364 : decode mL_law.2.1 364 = .ok (.iload 5, 2) := by decide +kernel
theorem dL_law_366 : decode mL_law.2.1 366 = .ok (.if_icmp .eq 5, 3) := by decide +kernel
theorem dL_law_369 : decode mL_law.2.1 369 = .ok (.iconst 0, 1) := by decide +kernel
theorem dL_law_370 : decode mL_law.2.1 370 = .ok (.ireturn, 1) := by decide +kernel
theorem dL_law_371 : decode mL_law.2.1 371 = .ok (.goto 1319, 3) := by decide +kernel
theorem dL_law_374 : decode mL_law.2.1 374 = .ok (.aload_n 1, 1) := by decide +kernel
theorem dL_law_375 : decode mL_law.2.1 375 = .ok (.aload_n 0, 1) := by decide +kernel
theorem dL_law_376 : decode mL_law.2.1 376 = .ok (.iload 4, 2) := by decide +kernel
theorem dL_law_378 : decode mL_law.2.1 378 = .ok (.iconst 1, 1) := by decide +kernel
theorem dL_law_379 : decode mL_law.2.1 379 = .ok (.iadd, 1) := by decide +kernel
theorem dL_law_380 : decode mL_law.2.1 380 = .ok (.iaload, 1) := by decide +kernel
theorem dL_law_381 : decode mL_law.2.1 381 = .ok (.aload_n 0, 1) := by decide +kernel
theorem dL_law_382 : decode mL_law.2.1 382 = .ok (.iload 4, 2) := by decide +kernel
theorem dL_law_384 : decode mL_law.2.1 384 = .ok (.iconst 2, 1) := by decide +kernel
theorem dL_law_385 : decode mL_law.2.1 385 = .ok (.iadd, 1) := by decide +kernel
theorem dL_law_386 : decode mL_law.2.1 386 = .ok (.iaload, 1) := by decide +kernel
theorem dL_law_387 : decode mL_law.2.1 387 = .ok (.aload_n 0, 1) := by decide +kernel
theorem dL_law_388 : decode mL_law.2.1 388 = .ok (.iload 4, 2) := by decide +kernel
theorem dL_law_390 : decode mL_law.2.1 390 = .ok (.iconst 3, 1) := by decide +kernel
theorem dL_law_391 : decode mL_law.2.1 391 = .ok (.iadd, 1) := by decide +kernel
theorem dL_law_392 : decode mL_law.2.1 392 = .ok (.iaload, 1) := by decide +kernel
theorem dL_law_393 : decode mL_law.2.1 393 = .ok (.aload_n 0, 1) := by decide +kernel
theorem dL_law_394 : decode mL_law.2.1 394 = .ok (.iload 4, 2) := by decide +kernel
theorem dL_law_396 : decode mL_law.2.1 396 = .ok (.iconst 4, 1) := by decide +kernel
theorem dL_law_397 : decode mL_law.2.1 397 = .ok (.iadd, 1) := by decide +kernel
theorem dL_law_398 : decode mL_law.2.1 398 = .ok (.iaload, 1) := by decide +kernel
theorem dL_law_399 : decode mL_law.2.1 399 = .ok (.aload_n 3, 1) := by decide +kernel
theorem dL_law_400 : decode mL_law.2.1 400 = .ok (.invokestatic 117, 3) := by decide +kernel
theorem dL_law_403 : decode mL_law.2.1 403 = .ok (.istore 5, 2) := by decide +kernel
theorem dL_law_405 : decode mL_law.2.1 405 = .ok (.aload_n 2, 1) := by decide +kernel
theorem dL_law_406 : decode mL_law.2.1 406 = .ok (.aload_n 0, 1) := by decide +kernel
theorem dL_law_407 : decode mL_law.2.1 407 = .ok (.iload 4, 2) := by decide +kernel
theorem dL_law_409 : decode mL_law.2.1 409 = .ok (.iconst 1, 1) := by decide +kernel
theorem dL_law_410 : decode mL_law.2.1 410 = .ok (.iadd, 1) := by decide +kernel
theorem dL_law_411 : decode mL_law.2.1 411 = .ok (.iaload, 1) := by decide +kernel
theorem dL_law_412 : decode mL_law.2.1 412 = .ok (.aload_n 0, 1) := by decide +kernel
theorem dL_law_413 : decode mL_law.2.1 413 = .ok (.iload 4, 2) := by decide +kernel
theorem dL_law_415 : decode mL_law.2.1 415 = .ok (.iconst 2, 1) := by decide +kernel
theorem dL_law_416 : decode mL_law.2.1 416 = .ok (.iadd, 1) := by decide +kernel
theorem dL_law_417 : decode mL_law.2.1 417 = .ok (.iaload, 1) := by decide +kernel
theorem dL_law_418 : decode mL_law.2.1 418 = .ok (.aload_n 0, 1) := by decide +kernel
theorem dL_law_419 : decode mL_law.2.1 419 = .ok (.iload 4, 2) := by decide +kernel
theorem dL_law_421 : decode mL_law.2.1 421 = .ok (.iconst 3, 1) := by decide +kernel
theorem dL_law_422 : decode mL_law.2.1 422 = .ok (.iadd, 1) := by decide +kernel
theorem dL_law_423 : decode mL_law.2.1 423 = .ok (.iaload, 1) := by decide +kernel
theorem dL_law_424 : decode mL_law.2.1 424 = .ok (.aload_n 0, 1) := by decide +kernel
theorem dL_law_425 : decode mL_law.2.1 425 = .ok (.iload 4, 2) := by decide +kernel
theorem dL_law_427 : decode mL_law.2.1 427 = .ok (.iconst 4, 1) := by decide +kernel
theorem dL_law_428 : decode mL_law.2.1 428 = .ok (.iadd, 1) := by decide +kernel
theorem dL_law_429 : decode mL_law.2.1 429 = .ok (.iaload, 1) := by decide +kernel
theorem dL_law_430 : decode mL_law.2.1 430 = .ok (.invokevirtual 120, 3) := by decide +kernel
theorem dL_law_433 : decode mL_law.2.1 433 = .ok (.istore 6, 2) := by decide +kernel
theorem dL_law_435 : decode mL_law.2.1 435 = .ok (.aload_n 2, 1) := by decide +kernel
theorem dL_law_436 : decode mL_law.2.1 436 = .ok (.invokevirtual 105, 3) := by decide +kernel
theorem dL_law_439 : decode mL_law.2.1 439 = .ok (.iload 5, 2) := by decide +kernel
theorem dL_law_441 : decode mL_law.2.1 441 = .ok (.if_icmp .eq 5, 3) := by decide +kernel
theorem dL_law_444 : decode mL_law.2.1 444 = .ok (.iconst 0, 1) := by decide +kernel
theorem dL_law_445 : decode mL_law.2.1 445 = .ok (.ireturn, 1) := by decide +kernel
theorem dL_law_446 : decode mL_law.2.1 446 = .ok (.iload 5, 2) := by decide +kernel
theorem dL_law_448 : decode mL_law.2.1 448 = .ok (.ifCond .ne 22, 3) := by decide +kernel
theorem dL_law_451 : decode mL_law.2.1 451 = .ok (.aload_n 3, 1) := by decide +kernel
theorem dL_law_452 : decode mL_law.2.1 452 = .ok (.iconst 0, 1) := by decide +kernel
theorem dL_law_453 : decode mL_law.2.1 453 = .ok (.laload, 1) := by decide +kernel
theorem dL_law_454 : decode mL_law.2.1 454 = .ok (.iload 6, 2) := by decide +kernel
theorem dL_law_456 : decode mL_law.2.1 456 = .ok (.ifCond .eq 7, 3) := by decide +kernel
theorem dL_law_459 : decode mL_law.2.1 459 = .ok (.lconst 1, 1) := by decide +kernel
theorem dL_law_460 : decode mL_law.2.1 460 = .ok (.goto 4, 3) := by decide +kernel
theorem dL_law_463 : decode mL_law.2.1 463 = .ok (.lconst 0, 1) := by decide +kernel
theorem dL_law_464 : decode mL_law.2.1 464 = .ok (.lcmp, 1) := by decide +kernel
theorem dL_law_465 : decode mL_law.2.1 465 = .ok (.ifCond .eq 5, 3) := by decide +kernel
theorem dL_law_468 : decode mL_law.2.1 468 = .ok (.iconst 0, 1) := by decide +kernel
theorem dL_law_469 : decode mL_law.2.1 469 = .ok (.ireturn, 1) := by decide +kernel
theorem dL_law_470 : decode mL_law.2.1 470 = .ok (.goto 1220, 3) := by decide +kernel
theorem dL_law_473 : decode mL_law.2.1 473 = .ok (.aload_n 1, 1) := by decide +kernel
theorem dL_law_474 : decode mL_law.2.1 474 = .ok (.aload_n 0, 1) := by decide +kernel
theorem dL_law_475 : decode mL_law.2.1 475 = .ok (.iload 4, 2) := by decide +kernel
theorem dL_law_477 : decode mL_law.2.1 477 = .ok (.iconst 1, 1) := by decide +kernel
theorem dL_law_478 : decode mL_law.2.1 478 = .ok (.iadd, 1) := by decide +kernel
theorem dL_law_479 : decode mL_law.2.1 479 = .ok (.iaload, 1) := by decide +kernel
theorem dL_law_480 : decode mL_law.2.1 480 = .ok (.aload_n 0, 1) := by decide +kernel
theorem dL_law_481 : decode mL_law.2.1 481 = .ok (.iload 4, 2) := by decide +kernel
theorem dL_law_483 : decode mL_law.2.1 483 = .ok (.iconst 2, 1) := by decide +kernel
theorem dL_law_484 : decode mL_law.2.1 484 = .ok (.iadd, 1) := by decide +kernel
theorem dL_law_485 : decode mL_law.2.1 485 = .ok (.iaload, 1) := by decide +kernel
theorem dL_law_486 : decode mL_law.2.1 486 = .ok (.aload_n 0, 1) := by decide +kernel
theorem dL_law_487 : decode mL_law.2.1 487 = .ok (.iload 4, 2) := by decide +kernel
theorem dL_law_489 : decode mL_law.2.1 489 = .ok (.iconst 3, 1) := by decide +kernel
theorem dL_law_490 : decode mL_law.2.1 490 = .ok (.iadd, 1) := by decide +kernel
theorem dL_law_491 : decode mL_law.2.1 491 = .ok (.iaload, 1) := by decide +kernel
theorem dL_law_492 : decode mL_law.2.1 492 = .ok (.aload_n 3, 1) := by decide +kernel
theorem dL_law_493 : decode mL_law.2.1 493 = .ok (.invokestatic 121, 3) := by decide +kernel
theorem dL_law_496 : decode mL_law.2.1 496 = .ok (.istore 5, 2) := by decide +kernel
theorem dL_law_498 : decode mL_law.2.1 498 = .ok (.aload_n 2, 1) := by decide +kernel
theorem dL_law_499 : decode mL_law.2.1 499 = .ok (.aload_n 0, 1) := by decide +kernel
theorem dL_law_500 : decode mL_law.2.1 500 = .ok (.iload 4, 2) := by decide +kernel
theorem dL_law_502 : decode mL_law.2.1 502 = .ok (.iconst 1, 1) := by decide +kernel
theorem dL_law_503 : decode mL_law.2.1 503 = .ok (.iadd, 1) := by decide +kernel
theorem dL_law_504 : decode mL_law.2.1 504 = .ok (.iaload, 1) := by decide +kernel
theorem dL_law_505 : decode mL_law.2.1 505 = .ok (.aload_n 0, 1) := by decide +kernel
theorem dL_law_506 : decode mL_law.2.1 506 = .ok (.iload 4, 2) := by decide +kernel
theorem dL_law_508 : decode mL_law.2.1 508 = .ok (.iconst 2, 1) := by decide +kernel
theorem dL_law_509 : decode mL_law.2.1 509 = .ok (.iadd, 1) := by decide +kernel
theorem dL_law_510 : decode mL_law.2.1 510 = .ok (.iaload, 1) := by decide +kernel
theorem dL_law_511 : decode mL_law.2.1 511 = .ok (.aload_n 0, 1) := by decide +kernel
theorem dL_law_512 : decode mL_law.2.1 512 = .ok (.iload 4, 2) := by decide +kernel
theorem dL_law_514 : decode mL_law.2.1 514 = .ok (.iconst 3, 1) := by decide +kernel
theorem dL_law_515 : decode mL_law.2.1 515 = .ok (.iadd, 1) := by decide +kernel
theorem dL_law_516 : decode mL_law.2.1 516 = .ok (.iaload, 1) := by decide +kernel
theorem dL_law_517 : decode mL_law.2.1 517 = .ok (.invokevirtual 124, 3) := by decide +kernel
theorem dL_law_520 : decode mL_law.2.1 520 = .ok (.istore 6, 2) := by decide +kernel
theorem dL_law_522 : decode mL_law.2.1 522 = .ok (.aload_n 2, 1) := by decide +kernel
theorem dL_law_523 : decode mL_law.2.1 523 = .ok (.invokevirtual 105, 3) := by decide +kernel
theorem dL_law_526 : decode mL_law.2.1 526 = .ok (.iload 5, 2) := by decide +kernel
theorem dL_law_528 : decode mL_law.2.1 528 = .ok (.if_icmp .eq 5, 3) := by decide +kernel
theorem dL_law_531 : decode mL_law.2.1 531 = .ok (.iconst 0, 1) := by decide +kernel
theorem dL_law_532 : decode mL_law.2.1 532 = .ok (.ireturn, 1) := by decide +kernel
theorem dL_law_533 : decode mL_law.2.1 533 = .ok (.iload 5, 2) := by decide +kernel
theorem dL_law_535 : decode mL_law.2.1 535 = .ok (.ifCond .ne 15, 3) := by decide +kernel
theorem dL_law_538 : decode mL_law.2.1 538 = .ok (.aload_n 3, 1) := by decide +kernel
theorem dL_law_539 : decode mL_law.2.1 539 = .ok (.iconst 0, 1) := by decide +kernel
theorem dL_law_540 : decode mL_law.2.1 540 = .ok (.laload, 1) := by decide +kernel
theorem dL_law_541 : decode mL_law.2.1 541 = .ok (.iload 6, 2) := by decide +kernel
theorem dL_law_543 : decode mL_law.2.1 543 = .ok (.i2l, 1) := by decide +kernel
theorem dL_law_544 : decode mL_law.2.1 544 = .ok (.lcmp, 1) := by decide +kernel
theorem dL_law_545 : decode mL_law.2.1 545 = .ok (.ifCond .eq 5, 3) := by decide +kernel
theorem dL_law_548 : decode mL_law.2.1 548 = .ok (.iconst 0, 1) := by decide +kernel
theorem dL_law_549 : decode mL_law.2.1 549 = .ok (.ireturn, 1) := by decide +kernel
theorem dL_law_550 : decode mL_law.2.1 550 = .ok (.goto 1140, 3) := by decide +kernel
theorem dL_law_553 : decode mL_law.2.1 553 = .ok (.aload_n 1, 1) := by decide +kernel
theorem dL_law_554 : decode mL_law.2.1 554 = .ok (.aload_n 0, 1) := by decide +kernel
theorem dL_law_555 : decode mL_law.2.1 555 = .ok (.iload 4, 2) := by decide +kernel
theorem dL_law_557 : decode mL_law.2.1 557 = .ok (.iconst 1, 1) := by decide +kernel
theorem dL_law_558 : decode mL_law.2.1 558 = .ok (.iadd, 1) := by decide +kernel
theorem dL_law_559 : decode mL_law.2.1 559 = .ok (.iaload, 1) := by decide +kernel
theorem dL_law_560 : decode mL_law.2.1 560 = .ok (.aload_n 0, 1) := by decide +kernel
theorem dL_law_561 : decode mL_law.2.1 561 = .ok (.iload 4, 2) := by decide +kernel
theorem dL_law_563 : decode mL_law.2.1 563 = .ok (.iconst 2, 1) := by decide +kernel
theorem dL_law_564 : decode mL_law.2.1 564 = .ok (.iadd, 1) := by decide +kernel
theorem dL_law_565 : decode mL_law.2.1 565 = .ok (.iaload, 1) := by decide +kernel
theorem dL_law_566 : decode mL_law.2.1 566 = .ok (.aload_n 3, 1) := by decide +kernel
theorem dL_law_567 : decode mL_law.2.1 567 = .ok (.invokestatic 125, 3) := by decide +kernel
theorem dL_law_570 : decode mL_law.2.1 570 = .ok (.istore 5, 2) := by decide +kernel
theorem dL_law_572 : decode mL_law.2.1 572 = .ok (.aload_n 2, 1) := by decide +kernel
theorem dL_law_573 : decode mL_law.2.1 573 = .ok (.aload_n 0, 1) := by decide +kernel
theorem dL_law_574 : decode mL_law.2.1 574 = .ok (.iload 4, 2) := by decide +kernel
theorem dL_law_576 : decode mL_law.2.1 576 = .ok (.iconst 1, 1) := by decide +kernel
theorem dL_law_577 : decode mL_law.2.1 577 = .ok (.iadd, 1) := by decide +kernel
theorem dL_law_578 : decode mL_law.2.1 578 = .ok (.iaload, 1) := by decide +kernel
theorem dL_law_579 : decode mL_law.2.1 579 = .ok (.aload_n 0, 1) := by decide +kernel
theorem dL_law_580 : decode mL_law.2.1 580 = .ok (.iload 4, 2) := by decide +kernel
theorem dL_law_582 : decode mL_law.2.1 582 = .ok (.iconst 2, 1) := by decide +kernel
theorem dL_law_583 : decode mL_law.2.1 583 = .ok (.iadd, 1) := by decide +kernel
theorem dL_law_584 : decode mL_law.2.1 584 = .ok (.iaload, 1) := by decide +kernel
theorem dL_law_585 : decode mL_law.2.1 585 = .ok (.invokevirtual 128, 3) := by decide +kernel
theorem dL_law_588 : decode mL_law.2.1 588 = .ok (.istore 6, 2) := by decide +kernel
theorem dL_law_590 : decode mL_law.2.1 590 = .ok (.aload_n 2, 1) := by decide +kernel
theorem dL_law_591 : decode mL_law.2.1 591 = .ok (.invokevirtual 105, 3) := by decide +kernel
theorem dL_law_594 : decode mL_law.2.1 594 = .ok (.iload 5, 2) := by decide +kernel
theorem dL_law_596 : decode mL_law.2.1 596 = .ok (.if_icmp .eq 5, 3) := by decide +kernel
theorem dL_law_599 : decode mL_law.2.1 599 = .ok (.iconst 0, 1) := by decide +kernel
theorem dL_law_600 : decode mL_law.2.1 600 = .ok (.ireturn, 1) := by decide +kernel
theorem dL_law_601 : decode mL_law.2.1 601 = .ok (.iload 5, 2) := by decide +kernel
theorem dL_law_603 : decode mL_law.2.1 603 = .ok (.ifCond .ne 22, 3) := by decide +kernel
theorem dL_law_606 : decode mL_law.2.1 606 = .ok (.aload_n 3, 1) := by decide +kernel
theorem dL_law_607 : decode mL_law.2.1 607 = .ok (.iconst 0, 1) := by decide +kernel
theorem dL_law_608 : decode mL_law.2.1 608 = .ok (.laload, 1) := by decide +kernel
theorem dL_law_609 : decode mL_law.2.1 609 = .ok (.iload 6, 2) := by decide +kernel
theorem dL_law_611 : decode mL_law.2.1 611 = .ok (.ifCond .eq 7, 3) := by decide +kernel
theorem dL_law_614 : decode mL_law.2.1 614 = .ok (.lconst 1, 1) := by decide +kernel
theorem dL_law_615 : decode mL_law.2.1 615 = .ok (.goto 4, 3) := by decide +kernel
theorem dL_law_618 : decode mL_law.2.1 618 = .ok (.lconst 0, 1) := by decide +kernel
theorem dL_law_619 : decode mL_law.2.1 619 = .ok (.lcmp, 1) := by decide +kernel
theorem dL_law_620 : decode mL_law.2.1 620 = .ok (.ifCond .eq 5, 3) := by decide +kernel
theorem dL_law_623 : decode mL_law.2.1 623 = .ok (.iconst 0, 1) := by decide +kernel
theorem dL_law_624 : decode mL_law.2.1 624 = .ok (.ireturn, 1) := by decide +kernel
theorem dL_law_625 : decode mL_law.2.1 625 = .ok (.goto 1065, 3) := by decide +kernel
theorem dL_law_628 : decode mL_law.2.1 628 = .ok (.aload_n 1, 1) := by decide +kernel
theorem dL_law_629 : decode mL_law.2.1 629 = .ok (.aload_n 0, 1) := by decide +kernel
theorem dL_law_630 : decode mL_law.2.1 630 = .ok (.iload 4, 2) := by decide +kernel
theorem dL_law_632 : decode mL_law.2.1 632 = .ok (.iconst 1, 1) := by decide +kernel
theorem dL_law_633 : decode mL_law.2.1 633 = .ok (.iadd, 1) := by decide +kernel
theorem dL_law_634 : decode mL_law.2.1 634 = .ok (.iaload, 1) := by decide +kernel
theorem dL_law_635 : decode mL_law.2.1 635 = .ok (.aload_n 3, 1) := by decide +kernel
theorem dL_law_636 : decode mL_law.2.1 636 = .ok (.invokestatic 129, 3) := by decide +kernel
theorem dL_law_639 : decode mL_law.2.1 639 = .ok (.istore 5, 2) := by decide +kernel
theorem dL_law_641 : decode mL_law.2.1 641 = .ok (.aload_n 2, 1) := by decide +kernel
theorem dL_law_642 : decode mL_law.2.1 642 = .ok (.aload_n 0, 1) := by decide +kernel
theorem dL_law_643 : decode mL_law.2.1 643 = .ok (.iload 4, 2) := by decide +kernel
theorem dL_law_645 : decode mL_law.2.1 645 = .ok (.iconst 1, 1) := by decide +kernel
theorem dL_law_646 : decode mL_law.2.1 646 = .ok (.iadd, 1) := by decide +kernel
theorem dL_law_647 : decode mL_law.2.1 647 = .ok (.iaload, 1) := by decide +kernel
theorem dL_law_648 : decode mL_law.2.1 648 = .ok (.invokevirtual 132, 3) := by decide +kernel
theorem dL_law_651 : decode mL_law.2.1 651 = .ok (.istore 6, 2) := by decide +kernel
theorem dL_law_653 : decode mL_law.2.1 653 = .ok (.aload_n 2, 1) := by decide +kernel
theorem dL_law_654 : decode mL_law.2.1 654 = .ok (.invokevirtual 105, 3) := by decide +kernel
theorem dL_law_657 : decode mL_law.2.1 657 = .ok (.iload 5, 2) := by decide +kernel
theorem dL_law_659 : decode mL_law.2.1 659 = .ok (.if_icmp .eq 5, 3) := by decide +kernel
theorem dL_law_662 : decode mL_law.2.1 662 = .ok (.iconst 0, 1) := by decide +kernel
theorem dL_law_663 : decode mL_law.2.1 663 = .ok (.ireturn, 1) := by decide +kernel
theorem dL_law_664 : decode mL_law.2.1 664 = .ok (.iload 5, 2) := by decide +kernel
theorem dL_law_666 : decode mL_law.2.1 666 = .ok (.ifCond .ne 22, 3) := by decide +kernel
theorem dL_law_669 : decode mL_law.2.1 669 = .ok (.aload_n 3, 1) := by decide +kernel
theorem dL_law_670 : decode mL_law.2.1 670 = .ok (.iconst 0, 1) := by decide +kernel
theorem dL_law_671 : decode mL_law.2.1 671 = .ok (.laload, 1) := by decide +kernel
theorem dL_law_672 : decode mL_law.2.1 672 = .ok (.iload 6, 2) := by decide +kernel
theorem dL_law_674 : decode mL_law.2.1 674 = .ok (.ifCond .eq 7, 3) := by decide +kernel
theorem dL_law_677 : decode mL_law.2.1 677 = .ok (.lconst 1, 1) := by decide +kernel
theorem dL_law_678 : decode mL_law.2.1 678 = .ok (.goto 4, 3) := by decide +kernel
theorem dL_law_681 : decode mL_law.2.1 681 = .ok (.lconst 0, 1) := by decide +kernel
theorem dL_law_682 : decode mL_law.2.1 682 = .ok (.lcmp, 1) := by decide +kernel
theorem dL_law_683 : decode mL_law.2.1 683 = .ok (.ifCond .eq 5, 3) := by decide +kernel
theorem dL_law_686 : decode mL_law.2.1 686 = .ok (.iconst 0, 1) := by decide +kernel
theorem dL_law_687 : decode mL_law.2.1 687 = .ok (.ireturn, 1) := by decide +kernel
theorem dL_law_688 : decode mL_law.2.1 688 = .ok (.goto 1002, 3) := by decide +kernel
theorem dL_law_691 : decode mL_law.2.1 691 = .ok (.aload_n 1, 1) := by decide +kernel
theorem dL_law_692 : decode mL_law.2.1 692 = .ok (.aload_n 0, 1) := by decide +kernel
theorem dL_law_693 : decode mL_law.2.1 693 = .ok (.iload 4, 2) := by decide +kernel
theorem dL_law_695 : decode mL_law.2.1 695 = .ok (.iconst 1, 1) := by decide +kernel
theorem dL_law_696 : decode mL_law.2.1 696 = .ok (.iadd, 1) := by decide +kernel
theorem dL_law_697 : decode mL_law.2.1 697 = .ok (.iaload, 1) := by decide +kernel
theorem dL_law_698 : decode mL_law.2.1 698 = .ok (.aload_n 0, 1) := by decide +kernel
theorem dL_law_699 : decode mL_law.2.1 699 = .ok (.iload 4, 2) := by decide +kernel
theorem dL_law_701 : decode mL_law.2.1 701 = .ok (.iconst 2, 1) := by decide +kernel
theorem dL_law_702 : decode mL_law.2.1 702 = .ok (.iadd, 1) := by decide +kernel
theorem dL_law_703 : decode mL_law.2.1 703 = .ok (.iaload, 1) := by decide +kernel
theorem dL_law_704 : decode mL_law.2.1 704 = .ok (.aload_n 3, 1) := by decide +kernel
theorem dL_law_705 : decode mL_law.2.1 705 = .ok (.invokestatic 133, 3) := by decide +kernel
theorem dL_law_708 : decode mL_law.2.1 708 = .ok (.istore 5, 2) := by decide +kernel
theorem dL_law_710 : decode mL_law.2.1 710 = .ok (.aload_n 2, 1) := by decide +kernel
theorem dL_law_711 : decode mL_law.2.1 711 = .ok (.aload_n 0, 1) := by decide +kernel
theorem dL_law_712 : decode mL_law.2.1 712 = .ok (.iload 4, 2) := by decide +kernel
theorem dL_law_714 : decode mL_law.2.1 714 = .ok (.iconst 1, 1) := by decide +kernel
theorem dL_law_715 : decode mL_law.2.1 715 = .ok (.iadd, 1) := by decide +kernel
theorem dL_law_716 : decode mL_law.2.1 716 = .ok (.iaload, 1) := by decide +kernel
theorem dL_law_717 : decode mL_law.2.1 717 = .ok (.aload_n 0, 1) := by decide +kernel
theorem dL_law_718 : decode mL_law.2.1 718 = .ok (.iload 4, 2) := by decide +kernel
theorem dL_law_720 : decode mL_law.2.1 720 = .ok (.iconst 2, 1) := by decide +kernel
theorem dL_law_721 : decode mL_law.2.1 721 = .ok (.iadd, 1) := by decide +kernel
theorem dL_law_722 : decode mL_law.2.1 722 = .ok (.iaload, 1) := by decide +kernel
theorem dL_law_723 : decode mL_law.2.1 723 = .ok (.invokevirtual 135, 3) := by decide +kernel
theorem dL_law_726 : decode mL_law.2.1 726 = .ok (.istore 6, 2) := by decide +kernel
theorem dL_law_728 : decode mL_law.2.1 728 = .ok (.aload_n 2, 1) := by decide +kernel
theorem dL_law_729 : decode mL_law.2.1 729 = .ok (.invokevirtual 105, 3) := by decide +kernel
theorem dL_law_732 : decode mL_law.2.1 732 = .ok (.iload 5, 2) := by decide +kernel
theorem dL_law_734 : decode mL_law.2.1 734 = .ok (.if_icmp .eq 5, 3) := by decide +kernel
theorem dL_law_737 : decode mL_law.2.1 737 = .ok (.iconst 0, 1) := by decide +kernel
theorem dL_law_738 : decode mL_law.2.1 738 = .ok (.ireturn, 1) := by decide +kernel
theorem dL_law_739 : decode mL_law.2.1 739 = .ok (.iload 5, 2) := by decide +kernel
theorem dL_law_741 : decode mL_law.2.1 741 = .ok (.ifCond .ne 15, 3) := by decide +kernel
theorem dL_law_744 : decode mL_law.2.1 744 = .ok (.aload_n 3, 1) := by decide +kernel
theorem dL_law_745 : decode mL_law.2.1 745 = .ok (.iconst 0, 1) := by decide +kernel
theorem dL_law_746 : decode mL_law.2.1 746 = .ok (.laload, 1) := by decide +kernel
theorem dL_law_747 : decode mL_law.2.1 747 = .ok (.iload 6, 2) := by decide +kernel
theorem dL_law_749 : decode mL_law.2.1 749 = .ok (.i2l, 1) := by decide +kernel
theorem dL_law_750 : decode mL_law.2.1 750 = .ok (.lcmp, 1) := by decide +kernel
theorem dL_law_751 : decode mL_law.2.1 751 = .ok (.ifCond .eq 5, 3) := by decide +kernel
theorem dL_law_754 : decode mL_law.2.1 754 = .ok (.iconst 0, 1) := by decide +kernel
theorem dL_law_755 : decode mL_law.2.1 755 = .ok (.ireturn, 1) := by decide +kernel
theorem dL_law_756 : decode mL_law.2.1 756 = .ok (.goto 934, 3) := by decide +kernel
theorem dL_law_759 : decode mL_law.2.1 759 = .ok (.aload_n 1, 1) := by decide +kernel
theorem dL_law_760 : decode mL_law.2.1 760 = .ok (.aload_n 0, 1) := by decide +kernel
theorem dL_law_761 : decode mL_law.2.1 761 = .ok (.iload 4, 2) := by decide +kernel
theorem dL_law_763 : decode mL_law.2.1 763 = .ok (.iconst 1, 1) := by decide +kernel
theorem dL_law_764 : decode mL_law.2.1 764 = .ok (.iadd, 1) := by decide +kernel
theorem dL_law_765 : decode mL_law.2.1 765 = .ok (.iaload, 1) := by decide +kernel
theorem dL_law_766 : decode mL_law.2.1 766 = .ok (.aload_n 0, 1) := by decide +kernel
theorem dL_law_767 : decode mL_law.2.1 767 = .ok (.iload 4, 2) := by decide +kernel
theorem dL_law_769 : decode mL_law.2.1 769 = .ok (.iconst 2, 1) := by decide +kernel
theorem dL_law_770 : decode mL_law.2.1 770 = .ok (.iadd, 1) := by decide +kernel
theorem dL_law_771 : decode mL_law.2.1 771 = .ok (.iaload, 1) := by decide +kernel
theorem dL_law_772 : decode mL_law.2.1 772 = .ok (.ifCond .eq 7, 3) := by decide +kernel
theorem dL_law_775 : decode mL_law.2.1 775 = .ok (.iconst 1, 1) := by decide +kernel
theorem dL_law_776 : decode mL_law.2.1 776 = .ok (.goto 4, 3) := by decide +kernel
theorem dL_law_779 : decode mL_law.2.1 779 = .ok (.iconst 0, 1) := by decide +kernel
theorem dL_law_780 : decode mL_law.2.1 780 = .ok (.aload_n 0, 1) := by decide +kernel
theorem dL_law_781 : decode mL_law.2.1 781 = .ok (.iload 4, 2) := by decide +kernel
theorem dL_law_783 : decode mL_law.2.1 783 = .ok (.iconst 3, 1) := by decide +kernel
theorem dL_law_784 : decode mL_law.2.1 784 = .ok (.iadd, 1) := by decide +kernel
theorem dL_law_785 : decode mL_law.2.1 785 = .ok (.iaload, 1) := by decide +kernel
theorem dL_law_786 : decode mL_law.2.1 786 = .ok (.aload_n 0, 1) := by decide +kernel
theorem dL_law_787 : decode mL_law.2.1 787 = .ok (.iload 4, 2) := by decide +kernel
theorem dL_law_789 : decode mL_law.2.1 789 = .ok (.iconst 4, 1) := by decide +kernel
theorem dL_law_790 : decode mL_law.2.1 790 = .ok (.iadd, 1) := by decide +kernel
theorem dL_law_791 : decode mL_law.2.1 791 = .ok (.iaload, 1) := by decide +kernel
theorem dL_law_792 : decode mL_law.2.1 792 = .ok (.invokestatic 136, 3) := by decide +kernel
theorem dL_law_795 : decode mL_law.2.1 795 = .ok (.istore 5, 2) := by decide +kernel
theorem dL_law_797 : decode mL_law.2.1 797 = .ok (.aload_n 2, 1) := by decide +kernel
theorem dL_law_798 : decode mL_law.2.1 798 = .ok (.aload_n 0, 1) := by decide +kernel
theorem dL_law_799 : decode mL_law.2.1 799 = .ok (.iload 4, 2) := by decide +kernel
theorem dL_law_801 : decode mL_law.2.1 801 = .ok (.iconst 1, 1) := by decide +kernel
theorem dL_law_802 : decode mL_law.2.1 802 = .ok (.iadd, 1) := by decide +kernel
theorem dL_law_803 : decode mL_law.2.1 803 = .ok (.iaload, 1) := by decide +kernel
theorem dL_law_804 : decode mL_law.2.1 804 = .ok (.aload_n 0, 1) := by decide +kernel
theorem dL_law_805 : decode mL_law.2.1 805 = .ok (.iload 4, 2) := by decide +kernel
theorem dL_law_807 : decode mL_law.2.1 807 = .ok (.iconst 2, 1) := by decide +kernel
theorem dL_law_808 : decode mL_law.2.1 808 = .ok (.iadd, 1) := by decide +kernel
theorem dL_law_809 : decode mL_law.2.1 809 = .ok (.iaload, 1) := by decide +kernel
theorem dL_law_810 : decode mL_law.2.1 810 = .ok (.ifCond .eq 7, 3) := by decide +kernel
theorem dL_law_813 : decode mL_law.2.1 813 = .ok (.iconst 1, 1) := by decide +kernel
theorem dL_law_814 : decode mL_law.2.1 814 = .ok (.goto 4, 3) := by decide +kernel
theorem dL_law_817 : decode mL_law.2.1 817 = .ok (.iconst 0, 1) := by decide +kernel
theorem dL_law_818 : decode mL_law.2.1 818 = .ok (.aload_n 0, 1) := by decide +kernel
theorem dL_law_819 : decode mL_law.2.1 819 = .ok (.iload 4, 2) := by decide +kernel
theorem dL_law_821 : decode mL_law.2.1 821 = .ok (.iconst 3, 1) := by decide +kernel
theorem dL_law_822 : decode mL_law.2.1 822 = .ok (.iadd, 1) := by decide +kernel
theorem dL_law_823 : decode mL_law.2.1 823 = .ok (.iaload, 1) := by decide +kernel
theorem dL_law_824 : decode mL_law.2.1 824 = .ok (.aload_n 0, 1) := by decide +kernel
theorem dL_law_825 : decode mL_law.2.1 825 = .ok (.iload 4, 2) := by decide +kernel
theorem dL_law_827 : decode mL_law.2.1 827 = .ok (.iconst 4, 1) := by decide +kernel
theorem dL_law_828 : decode mL_law.2.1 828 = .ok (.iadd, 1) := by decide +kernel
theorem dL_law_829 : decode mL_law.2.1 829 = .ok (.iaload, 1) := by decide +kernel
theorem dL_law_830 : decode mL_law.2.1 830 = .ok (.invokevirtual 139, 3) := by decide +kernel
theorem dL_law_833 : decode mL_law.2.1 833 = .ok (.aload_n 2, 1) := by decide +kernel
theorem dL_law_834 : decode mL_law.2.1 834 = .ok (.invokevirtual 105, 3) := by decide +kernel
theorem dL_law_837 : decode mL_law.2.1 837 = .ok (.iload 5, 2) := by decide +kernel
theorem dL_law_839 : decode mL_law.2.1 839 = .ok (.if_icmp .eq 5, 3) := by decide +kernel
theorem dL_law_842 : decode mL_law.2.1 842 = .ok (.iconst 0, 1) := by decide +kernel
theorem dL_law_843 : decode mL_law.2.1 843 = .ok (.ireturn, 1) := by decide +kernel
theorem dL_law_844 : decode mL_law.2.1 844 = .ok (.goto 846, 3) := by decide +kernel
theorem dL_law_847 : decode mL_law.2.1 847 = .ok (.aload_n 1, 1) := by decide +kernel
theorem dL_law_848 : decode mL_law.2.1 848 = .ok (.aload_n 0, 1) := by decide +kernel
theorem dL_law_849 : decode mL_law.2.1 849 = .ok (.iload 4, 2) := by decide +kernel
theorem dL_law_851 : decode mL_law.2.1 851 = .ok (.iconst 1, 1) := by decide +kernel
theorem dL_law_852 : decode mL_law.2.1 852 = .ok (.iadd, 1) := by decide +kernel
theorem dL_law_853 : decode mL_law.2.1 853 = .ok (.iaload, 1) := by decide +kernel
theorem dL_law_854 : decode mL_law.2.1 854 = .ok (.aload_n 0, 1) := by decide +kernel
theorem dL_law_855 : decode mL_law.2.1 855 = .ok (.iload 4, 2) := by decide +kernel
theorem dL_law_857 : decode mL_law.2.1 857 = .ok (.iconst 2, 1) := by decide +kernel
theorem dL_law_858 : decode mL_law.2.1 858 = .ok (.iadd, 1) := by decide +kernel
theorem dL_law_859 : decode mL_law.2.1 859 = .ok (.iaload, 1) := by decide +kernel
theorem dL_law_860 : decode mL_law.2.1 860 = .ok (.aload_n 3, 1) := by decide +kernel
theorem dL_law_861 : decode mL_law.2.1 861 = .ok (.invokestatic 140, 3) := by decide +kernel
theorem dL_law_864 : decode mL_law.2.1 864 = .ok (.istore 5, 2) := by decide +kernel
theorem dL_law_866 : decode mL_law.2.1 866 = .ok (.aload_n 2, 1) := by decide +kernel
theorem dL_law_867 : decode mL_law.2.1 867 = .ok (.aload_n 0, 1) := by decide +kernel
theorem dL_law_868 : decode mL_law.2.1 868 = .ok (.iload 4, 2) := by decide +kernel
theorem dL_law_870 : decode mL_law.2.1 870 = .ok (.iconst 1, 1) := by decide +kernel
theorem dL_law_871 : decode mL_law.2.1 871 = .ok (.iadd, 1) := by decide +kernel
theorem dL_law_872 : decode mL_law.2.1 872 = .ok (.iaload, 1) := by decide +kernel
theorem dL_law_873 : decode mL_law.2.1 873 = .ok (.aload_n 0, 1) := by decide +kernel
theorem dL_law_874 : decode mL_law.2.1 874 = .ok (.iload 4, 2) := by decide +kernel
theorem dL_law_876 : decode mL_law.2.1 876 = .ok (.iconst 2, 1) := by decide +kernel
theorem dL_law_877 : decode mL_law.2.1 877 = .ok (.iadd, 1) := by decide +kernel
theorem dL_law_878 : decode mL_law.2.1 878 = .ok (.iaload, 1) := by decide +kernel
theorem dL_law_879 : decode mL_law.2.1 879 = .ok (.invokevirtual 142, 3) := by decide +kernel
theorem dL_law_882 : decode mL_law.2.1 882 = .ok (.istore 6, 2) := by decide +kernel
theorem dL_law_884 : decode mL_law.2.1 884 = .ok (.aload_n 2, 1) := by decide +kernel
theorem dL_law_885 : decode mL_law.2.1 885 = .ok (.invokevirtual 105, 3) := by decide +kernel
theorem dL_law_888 : decode mL_law.2.1 888 = .ok (.iload 5, 2) := by decide +kernel
theorem dL_law_890 : decode mL_law.2.1 890 = .ok (.if_icmp .eq 5, 3) := by decide +kernel
theorem dL_law_893 : decode mL_law.2.1 893 = .ok (.iconst 0, 1) := by decide +kernel
theorem dL_law_894 : decode mL_law.2.1 894 = .ok (.ireturn, 1) := by decide +kernel
theorem dL_law_895 : decode mL_law.2.1 895 = .ok (.iload 5, 2) := by decide +kernel
end
section
theorem dL_law_897 : decode mL_law.2.1 897 = .ok (.ifCond .ne 15, 3) := by decide +kernel
theorem dL_law_900 : decode mL_law.2.1 900 = .ok (.aload_n 3, 1) := by decide +kernel
theorem dL_law_901 : decode mL_law.2.1 901 = .ok (.iconst 0, 1) := by decide +kernel
theorem dL_law_902 : decode mL_law.2.1 902 = .ok (.laload, 1) := by decide +kernel
theorem dL_law_903 : decode mL_law.2.1 903 = .ok (.iload 6, 2) := by decide +kernel
theorem dL_law_905 : decode mL_law.2.1 905 = .ok (.i2l, 1) := by decide +kernel
theorem dL_law_906 : decode mL_law.2.1 906 = .ok (.lcmp, 1) := by decide +kernel
theorem dL_law_907 : decode mL_law.2.1 907 = .ok (.ifCond .eq 5, 3) := by decide +kernel
theorem dL_law_910 : decode mL_law.2.1 910 = .ok (.iconst 0, 1) := by decide +kernel
theorem dL_law_911 : decode mL_law.2.1 911 = .ok (.ireturn, 1) := by decide +kernel
theorem dL_law_912 : decode mL_law.2.1 912 = .ok (.goto 778, 3) := by decide +kernel
theorem dL_law_915 : decode mL_law.2.1 915 = .ok (.aload_n 1, 1) := by decide +kernel
theorem dL_law_916 : decode mL_law.2.1 916 = .ok (.aload_n 0, 1) := by decide +kernel
theorem dL_law_917 : decode mL_law.2.1 917 = .ok (.iload 4, 2) := by decide +kernel
theorem dL_law_919 : decode mL_law.2.1 919 = .ok (.iconst 1, 1) := by decide +kernel
theorem dL_law_920 : decode mL_law.2.1 920 = .ok (.iadd, 1) := by decide +kernel
theorem dL_law_921 : decode mL_law.2.1 921 = .ok (.iaload, 1) := by decide +kernel
theorem dL_law_922 : decode mL_law.2.1 922 = .ok (.aload_n 0, 1) := by decide +kernel
theorem dL_law_923 : decode mL_law.2.1 923 = .ok (.iload 4, 2) := by decide +kernel
theorem dL_law_925 : decode mL_law.2.1 925 = .ok (.iconst 2, 1) := by decide +kernel
theorem dL_law_926 : decode mL_law.2.1 926 = .ok (.iadd, 1) := by decide +kernel
theorem dL_law_927 : decode mL_law.2.1 927 = .ok (.iaload, 1) := by decide +kernel
theorem dL_law_928 : decode mL_law.2.1 928 = .ok (.invokestatic 143, 3) := by decide +kernel
theorem dL_law_931 : decode mL_law.2.1 931 = .ok (.istore 5, 2) := by decide +kernel
theorem dL_law_933 : decode mL_law.2.1 933 = .ok (.aload_n 2, 1) := by decide +kernel
theorem dL_law_934 : decode mL_law.2.1 934 = .ok (.aload_n 0, 1) := by decide +kernel
theorem dL_law_935 : decode mL_law.2.1 935 = .ok (.iload 4, 2) := by decide +kernel
theorem dL_law_937 : decode mL_law.2.1 937 = .ok (.iconst 1, 1) := by decide +kernel
theorem dL_law_938 : decode mL_law.2.1 938 = .ok (.iadd, 1) := by decide +kernel
theorem dL_law_939 : decode mL_law.2.1 939 = .ok (.iaload, 1) := by decide +kernel
theorem dL_law_940 : decode mL_law.2.1 940 = .ok (.aload_n 0, 1) := by decide +kernel
theorem dL_law_941 : decode mL_law.2.1 941 = .ok (.iload 4, 2) := by decide +kernel
theorem dL_law_943 : decode mL_law.2.1 943 = .ok (.iconst 2, 1) := by decide +kernel
theorem dL_law_944 : decode mL_law.2.1 944 = .ok (.iadd, 1) := by decide +kernel
theorem dL_law_945 : decode mL_law.2.1 945 = .ok (.iaload, 1) := by decide +kernel
theorem dL_law_946 : decode mL_law.2.1 946 = .ok (.invokevirtual 145, 3) := by decide +kernel
theorem dL_law_949 : decode mL_law.2.1 949 = .ok (.aload_n 2, 1) := by decide +kernel
theorem dL_law_950 : decode mL_law.2.1 950 = .ok (.invokevirtual 105, 3) := by decide +kernel
theorem dL_law_953 : decode mL_law.2.1 953 = .ok (.iload 5, 2) := by decide +kernel
theorem dL_law_955 : decode mL_law.2.1 955 = .ok (.if_icmp .eq 5, 3) := by decide +kernel
theorem dL_law_958 : decode mL_law.2.1 958 = .ok (.iconst 0, 1) := by decide +kernel
theorem dL_law_959 : decode mL_law.2.1 959 = .ok (.ireturn, 1) := by decide +kernel
theorem dL_law_960 : decode mL_law.2.1 960 = .ok (.goto 730, 3) := by decide +kernel
theorem dL_law_963 : decode mL_law.2.1 963 = .ok (.aload_n 1, 1) := by decide +kernel
theorem dL_law_964 : decode mL_law.2.1 964 = .ok (.aload_n 0, 1) := by decide +kernel
theorem dL_law_965 : decode mL_law.2.1 965 = .ok (.iload 4, 2) := by decide +kernel
theorem dL_law_967 : decode mL_law.2.1 967 = .ok (.iconst 1, 1) := by decide +kernel
theorem dL_law_968 : decode mL_law.2.1 968 = .ok (.iadd, 1) := by decide +kernel
theorem dL_law_969 : decode mL_law.2.1 969 = .ok (.iaload, 1) := by decide +kernel
theorem dL_law_970 : decode mL_law.2.1 970 = .ok (.aload_n 0, 1) := by decide +kernel
theorem dL_law_971 : decode mL_law.2.1 971 = .ok (.iload 4, 2) := by decide +kernel
theorem dL_law_973 : decode mL_law.2.1 973 = .ok (.iconst 2, 1) := by decide +kernel
theorem dL_law_974 : decode mL_law.2.1 974 = .ok (.iadd, 1) := by decide +kernel
theorem dL_law_975 : decode mL_law.2.1 975 = .ok (.iaload, 1) := by decide +kernel
theorem dL_law_976 : decode mL_law.2.1 976 = .ok (.aload_n 0, 1) := by decide +kernel
theorem dL_law_977 : decode mL_law.2.1 977 = .ok (.iload 4, 2) := by decide +kernel
theorem dL_law_979 : decode mL_law.2.1 979 = .ok (.iconst 3, 1) := by decide +kernel
theorem dL_law_980 : decode mL_law.2.1 980 = .ok (.iadd, 1) := by decide +kernel
theorem dL_law_981 : decode mL_law.2.1 981 = .ok (.iaload, 1) := by decide +kernel
theorem dL_law_982 : decode mL_law.2.1 982 = .ok (.invokestatic 146, 3) := by decide +kernel
theorem dL_law_985 : decode mL_law.2.1 985 = .ok (.istore 5, 2) := by decide +kernel
theorem dL_law_987 : decode mL_law.2.1 987 = .ok (.aload_n 2, 1) := by decide +kernel
theorem dL_law_988 : decode mL_law.2.1 988 = .ok (.aload_n 0, 1) := by decide +kernel
theorem dL_law_989 : decode mL_law.2.1 989 = .ok (.iload 4, 2) := by decide +kernel
theorem dL_law_991 : decode mL_law.2.1 991 = .ok (.iconst 1, 1) := by decide +kernel
theorem dL_law_992 : decode mL_law.2.1 992 = .ok (.iadd, 1) := by decide +kernel
theorem dL_law_993 : decode mL_law.2.1 993 = .ok (.iaload, 1) := by decide +kernel
theorem dL_law_994 : decode mL_law.2.1 994 = .ok (.aload_n 0, 1) := by decide +kernel
theorem dL_law_995 : decode mL_law.2.1 995 = .ok (.iload 4, 2) := by decide +kernel
theorem dL_law_997 : decode mL_law.2.1 997 = .ok (.iconst 2, 1) := by decide +kernel
theorem dL_law_998 : decode mL_law.2.1 998 = .ok (.iadd, 1) := by decide +kernel
theorem dL_law_999 : decode mL_law.2.1 999 = .ok (.iaload, 1) := by decide +kernel
theorem dL_law_1000 : decode mL_law.2.1 1000 = .ok (.aload_n 0, 1) := by decide +kernel
theorem dL_law_1001 : decode mL_law.2.1 1001 = .ok (.iload 4, 2) := by decide +kernel
theorem dL_law_1003 : decode mL_law.2.1 1003 = .ok (.iconst 3, 1) := by decide +kernel
theorem dL_law_1004 : decode mL_law.2.1 1004 = .ok (.iadd, 1) := by decide +kernel
theorem dL_law_1005 : decode mL_law.2.1 1005 = .ok (.iaload, 1) := by decide +kernel
theorem dL_law_1006 : decode mL_law.2.1 1006 = .ok (.invokevirtual 149, 3) := by decide +kernel
theorem dL_law_1009 : decode mL_law.2.1 1009 = .ok (.aload_n 2, 1) := by decide +kernel
theorem dL_law_1010 : decode mL_law.2.1 1010 = .ok (.invokevirtual 105, 3) := by decide +kernel
theorem dL_law_1013 : decode mL_law.2.1 1013 = .ok (.iload 5, 2) := by decide +kernel
theorem dL_law_1015 : decode mL_law.2.1 1015 = .ok (.if_icmp .eq 5, 3) := by decide +kernel
theorem dL_law_1018 : decode mL_law.2.1 1018 = .ok (.iconst 0, 1) := by decide +kernel
theorem dL_law_1019 : decode mL_law.2.1 1019 = .ok (.ireturn, 1) := by decide +kernel
theorem dL_law_1020 : decode mL_law.2.1 1020 = .ok (.goto 670, 3) := by decide +kernel
theorem dL_law_1023 : decode mL_law.2.1 1023 = .ok (.aload_n 1, 1) := by decide +kernel
theorem dL_law_1024 : decode mL_law.2.1 1024 = .ok (.aload_n 0, 1) := by decide +kernel
theorem dL_law_1025 : decode mL_law.2.1 1025 = .ok (.iload 4, 2) := by decide +kernel
theorem dL_law_1027 : decode mL_law.2.1 1027 = .ok (.iconst 1, 1) := by decide +kernel
theorem dL_law_1028 : decode mL_law.2.1 1028 = .ok (.iadd, 1) := by decide +kernel
theorem dL_law_1029 : decode mL_law.2.1 1029 = .ok (.iaload, 1) := by decide +kernel
theorem dL_law_1030 : decode mL_law.2.1 1030 = .ok (.aload_n 0, 1) := by decide +kernel
theorem dL_law_1031 : decode mL_law.2.1 1031 = .ok (.iload 4, 2) := by decide +kernel
theorem dL_law_1033 : decode mL_law.2.1 1033 = .ok (.iconst 2, 1) := by decide +kernel
theorem dL_law_1034 : decode mL_law.2.1 1034 = .ok (.iadd, 1) := by decide +kernel
theorem dL_law_1035 : decode mL_law.2.1 1035 = .ok (.iaload, 1) := by decide +kernel
theorem dL_law_1036 : decode mL_law.2.1 1036 = .ok (.aload_n 0, 1) := by decide +kernel
theorem dL_law_1037 : decode mL_law.2.1 1037 = .ok (.iload 4, 2) := by decide +kernel
theorem dL_law_1039 : decode mL_law.2.1 1039 = .ok (.iconst 3, 1) := by decide +kernel
theorem dL_law_1040 : decode mL_law.2.1 1040 = .ok (.iadd, 1) := by decide +kernel
theorem dL_law_1041 : decode mL_law.2.1 1041 = .ok (.iaload, 1) := by decide +kernel
theorem dL_law_1042 : decode mL_law.2.1 1042 = .ok (.aload_n 3, 1) := by decide +kernel
theorem dL_law_1043 : decode mL_law.2.1 1043 = .ok (.invokestatic 150, 3) := by decide +kernel
theorem dL_law_1046 : decode mL_law.2.1 1046 = .ok (.istore 5, 2) := by decide +kernel
theorem dL_law_1048 : decode mL_law.2.1 1048 = .ok (.aload_n 2, 1) := by decide +kernel
theorem dL_law_1049 : decode mL_law.2.1 1049 = .ok (.aload_n 0, 1) := by decide +kernel
theorem dL_law_1050 : decode mL_law.2.1 1050 = .ok (.iload 4, 2) := by decide +kernel
theorem dL_law_1052 : decode mL_law.2.1 1052 = .ok (.iconst 1, 1) := by decide +kernel
theorem dL_law_1053 : decode mL_law.2.1 1053 = .ok (.iadd, 1) := by decide +kernel
theorem dL_law_1054 : decode mL_law.2.1 1054 = .ok (.iaload, 1) := by decide +kernel
theorem dL_law_1055 : decode mL_law.2.1 1055 = .ok (.aload_n 0, 1) := by decide +kernel
theorem dL_law_1056 : decode mL_law.2.1 1056 = .ok (.iload 4, 2) := by decide +kernel
theorem dL_law_1058 : decode mL_law.2.1 1058 = .ok (.iconst 2, 1) := by decide +kernel
theorem dL_law_1059 : decode mL_law.2.1 1059 = .ok (.iadd, 1) := by decide +kernel
theorem dL_law_1060 : decode mL_law.2.1 1060 = .ok (.iaload, 1) := by decide +kernel
theorem dL_law_1061 : decode mL_law.2.1 1061 = .ok (.aload_n 0, 1) := by decide +kernel
theorem dL_law_1062 : decode mL_law.2.1 1062 = .ok (.iload 4, 2) := by decide +kernel
theorem dL_law_1064 : decode mL_law.2.1 1064 = .ok (.iconst 3, 1) := by decide +kernel
theorem dL_law_1065 : decode mL_law.2.1 1065 = .ok (.iadd, 1) := by decide +kernel
theorem dL_law_1066 : decode mL_law.2.1 1066 = .ok (.iaload, 1) := by decide +kernel
theorem dL_law_1067 : decode mL_law.2.1 1067 = .ok (.invokevirtual 152, 3) := by decide +kernel
theorem dL_law_1070 : decode mL_law.2.1 1070 = .ok (.istore 6, 2) := by decide +kernel
theorem dL_law_1072 : decode mL_law.2.1 1072 = .ok (.aload_n 2, 1) := by decide +kernel
theorem dL_law_1073 : decode mL_law.2.1 1073 = .ok (.invokevirtual 105, 3) := by decide +kernel
theorem dL_law_1076 : decode mL_law.2.1 1076 = .ok (.iload 5, 2) := by decide +kernel
theorem dL_law_1078 : decode mL_law.2.1 1078 = .ok (.if_icmp .eq 5, 3) := by decide +kernel
theorem dL_law_1081 : decode mL_law.2.1 1081 = .ok (.iconst 0, 1) := by decide +kernel
theorem dL_law_1082 : decode mL_law.2.1 1082 = .ok (.ireturn, 1) := by decide +kernel
theorem dL_law_1083 : decode mL_law.2.1 1083 = .ok (.iload 5, 2) := by decide +kernel
theorem dL_law_1085 : decode mL_law.2.1 1085 = .ok (.ifCond .ne 15, 3) := by decide +kernel
theorem dL_law_1088 : decode mL_law.2.1 1088 = .ok (.aload_n 3, 1) := by decide +kernel
theorem dL_law_1089 : decode mL_law.2.1 1089 = .ok (.iconst 0, 1) := by decide +kernel
theorem dL_law_1090 : decode mL_law.2.1 1090 = .ok (.laload, 1) := by decide +kernel
theorem dL_law_1091 : decode mL_law.2.1 1091 = .ok (.iload 6, 2) := by decide +kernel
theorem dL_law_1093 : decode mL_law.2.1 1093 = .ok (.i2l, 1) := by decide +kernel
theorem dL_law_1094 : decode mL_law.2.1 1094 = .ok (.lcmp, 1) := by decide +kernel
theorem dL_law_1095 : decode mL_law.2.1 1095 = .ok (.ifCond .eq 5, 3) := by decide +kernel
theorem dL_law_1098 : decode mL_law.2.1 1098 = .ok (.iconst 0, 1) := by decide +kernel
theorem dL_law_1099 : decode mL_law.2.1 1099 = .ok (.ireturn, 1) := by decide +kernel
theorem dL_law_1100 : decode mL_law.2.1 1100 = .ok (.goto 590, 3) := by decide +kernel
theorem dL_law_1103 : decode mL_law.2.1 1103 = .ok (.aload_n 1, 1) := by decide +kernel
theorem dL_law_1104 : decode mL_law.2.1 1104 = .ok (.aload_n 0, 1) := by decide +kernel
theorem dL_law_1105 : decode mL_law.2.1 1105 = .ok (.iload 4, 2) := by decide +kernel
theorem dL_law_1107 : decode mL_law.2.1 1107 = .ok (.iconst 1, 1) := by decide +kernel
theorem dL_law_1108 : decode mL_law.2.1 1108 = .ok (.iadd, 1) := by decide +kernel
theorem dL_law_1109 : decode mL_law.2.1 1109 = .ok (.iaload, 1) := by decide +kernel
theorem dL_law_1110 : decode mL_law.2.1 1110 = .ok (.aload_n 0, 1) := by decide +kernel
theorem dL_law_1111 : decode mL_law.2.1 1111 = .ok (.iload 4, 2) := by decide +kernel
theorem dL_law_1113 : decode mL_law.2.1 1113 = .ok (.iconst 2, 1) := by decide +kernel
theorem dL_law_1114 : decode mL_law.2.1 1114 = .ok (.iadd, 1) := by decide +kernel
theorem dL_law_1115 : decode mL_law.2.1 1115 = .ok (.iaload, 1) := by decide +kernel
theorem dL_law_1116 : decode mL_law.2.1 1116 = .ok (.aload_n 0, 1) := by decide +kernel
theorem dL_law_1117 : decode mL_law.2.1 1117 = .ok (.iload 4, 2) := by decide +kernel
theorem dL_law_1119 : decode mL_law.2.1 1119 = .ok (.iconst 3, 1) := by decide +kernel
theorem dL_law_1120 : decode mL_law.2.1 1120 = .ok (.iadd, 1) := by decide +kernel
theorem dL_law_1121 : decode mL_law.2.1 1121 = .ok (.iaload, 1) := by decide +kernel
theorem dL_law_1122 : decode mL_law.2.1 1122 = .ok (.aload_n 3, 1) := by decide +kernel
theorem dL_law_1123 : decode mL_law.2.1 1123 = .ok (.invokestatic 153, 3) := by decide +kernel
theorem dL_law_1126 : decode mL_law.2.1 1126 = .ok (.istore 5, 2) := by decide +kernel
theorem dL_law_1128 : decode mL_law.2.1 1128 = .ok (.aload_n 2, 1) := by decide +kernel
theorem dL_law_1129 : decode mL_law.2.1 1129 = .ok (.aload_n 0, 1) := by decide +kernel
theorem dL_law_1130 : decode mL_law.2.1 1130 = .ok (.iload 4, 2) := by decide +kernel
theorem dL_law_1132 : decode mL_law.2.1 1132 = .ok (.iconst 1, 1) := by decide +kernel
theorem dL_law_1133 : decode mL_law.2.1 1133 = .ok (.iadd, 1) := by decide +kernel
theorem dL_law_1134 : decode mL_law.2.1 1134 = .ok (.iaload, 1) := by decide +kernel
theorem dL_law_1135 : decode mL_law.2.1 1135 = .ok (.aload_n 0, 1) := by decide +kernel
theorem dL_law_1136 : decode mL_law.2.1 1136 = .ok (.iload 4, 2) := by decide +kernel
theorem dL_law_1138 : decode mL_law.2.1 1138 = .ok (.iconst 2, 1) := by decide +kernel
theorem dL_law_1139 : decode mL_law.2.1 1139 = .ok (.iadd, 1) := by decide +kernel
theorem dL_law_1140 : decode mL_law.2.1 1140 = .ok (.iaload, 1) := by decide +kernel
theorem dL_law_1141 : decode mL_law.2.1 1141 = .ok (.aload_n 0, 1) := by decide +kernel
theorem dL_law_1142 : decode mL_law.2.1 1142 = .ok (.iload 4, 2) := by decide +kernel
theorem dL_law_1144 : decode mL_law.2.1 1144 = .ok (.iconst 3, 1) := by decide +kernel
theorem dL_law_1145 : decode mL_law.2.1 1145 = .ok (.iadd, 1) := by decide +kernel
theorem dL_law_1146 : decode mL_law.2.1 1146 = .ok (.iaload, 1) := by decide +kernel
theorem dL_law_1147 : decode mL_law.2.1 1147 = .ok (.invokevirtual 155, 3) := by decide +kernel
theorem dL_law_1150 : decode mL_law.2.1 1150 = .ok (.istore 6, 2) := by decide +kernel
theorem dL_law_1152 : decode mL_law.2.1 1152 = .ok (.aload_n 2, 1) := by decide +kernel
theorem dL_law_1153 : decode mL_law.2.1 1153 = .ok (.invokevirtual 105, 3) := by decide +kernel
theorem dL_law_1156 : decode mL_law.2.1 1156 = .ok (.iload 5, 2) := by decide +kernel
theorem dL_law_1158 : decode mL_law.2.1 1158 = .ok (.if_icmp .eq 5, 3) := by decide +kernel
theorem dL_law_1161 : decode mL_law.2.1 1161 = .ok (.iconst 0, 1) := by decide +kernel
theorem dL_law_1162 : decode mL_law.2.1 1162 = .ok (.ireturn, 1) := by decide +kernel
theorem dL_law_1163 : decode mL_law.2.1 1163 = .ok (.iload 5, 2) := by decide +kernel
theorem dL_law_1165 : decode mL_law.2.1 1165 = .ok (.ifCond .ne 15, 3) := by decide +kernel
theorem dL_law_1168 : decode mL_law.2.1 1168 = .ok (.aload_n 3, 1) := by decide +kernel
theorem dL_law_1169 : decode mL_law.2.1 1169 = .ok (.iconst 0, 1) := by decide +kernel
theorem dL_law_1170 : decode mL_law.2.1 1170 = .ok (.laload, 1) := by decide +kernel
theorem dL_law_1171 : decode mL_law.2.1 1171 = .ok (.iload 6, 2) := by decide +kernel
theorem dL_law_1173 : decode mL_law.2.1 1173 = .ok (.i2l, 1) := by decide +kernel
theorem dL_law_1174 : decode mL_law.2.1 1174 = .ok (.lcmp, 1) := by decide +kernel
theorem dL_law_1175 : decode mL_law.2.1 1175 = .ok (.ifCond .eq 5, 3) := by decide +kernel
theorem dL_law_1178 : decode mL_law.2.1 1178 = .ok (.iconst 0, 1) := by decide +kernel
theorem dL_law_1179 : decode mL_law.2.1 1179 = .ok (.ireturn, 1) := by decide +kernel
theorem dL_law_1180 : decode mL_law.2.1 1180 = .ok (.goto 510, 3) := by decide +kernel
theorem dL_law_1183 : decode mL_law.2.1 1183 = .ok (.aload_n 1, 1) := by decide +kernel
theorem dL_law_1184 : decode mL_law.2.1 1184 = .ok (.aload_n 0, 1) := by decide +kernel
theorem dL_law_1185 : decode mL_law.2.1 1185 = .ok (.iload 4, 2) := by decide +kernel
theorem dL_law_1187 : decode mL_law.2.1 1187 = .ok (.iconst 1, 1) := by decide +kernel
theorem dL_law_1188 : decode mL_law.2.1 1188 = .ok (.iadd, 1) := by decide +kernel
theorem dL_law_1189 : decode mL_law.2.1 1189 = .ok (.iaload, 1) := by decide +kernel
theorem dL_law_1190 : decode mL_law.2.1 1190 = .ok (.aload_n 3, 1) := by decide +kernel
theorem dL_law_1191 : decode mL_law.2.1 1191 = .ok (.invokestatic 156, 3) := by decide +kernel
theorem dL_law_1194 : decode mL_law.2.1 1194 = .ok (.istore 5, 2) := by decide +kernel
theorem dL_law_1196 : decode mL_law.2.1 1196 = .ok (.aload_n 2, 1) := by decide +kernel
theorem dL_law_1197 : decode mL_law.2.1 1197 = .ok (.aload_n 0, 1) := by decide +kernel
theorem dL_law_1198 : decode mL_law.2.1 1198 = .ok (.iload 4, 2) := by decide +kernel
theorem dL_law_1200 : decode mL_law.2.1 1200 = .ok (.iconst 1, 1) := by decide +kernel
theorem dL_law_1201 : decode mL_law.2.1 1201 = .ok (.iadd, 1) := by decide +kernel
theorem dL_law_1202 : decode mL_law.2.1 1202 = .ok (.iaload, 1) := by decide +kernel
theorem dL_law_1203 : decode mL_law.2.1 1203 = .ok (.invokevirtual 158, 3) := by decide +kernel
theorem dL_law_1206 : decode mL_law.2.1 1206 = .ok (.istore 6, 2) := by decide +kernel
theorem dL_law_1208 : decode mL_law.2.1 1208 = .ok (.aload_n 2, 1) := by decide +kernel
theorem dL_law_1209 : decode mL_law.2.1 1209 = .ok (.invokevirtual 105, 3) := by decide +kernel
theorem dL_law_1212 : decode mL_law.2.1 1212 = .ok (.iload 5, 2) := by decide +kernel
theorem dL_law_1214 : decode mL_law.2.1 1214 = .ok (.if_icmp .eq 5, 3) := by decide +kernel
theorem dL_law_1217 : decode mL_law.2.1 1217 = .ok (.iconst 0, 1) := by decide +kernel
theorem dL_law_1218 : decode mL_law.2.1 1218 = .ok (.ireturn, 1) := by decide +kernel
theorem dL_law_1219 : decode mL_law.2.1 1219 = .ok (.iload 5, 2) := by decide +kernel
theorem dL_law_1221 : decode mL_law.2.1 1221 = .ok (.ifCond .ne 15, 3) := by decide +kernel
theorem dL_law_1224 : decode mL_law.2.1 1224 = .ok (.aload_n 3, 1) := by decide +kernel
theorem dL_law_1225 : decode mL_law.2.1 1225 = .ok (.iconst 0, 1) := by decide +kernel
theorem dL_law_1226 : decode mL_law.2.1 1226 = .ok (.laload, 1) := by decide +kernel
theorem dL_law_1227 : decode mL_law.2.1 1227 = .ok (.iload 6, 2) := by decide +kernel
theorem dL_law_1229 : decode mL_law.2.1 1229 = .ok (.i2l, 1) := by decide +kernel
theorem dL_law_1230 : decode mL_law.2.1 1230 = .ok (.lcmp, 1) := by decide +kernel
theorem dL_law_1231 : decode mL_law.2.1 1231 = .ok (.ifCond .eq 5, 3) := by decide +kernel
theorem dL_law_1234 : decode mL_law.2.1 1234 = .ok (.iconst 0, 1) := by decide +kernel
theorem dL_law_1235 : decode mL_law.2.1 1235 = .ok (.ireturn, 1) := by decide +kernel
theorem dL_law_1236 : decode mL_law.2.1 1236 = .ok (.goto 454, 3) := by decide +kernel
theorem dL_law_1239 : decode mL_law.2.1 1239 = .ok (.aload_n 1, 1) := by decide +kernel
theorem dL_law_1240 : decode mL_law.2.1 1240 = .ok (.aload_n 0, 1) := by decide +kernel
theorem dL_law_1241 : decode mL_law.2.1 1241 = .ok (.iload 4, 2) := by decide +kernel
theorem dL_law_1243 : decode mL_law.2.1 1243 = .ok (.iconst 1, 1) := by decide +kernel
theorem dL_law_1244 : decode mL_law.2.1 1244 = .ok (.iadd, 1) := by decide +kernel
theorem dL_law_1245 : decode mL_law.2.1 1245 = .ok (.iaload, 1) := by decide +kernel
theorem dL_law_1246 : decode mL_law.2.1 1246 = .ok (.aload_n 0, 1) := by decide +kernel
theorem dL_law_1247 : decode mL_law.2.1 1247 = .ok (.iload 4, 2) := by decide +kernel
theorem dL_law_1249 : decode mL_law.2.1 1249 = .ok (.iconst 2, 1) := by decide +kernel
theorem dL_law_1250 : decode mL_law.2.1 1250 = .ok (.iadd, 1) := by decide +kernel
theorem dL_law_1251 : decode mL_law.2.1 1251 = .ok (.iaload, 1) := by decide +kernel
theorem dL_law_1252 : decode mL_law.2.1 1252 = .ok (.aload_n 3, 1) := by decide +kernel
theorem dL_law_1253 : decode mL_law.2.1 1253 = .ok (.invokestatic 159, 3) := by decide +kernel
theorem dL_law_1256 : decode mL_law.2.1 1256 = .ok (.istore 5, 2) := by decide +kernel
theorem dL_law_1258 : decode mL_law.2.1 1258 = .ok (.aload_n 2, 1) := by decide +kernel
theorem dL_law_1259 : decode mL_law.2.1 1259 = .ok (.aload_n 0, 1) := by decide +kernel
theorem dL_law_1260 : decode mL_law.2.1 1260 = .ok (.iload 4, 2) := by decide +kernel
theorem dL_law_1262 : decode mL_law.2.1 1262 = .ok (.iconst 1, 1) := by decide +kernel
theorem dL_law_1263 : decode mL_law.2.1 1263 = .ok (.iadd, 1) := by decide +kernel
theorem dL_law_1264 : decode mL_law.2.1 1264 = .ok (.iaload, 1) := by decide +kernel
theorem dL_law_1265 : decode mL_law.2.1 1265 = .ok (.aload_n 0, 1) := by decide +kernel
theorem dL_law_1266 : decode mL_law.2.1 1266 = .ok (.iload 4, 2) := by decide +kernel
theorem dL_law_1268 : decode mL_law.2.1 1268 = .ok (.iconst 2, 1) := by decide +kernel
theorem dL_law_1269 : decode mL_law.2.1 1269 = .ok (.iadd, 1) := by decide +kernel
theorem dL_law_1270 : decode mL_law.2.1 1270 = .ok (.iaload, 1) := by decide +kernel
theorem dL_law_1271 : decode mL_law.2.1 1271 = .ok (.invokevirtual 161, 3) := by decide +kernel
theorem dL_law_1274 : decode mL_law.2.1 1274 = .ok (.istore 6, 2) := by decide +kernel
theorem dL_law_1276 : decode mL_law.2.1 1276 = .ok (.aload_n 2, 1) := by decide +kernel
theorem dL_law_1277 : decode mL_law.2.1 1277 = .ok (.invokevirtual 105, 3) := by decide +kernel
theorem dL_law_1280 : decode mL_law.2.1 1280 = .ok (.iload 5, 2) := by decide +kernel
theorem dL_law_1282 : decode mL_law.2.1 1282 = .ok (.if_icmp .eq 5, 3) := by decide +kernel
theorem dL_law_1285 : decode mL_law.2.1 1285 = .ok (.iconst 0, 1) := by decide +kernel
theorem dL_law_1286 : decode mL_law.2.1 1286 = .ok (.ireturn, 1) := by decide +kernel
theorem dL_law_1287 : decode mL_law.2.1 1287 = .ok (.iload 5, 2) := by decide +kernel
theorem dL_law_1289 : decode mL_law.2.1 1289 = .ok (.ifCond .ne 15, 3) := by decide +kernel
theorem dL_law_1292 : decode mL_law.2.1 1292 = .ok (.aload_n 3, 1) := by decide +kernel
theorem dL_law_1293 : decode mL_law.2.1 1293 = .ok (.iconst 0, 1) := by decide +kernel
theorem dL_law_1294 : decode mL_law.2.1 1294 = .ok (.laload, 1) := by decide +kernel
theorem dL_law_1295 : decode mL_law.2.1 1295 = .ok (.iload 6, 2) := by decide +kernel
theorem dL_law_1297 : decode mL_law.2.1 1297 = .ok (.i2l, 1) := by decide +kernel
theorem dL_law_1298 : decode mL_law.2.1 1298 = .ok (.lcmp, 1) := by decide +kernel
theorem dL_law_1299 : decode mL_law.2.1 1299 = .ok (.ifCond .eq 5, 3) := by decide +kernel
theorem dL_law_1302 : decode mL_law.2.1 1302 = .ok (.iconst 0, 1) := by decide +kernel
theorem dL_law_1303 : decode mL_law.2.1 1303 = .ok (.ireturn, 1) := by decide +kernel
theorem dL_law_1304 : decode mL_law.2.1 1304 = .ok (.goto 386, 3) := by decide +kernel
theorem dL_law_1307 : decode mL_law.2.1 1307 = .ok (.aload_n 1, 1) := by decide +kernel
theorem dL_law_1308 : decode mL_law.2.1 1308 = .ok (.aload_n 0, 1) := by decide +kernel
theorem dL_law_1309 : decode mL_law.2.1 1309 = .ok (.iload 4, 2) := by decide +kernel
theorem dL_law_1311 : decode mL_law.2.1 1311 = .ok (.iconst 1, 1) := by decide +kernel
theorem dL_law_1312 : decode mL_law.2.1 1312 = .ok (.iadd, 1) := by decide +kernel
theorem dL_law_1313 : decode mL_law.2.1 1313 = .ok (.iaload, 1) := by decide +kernel
theorem dL_law_1314 : decode mL_law.2.1 1314 = .ok (.aload_n 0, 1) := by decide +kernel
theorem dL_law_1315 : decode mL_law.2.1 1315 = .ok (.iload 4, 2) := by decide +kernel
theorem dL_law_1317 : decode mL_law.2.1 1317 = .ok (.iconst 2, 1) := by decide +kernel
theorem dL_law_1318 : decode mL_law.2.1 1318 = .ok (.iadd, 1) := by decide +kernel
theorem dL_law_1319 : decode mL_law.2.1 1319 = .ok (.iaload, 1) := by decide +kernel
theorem dL_law_1320 : decode mL_law.2.1 1320 = .ok (.aload_n 3, 1) := by decide +kernel
theorem dL_law_1321 : decode mL_law.2.1 1321 = .ok (.invokestatic 162, 3) := by decide +kernel
theorem dL_law_1324 : decode mL_law.2.1 1324 = .ok (.istore 5, 2) := by decide +kernel
theorem dL_law_1326 : decode mL_law.2.1 1326 = .ok (.aload_n 2, 1) := by decide +kernel
theorem dL_law_1327 : decode mL_law.2.1 1327 = .ok (.aload_n 0, 1) := by decide +kernel
theorem dL_law_1328 : decode mL_law.2.1 1328 = .ok (.iload 4, 2) := by decide +kernel
theorem dL_law_1330 : decode mL_law.2.1 1330 = .ok (.iconst 1, 1) := by decide +kernel
theorem dL_law_1331 : decode mL_law.2.1 1331 = .ok (.iadd, 1) := by decide +kernel
theorem dL_law_1332 : decode mL_law.2.1 1332 = .ok (.iaload, 1) := by decide +kernel
theorem dL_law_1333 : decode mL_law.2.1 1333 = .ok (.aload_n 0, 1) := by decide +kernel
theorem dL_law_1334 : decode mL_law.2.1 1334 = .ok (.iload 4, 2) := by decide +kernel
theorem dL_law_1336 : decode mL_law.2.1 1336 = .ok (.iconst 2, 1) := by decide +kernel
theorem dL_law_1337 : decode mL_law.2.1 1337 = .ok (.iadd, 1) := by decide +kernel
theorem dL_law_1338 : decode mL_law.2.1 1338 = .ok (.iaload, 1) := by decide +kernel
theorem dL_law_1339 : decode mL_law.2.1 1339 = .ok (.invokevirtual 164, 3) := by decide +kernel
theorem dL_law_1342 : decode mL_law.2.1 1342 = .ok (.lstore 6, 2) := by decide +kernel
theorem dL_law_1344 : decode mL_law.2.1 1344 = .ok (.aload_n 2, 1) := by decide +kernel
theorem dL_law_1345 : decode mL_law.2.1 1345 = .ok (.invokevirtual 105, 3) := by decide +kernel
theorem dL_law_1348 : decode mL_law.2.1 1348 = .ok (.iload 5, 2) := by decide +kernel
theorem dL_law_1350 : decode mL_law.2.1 1350 = .ok (.if_icmp .eq 5, 3) := by decide +kernel
theorem dL_law_1353 : decode mL_law.2.1 1353 = .ok (.iconst 0, 1) := by decide +kernel
theorem dL_law_1354 : decode mL_law.2.1 1354 = .ok (.ireturn, 1) := by decide +kernel
theorem dL_law_1355 : decode mL_law.2.1 1355 = .ok (.iload 5, 2) := by decide +kernel
theorem dL_law_1357 : decode mL_law.2.1 1357 = .ok (.ifCond .ne 14, 3) := by decide +kernel
theorem dL_law_1360 : decode mL_law.2.1 1360 = .ok (.aload_n 3, 1) := by decide +kernel
theorem dL_law_1361 : decode mL_law.2.1 1361 = .ok (.iconst 0, 1) := by decide +kernel
theorem dL_law_1362 : decode mL_law.2.1 1362 = .ok (.laload, 1) := by decide +kernel
theorem dL_law_1363 : decode mL_law.2.1 1363 = .ok (.lload 6, 2) := by decide +kernel
theorem dL_law_1365 : decode mL_law.2.1 1365 = .ok (.lcmp, 1) := by decide +kernel
theorem dL_law_1366 : decode mL_law.2.1 1366 = .ok (.ifCond .eq 5, 3) := by decide +kernel
theorem dL_law_1369 : decode mL_law.2.1 1369 = .ok (.iconst 0, 1) := by decide +kernel
theorem dL_law_1370 : decode mL_law.2.1 1370 = .ok (.ireturn, 1) := by decide +kernel
theorem dL_law_1371 : decode mL_law.2.1 1371 = .ok (.goto 319, 3) := by decide +kernel
theorem dL_law_1374 : decode mL_law.2.1 1374 = .ok (.aload_n 1, 1) := by decide +kernel
theorem dL_law_1375 : decode mL_law.2.1 1375 = .ok (.aload_n 0, 1) := by decide +kernel
theorem dL_law_1376 : decode mL_law.2.1 1376 = .ok (.iload 4, 2) := by decide +kernel
theorem dL_law_1378 : decode mL_law.2.1 1378 = .ok (.iconst 1, 1) := by decide +kernel
theorem dL_law_1379 : decode mL_law.2.1 1379 = .ok (.iadd, 1) := by decide +kernel
theorem dL_law_1380 : decode mL_law.2.1 1380 = .ok (.iaload, 1) := by decide +kernel
theorem dL_law_1381 : decode mL_law.2.1 1381 = .ok (.aload_n 0, 1) := by decide +kernel
theorem dL_law_1382 : decode mL_law.2.1 1382 = .ok (.iload 4, 2) := by decide +kernel
theorem dL_law_1384 : decode mL_law.2.1 1384 = .ok (.iconst 2, 1) := by decide +kernel
theorem dL_law_1385 : decode mL_law.2.1 1385 = .ok (.iadd, 1) := by decide +kernel
theorem dL_law_1386 : decode mL_law.2.1 1386 = .ok (.iaload, 1) := by decide +kernel
theorem dL_law_1387 : decode mL_law.2.1 1387 = .ok (.aload_n 3, 1) := by decide +kernel
theorem dL_law_1388 : decode mL_law.2.1 1388 = .ok (.invokestatic 165, 3) := by decide +kernel
theorem dL_law_1391 : decode mL_law.2.1 1391 = .ok (.istore 5, 2) := by decide +kernel
theorem dL_law_1393 : decode mL_law.2.1 1393 = .ok (.aload_n 2, 1) := by decide +kernel
theorem dL_law_1394 : decode mL_law.2.1 1394 = .ok (.aload_n 0, 1) := by decide +kernel
theorem dL_law_1395 : decode mL_law.2.1 1395 = .ok (.iload 4, 2) := by decide +kernel
theorem dL_law_1397 : decode mL_law.2.1 1397 = .ok (.iconst 1, 1) := by decide +kernel
theorem dL_law_1398 : decode mL_law.2.1 1398 = .ok (.iadd, 1) := by decide +kernel
theorem dL_law_1399 : decode mL_law.2.1 1399 = .ok (.iaload, 1) := by decide +kernel
theorem dL_law_1400 : decode mL_law.2.1 1400 = .ok (.aload_n 0, 1) := by decide +kernel
theorem dL_law_1401 : decode mL_law.2.1 1401 = .ok (.iload 4, 2) := by decide +kernel
theorem dL_law_1403 : decode mL_law.2.1 1403 = .ok (.iconst 2, 1) := by decide +kernel
theorem dL_law_1404 : decode mL_law.2.1 1404 = .ok (.iadd, 1) := by decide +kernel
theorem dL_law_1405 : decode mL_law.2.1 1405 = .ok (.iaload, 1) := by decide +kernel
theorem dL_law_1406 : decode mL_law.2.1 1406 = .ok (.invokevirtual 167, 3) := by decide +kernel
theorem dL_law_1409 : decode mL_law.2.1 1409 = .ok (.istore 6, 2) := by decide +kernel
theorem dL_law_1411 : decode mL_law.2.1 1411 = .ok (.aload_n 2, 1) := by decide +kernel
theorem dL_law_1412 : decode mL_law.2.1 1412 = .ok (.invokevirtual 105, 3) := by decide +kernel
theorem dL_law_1415 : decode mL_law.2.1 1415 = .ok (.iload 5, 2) := by decide +kernel
theorem dL_law_1417 : decode mL_law.2.1 1417 = .ok (.if_icmp .eq 5, 3) := by decide +kernel
theorem dL_law_1420 : decode mL_law.2.1 1420 = .ok (.iconst 0, 1) := by decide +kernel
theorem dL_law_1421 : decode mL_law.2.1 1421 = .ok (.ireturn, 1) := by decide +kernel
theorem dL_law_1422 : decode mL_law.2.1 1422 = .ok (.iload 5, 2) := by decide +kernel
theorem dL_law_1424 : decode mL_law.2.1 1424 = .ok (.ifCond .ne 15, 3) := by decide +kernel
theorem dL_law_1427 : decode mL_law.2.1 1427 = .ok (.aload_n 3, 1) := by decide +kernel
theorem dL_law_1428 : decode mL_law.2.1 1428 = .ok (.iconst 0, 1) := by decide +kernel
theorem dL_law_1429 : decode mL_law.2.1 1429 = .ok (.laload, 1) := by decide +kernel
theorem dL_law_1430 : decode mL_law.2.1 1430 = .ok (.iload 6, 2) := by decide +kernel
theorem dL_law_1432 : decode mL_law.2.1 1432 = .ok (.i2l, 1) := by decide +kernel
theorem dL_law_1433 : decode mL_law.2.1 1433 = .ok (.lcmp, 1) := by decide +kernel
theorem dL_law_1434 : decode mL_law.2.1 1434 = .ok (.ifCond .eq 5, 3) := by decide +kernel
theorem dL_law_1437 : decode mL_law.2.1 1437 = .ok (.iconst 0, 1) := by decide +kernel
theorem dL_law_1438 : decode mL_law.2.1 1438 = .ok (.ireturn, 1) := by decide +kernel
theorem dL_law_1439 : decode mL_law.2.1 1439 = .ok (.goto 251, 3) := by decide +kernel
theorem dL_law_1442 : decode mL_law.2.1 1442 = .ok (.aload_n 1, 1) := by decide +kernel
theorem dL_law_1443 : decode mL_law.2.1 1443 = .ok (.aload_n 0, 1) := by decide +kernel
theorem dL_law_1444 : decode mL_law.2.1 1444 = .ok (.iload 4, 2) := by decide +kernel
theorem dL_law_1446 : decode mL_law.2.1 1446 = .ok (.iconst 1, 1) := by decide +kernel
theorem dL_law_1447 : decode mL_law.2.1 1447 = .ok (.iadd, 1) := by decide +kernel
theorem dL_law_1448 : decode mL_law.2.1 1448 = .ok (.iaload, 1) := by decide +kernel
theorem dL_law_1449 : decode mL_law.2.1 1449 = .ok (.aload_n 0, 1) := by decide +kernel
theorem dL_law_1450 : decode mL_law.2.1 1450 = .ok (.iload 4, 2) := by decide +kernel
theorem dL_law_1452 : decode mL_law.2.1 1452 = .ok (.iconst 2, 1) := by decide +kernel
theorem dL_law_1453 : decode mL_law.2.1 1453 = .ok (.iadd, 1) := by decide +kernel
theorem dL_law_1454 : decode mL_law.2.1 1454 = .ok (.iaload, 1) := by decide +kernel
theorem dL_law_1455 : decode mL_law.2.1 1455 = .ok (.aload_n 3, 1) := by decide +kernel
theorem dL_law_1456 : decode mL_law.2.1 1456 = .ok (.invokestatic 168, 3) := by decide +kernel
theorem dL_law_1459 : decode mL_law.2.1 1459 = .ok (.istore 5, 2) := by decide +kernel
theorem dL_law_1461 : decode mL_law.2.1 1461 = .ok (.aload_n 2, 1) := by decide +kernel
theorem dL_law_1462 : decode mL_law.2.1 1462 = .ok (.aload_n 0, 1) := by decide +kernel
theorem dL_law_1463 : decode mL_law.2.1 1463 = .ok (.iload 4, 2) := by decide +kernel
theorem dL_law_1465 : decode mL_law.2.1 1465 = .ok (.iconst 1, 1) := by decide +kernel
theorem dL_law_1466 : decode mL_law.2.1 1466 = .ok (.iadd, 1) := by decide +kernel
theorem dL_law_1467 : decode mL_law.2.1 1467 = .ok (.iaload, 1) := by decide +kernel
theorem dL_law_1468 : decode mL_law.2.1 1468 = .ok (.aload_n 0, 1) := by decide +kernel
theorem dL_law_1469 : decode mL_law.2.1 1469 = .ok (.iload 4, 2) := by decide +kernel
theorem dL_law_1471 : decode mL_law.2.1 1471 = .ok (.iconst 2, 1) := by decide +kernel
theorem dL_law_1472 : decode mL_law.2.1 1472 = .ok (.iadd, 1) := by decide +kernel
theorem dL_law_1473 : decode mL_law.2.1 1473 = .ok (.iaload, 1) := by decide +kernel
theorem dL_law_1474 : decode mL_law.2.1 1474 = .ok (.invokevirtual 170, 3) := by decide +kernel
theorem dL_law_1477 : decode mL_law.2.1 1477 = .ok (.istore 6, 2) := by decide +kernel
theorem dL_law_1479 : decode mL_law.2.1 1479 = .ok (.aload_n 2, 1) := by decide +kernel
theorem dL_law_1480 : decode mL_law.2.1 1480 = .ok (.invokevirtual 105, 3) := by decide +kernel
theorem dL_law_1483 : decode mL_law.2.1 1483 = .ok (.iload 5, 2) := by decide +kernel
theorem dL_law_1485 : decode mL_law.2.1 1485 = .ok (.if_icmp .eq 5, 3) := by decide +kernel
theorem dL_law_1488 : decode mL_law.2.1 1488 = .ok (.iconst 0, 1) := by decide +kernel
theorem dL_law_1489 : decode mL_law.2.1 1489 = .ok (.ireturn, 1) := by decide +kernel
theorem dL_law_1490 : decode mL_law.2.1 1490 = .ok (.iload 5, 2) := by decide +kernel
theorem dL_law_1492 : decode mL_law.2.1 1492 = .ok (.ifCond .ne 15, 3) := by decide +kernel
theorem dL_law_1495 : decode mL_law.2.1 1495 = .ok (.aload_n 3, 1) := by decide +kernel
theorem dL_law_1496 : decode mL_law.2.1 1496 = .ok (.iconst 0, 1) := by decide +kernel
theorem dL_law_1497 : decode mL_law.2.1 1497 = .ok (.laload, 1) := by decide +kernel
theorem dL_law_1498 : decode mL_law.2.1 1498 = .ok (.iload 6, 2) := by decide +kernel
theorem dL_law_1500 : decode mL_law.2.1 1500 = .ok (.i2l, 1) := by decide +kernel
theorem dL_law_1501 : decode mL_law.2.1 1501 = .ok (.lcmp, 1) := by decide +kernel
theorem dL_law_1502 : decode mL_law.2.1 1502 = .ok (.ifCond .eq 5, 3) := by decide +kernel
theorem dL_law_1505 : decode mL_law.2.1 1505 = .ok (.iconst 0, 1) := by decide +kernel
theorem dL_law_1506 : decode mL_law.2.1 1506 = .ok (.ireturn, 1) := by decide +kernel
theorem dL_law_1507 : decode mL_law.2.1 1507 = .ok (.goto 183, 3) := by decide +kernel
theorem dL_law_1510 : decode mL_law.2.1 1510 = .ok (.aload_n 1, 1) := by decide +kernel
theorem dL_law_1511 : decode mL_law.2.1 1511 = .ok (.aload_n 0, 1) := by decide +kernel
theorem dL_law_1512 : decode mL_law.2.1 1512 = .ok (.iload 4, 2) := by decide +kernel
theorem dL_law_1514 : decode mL_law.2.1 1514 = .ok (.iconst 1, 1) := by decide +kernel
theorem dL_law_1515 : decode mL_law.2.1 1515 = .ok (.iadd, 1) := by decide +kernel
theorem dL_law_1516 : decode mL_law.2.1 1516 = .ok (.iaload, 1) := by decide +kernel
theorem dL_law_1517 : decode mL_law.2.1 1517 = .ok (.aload_n 3, 1) := by decide +kernel
theorem dL_law_1518 : decode mL_law.2.1 1518 = .ok (.invokestatic 171, 3) := by decide +kernel
theorem dL_law_1521 : decode mL_law.2.1 1521 = .ok (.istore 5, 2) := by decide +kernel
theorem dL_law_1523 : decode mL_law.2.1 1523 = .ok (.aload_n 2, 1) := by decide +kernel
theorem dL_law_1524 : decode mL_law.2.1 1524 = .ok (.aload_n 0, 1) := by decide +kernel
theorem dL_law_1525 : decode mL_law.2.1 1525 = .ok (.iload 4, 2) := by decide +kernel
theorem dL_law_1527 : decode mL_law.2.1 1527 = .ok (.iconst 1, 1) := by decide +kernel
theorem dL_law_1528 : decode mL_law.2.1 1528 = .ok (.iadd, 1) := by decide +kernel
theorem dL_law_1529 : decode mL_law.2.1 1529 = .ok (.iaload, 1) := by decide +kernel
theorem dL_law_1530 : decode mL_law.2.1 1530 = .ok (.invokevirtual 173, 3) := by decide +kernel
theorem dL_law_1533 : decode mL_law.2.1 1533 = .ok (.istore 6, 2) := by decide +kernel
theorem dL_law_1535 : decode mL_law.2.1 1535 = .ok (.aload_n 2, 1) := by decide +kernel
theorem dL_law_1536 : decode mL_law.2.1 1536 = .ok (.invokevirtual 105, 3) := by decide +kernel
theorem dL_law_1539 : decode mL_law.2.1 1539 = .ok (.iload 5, 2) := by decide +kernel
theorem dL_law_1541 : decode mL_law.2.1 1541 = .ok (.if_icmp .eq 5, 3) := by decide +kernel
theorem dL_law_1544 : decode mL_law.2.1 1544 = .ok (.iconst 0, 1) := by decide +kernel
theorem dL_law_1545 : decode mL_law.2.1 1545 = .ok (.ireturn, 1) := by decide +kernel
theorem dL_law_1546 : decode mL_law.2.1 1546 = .ok (.iload 5, 2) := by decide +kernel
theorem dL_law_1548 : decode mL_law.2.1 1548 = .ok (.ifCond .ne 15, 3) := by decide +kernel
theorem dL_law_1551 : decode mL_law.2.1 1551 = .ok (.aload_n 3, 1) := by decide +kernel
theorem dL_law_1552 : decode mL_law.2.1 1552 = .ok (.iconst 0, 1) := by decide +kernel
theorem dL_law_1553 : decode mL_law.2.1 1553 = .ok (.laload, 1) := by decide +kernel
theorem dL_law_1554 : decode mL_law.2.1 1554 = .ok (.iload 6, 2) := by decide +kernel
theorem dL_law_1556 : decode mL_law.2.1 1556 = .ok (.i2l, 1) := by decide +kernel
theorem dL_law_1557 : decode mL_law.2.1 1557 = .ok (.lcmp, 1) := by decide +kernel
theorem dL_law_1558 : decode mL_law.2.1 1558 = .ok (.ifCond .eq 5, 3) := by decide +kernel
theorem dL_law_1561 : decode mL_law.2.1 1561 = .ok (.iconst 0, 1) := by decide +kernel
theorem dL_law_1562 : decode mL_law.2.1 1562 = .ok (.ireturn, 1) := by decide +kernel
theorem dL_law_1563 : decode mL_law.2.1 1563 = .ok (.goto 127, 3) := by decide +kernel
theorem dL_law_1566 : decode mL_law.2.1 1566 = .ok (.aload_n 1, 1) := by decide +kernel
theorem dL_law_1567 : decode mL_law.2.1 1567 = .ok (.aload_n 0, 1) := by decide +kernel
theorem dL_law_1568 : decode mL_law.2.1 1568 = .ok (.iload 4, 2) := by decide +kernel
theorem dL_law_1570 : decode mL_law.2.1 1570 = .ok (.iconst 1, 1) := by decide +kernel
theorem dL_law_1571 : decode mL_law.2.1 1571 = .ok (.iadd, 1) := by decide +kernel
theorem dL_law_1572 : decode mL_law.2.1 1572 = .ok (.iaload, 1) := by decide +kernel
theorem dL_law_1573 : decode mL_law.2.1 1573 = .ok (.aload_n 3, 1) := by decide +kernel
theorem dL_law_1574 : decode mL_law.2.1 1574 = .ok (.invokestatic 174, 3) := by decide +kernel
theorem dL_law_1577 : decode mL_law.2.1 1577 = .ok (.istore 5, 2) := by decide +kernel
theorem dL_law_1579 : decode mL_law.2.1 1579 = .ok (.aload_n 2, 1) := by decide +kernel
theorem dL_law_1580 : decode mL_law.2.1 1580 = .ok (.aload_n 0, 1) := by decide +kernel
theorem dL_law_1581 : decode mL_law.2.1 1581 = .ok (.iload 4, 2) := by decide +kernel
theorem dL_law_1583 : decode mL_law.2.1 1583 = .ok (.iconst 1, 1) := by decide +kernel
theorem dL_law_1584 : decode mL_law.2.1 1584 = .ok (.iadd, 1) := by decide +kernel
theorem dL_law_1585 : decode mL_law.2.1 1585 = .ok (.iaload, 1) := by decide +kernel
theorem dL_law_1586 : decode mL_law.2.1 1586 = .ok (.invokevirtual 176, 3) := by decide +kernel
theorem dL_law_1589 : decode mL_law.2.1 1589 = .ok (.istore 6, 2) := by decide +kernel
theorem dL_law_1591 : decode mL_law.2.1 1591 = .ok (.aload_n 2, 1) := by decide +kernel
theorem dL_law_1592 : decode mL_law.2.1 1592 = .ok (.invokevirtual 105, 3) := by decide +kernel
theorem dL_law_1595 : decode mL_law.2.1 1595 = .ok (.iload 5, 2) := by decide +kernel
theorem dL_law_1597 : decode mL_law.2.1 1597 = .ok (.if_icmp .eq 5, 3) := by decide +kernel
theorem dL_law_1600 : decode mL_law.2.1 1600 = .ok (.iconst 0, 1) := by decide +kernel
theorem dL_law_1601 : decode mL_law.2.1 1601 = .ok (.ireturn, 1) := by decide +kernel
theorem dL_law_1602 : decode mL_law.2.1 1602 = .ok (.iload 5, 2) := by decide +kernel
theorem dL_law_1604 : decode mL_law.2.1 1604 = .ok (.ifCond .ne 15, 3) := by decide +kernel
theorem dL_law_1607 : decode mL_law.2.1 1607 = .ok (.aload_n 3, 1) := by decide +kernel
theorem dL_law_1608 : decode mL_law.2.1 1608 = .ok (.iconst 0, 1) := by decide +kernel
theorem dL_law_1609 : decode mL_law.2.1 1609 = .ok (.laload, 1) := by decide +kernel
theorem dL_law_1610 : decode mL_law.2.1 1610 = .ok (.iload 6, 2) := by decide +kernel
theorem dL_law_1612 : decode mL_law.2.1 1612 = .ok (.i2l, 1) := by decide +kernel
theorem dL_law_1613 : decode mL_law.2.1 1613 = .ok (.lcmp, 1) := by decide +kernel
theorem dL_law_1614 : decode mL_law.2.1 1614 = .ok (.ifCond .eq 5, 3) := by decide +kernel
theorem dL_law_1617 : decode mL_law.2.1 1617 = .ok (.iconst 0, 1) := by decide +kernel
theorem dL_law_1618 : decode mL_law.2.1 1618 = .ok (.ireturn, 1) := by decide +kernel
theorem dL_law_1619 : decode mL_law.2.1 1619 = .ok (.goto 71, 3) := by decide +kernel
theorem dL_law_1622 : decode mL_law.2.1 1622 = .ok (.aload_n 1, 1) := by decide +kernel
theorem dL_law_1623 : decode mL_law.2.1 1623 = .ok (.aload_n 0, 1) := by decide +kernel
theorem dL_law_1624 : decode mL_law.2.1 1624 = .ok (.iload 4, 2) := by decide +kernel
theorem dL_law_1626 : decode mL_law.2.1 1626 = .ok (.iconst 1, 1) := by decide +kernel
theorem dL_law_1627 : decode mL_law.2.1 1627 = .ok (.iadd, 1) := by decide +kernel
theorem dL_law_1628 : decode mL_law.2.1 1628 = .ok (.iaload, 1) := by decide +kernel
theorem dL_law_1629 : decode mL_law.2.1 1629 = .ok (.aload_n 0, 1) := by decide +kernel
theorem dL_law_1630 : decode mL_law.2.1 1630 = .ok (.iload 4, 2) := by decide +kernel
theorem dL_law_1632 : decode mL_law.2.1 1632 = .ok (.iconst 2, 1) := by decide +kernel
theorem dL_law_1633 : decode mL_law.2.1 1633 = .ok (.iadd, 1) := by decide +kernel
theorem dL_law_1634 : decode mL_law.2.1 1634 = .ok (.iaload, 1) := by decide +kernel
theorem dL_law_1635 : decode mL_law.2.1 1635 = .ok (.aload_n 3, 1) := by decide +kernel
theorem dL_law_1636 : decode mL_law.2.1 1636 = .ok (.invokestatic 177, 3) := by decide +kernel
theorem dL_law_1639 : decode mL_law.2.1 1639 = .ok (.istore 5, 2) := by decide +kernel
theorem dL_law_1641 : decode mL_law.2.1 1641 = .ok (.aload_n 2, 1) := by decide +kernel
theorem dL_law_1642 : decode mL_law.2.1 1642 = .ok (.aload_n 0, 1) := by decide +kernel
theorem dL_law_1643 : decode mL_law.2.1 1643 = .ok (.iload 4, 2) := by decide +kernel
theorem dL_law_1645 : decode mL_law.2.1 1645 = .ok (.iconst 1, 1) := by decide +kernel
theorem dL_law_1646 : decode mL_law.2.1 1646 = .ok (.iadd, 1) := by decide +kernel
theorem dL_law_1647 : decode mL_law.2.1 1647 = .ok (.iaload, 1) := by decide +kernel
theorem dL_law_1648 : decode mL_law.2.1 1648 = .ok (.aload_n 0, 1) := by decide +kernel
theorem dL_law_1649 : decode mL_law.2.1 1649 = .ok (.iload 4, 2) := by decide +kernel
theorem dL_law_1651 : decode mL_law.2.1 1651 = .ok (.iconst 2, 1) := by decide +kernel
theorem dL_law_1652 : decode mL_law.2.1 1652 = .ok (.iadd, 1) := by decide +kernel
theorem dL_law_1653 : decode mL_law.2.1 1653 = .ok (.iaload, 1) := by decide +kernel
theorem dL_law_1654 : decode mL_law.2.1 1654 = .ok (.invokevirtual 179, 3) := by decide +kernel
theorem dL_law_1657 : decode mL_law.2.1 1657 = .ok (.istore 6, 2) := by decide +kernel
theorem dL_law_1659 : decode mL_law.2.1 1659 = .ok (.aload_n 2, 1) := by decide +kernel
theorem dL_law_1660 : decode mL_law.2.1 1660 = .ok (.invokevirtual 105, 3) := by decide +kernel
theorem dL_law_1663 : decode mL_law.2.1 1663 = .ok (.iload 5, 2) := by decide +kernel
theorem dL_law_1665 : decode mL_law.2.1 1665 = .ok (.if_icmp .eq 5, 3) := by decide +kernel
theorem dL_law_1668 : decode mL_law.2.1 1668 = .ok (.iconst 0, 1) := by decide +kernel
theorem dL_law_1669 : decode mL_law.2.1 1669 = .ok (.ireturn, 1) := by decide +kernel
theorem dL_law_1670 : decode mL_law.2.1 1670 = .ok (.iload 5, 2) := by decide +kernel
theorem dL_law_1672 : decode mL_law.2.1 1672 = .ok (.ifCond .ne 15, 3) := by decide +kernel
theorem dL_law_1675 : decode mL_law.2.1 1675 = .ok (.aload_n 3, 1) := by decide +kernel
theorem dL_law_1676 : decode mL_law.2.1 1676 = .ok (.iconst 0, 1) := by decide +kernel
theorem dL_law_1677 : decode mL_law.2.1 1677 = .ok (.laload, 1) := by decide +kernel
theorem dL_law_1678 : decode mL_law.2.1 1678 = .ok (.iload 6, 2) := by decide +kernel
theorem dL_law_1680 : decode mL_law.2.1 1680 = .ok (.i2l, 1) := by decide +kernel
theorem dL_law_1681 : decode mL_law.2.1 1681 = .ok (.lcmp, 1) := by decide +kernel
theorem dL_law_1682 : decode mL_law.2.1 1682 = .ok (.ifCond .eq 5, 3) := by decide +kernel
theorem dL_law_1685 : decode mL_law.2.1 1685 = .ok (.iconst 0, 1) := by decide +kernel
theorem dL_law_1686 : decode mL_law.2.1 1686 = .ok (.ireturn, 1) := by decide +kernel
theorem dL_law_1687 : decode mL_law.2.1 1687 = .ok (.goto 3, 3) := by decide +kernel
theorem dL_law_1690 : decode mL_law.2.1 1690 = .ok (.iinc 4 7, 3) := by decide +kernel
theorem dL_law_1693 : decode mL_law.2.1 1693 = .ok (.goto (-1670), 3) := by decide +kernel
theorem dL_law_1696 : decode mL_law.2.1 1696 = .ok (.iconst 1, 1) := by decide +kernel
theorem dL_law_1697 : decode mL_law.2.1 1697 = .ok (.ireturn, 1) := by decide +kernel
end
section
/-! ===== the judgement. G: the classes; the words that every method has; the types of arrays; the texts that are thrown; words that are no good words but stay; the script ===== -/
abbrev se_G : Type := List vw_C × List Cond × List FieldType × List (String × Nat × String) × List Cond × List (Nat × Nat × (Nat → Int32))
def se_ok (G : se_G) : Prop := (∀ w ∈ G.2.1, goodWord w = true) ∧ ∀ w ∈ G.2.2.2.2.1, ∀ s U : State, s.WarmedH U.vm → va_Nw w s → va_Nw w U
section SE
variable {G : se_G} {l : Launch}
def se_tys (G : se_G) (dA : FieldType → ClassId) : List (ClassId × FieldType) := G.2.2.1.map (fun ty => (dA ty, ty))
/-- what holds of the heap's other cells and of the tables, beside the words -/
def se_Z (G : se_G) (A : Nat → Prop) (U : State) : Prop :=
  vx_Zq Bundle.tN "UNASSIGNED_STACK" Bundle.steD A U U.heap ∧ vx_Zq Bundle.tN "SUPPRESSED_SENTINEL" Bundle.listD A U U.heap ∧ (∀ q ∈ G.2.2.2.1, ∃ a, vk_R q.1 q.2.1 q.2.2 a U) ∧ (∀ w ∈ G.2.2.2.2.1, va_Nw w U) ∧ ∀ q ∈ G.2.2.2.2.2, va_X q.1 q.2.1 q.2.2 U U.heap ∧ ¬ A q.1
def se_St (G : se_G) (l : Launch) (d : Nat) (M : se_M) (p : Program) (R : Room) (s : State) (m : MethodId) (args : Array Value) (meth : Method) (c : Code) (D : va_G) (dA : FieldType → ClassId) (A : Nat → Prop) : Prop :=
  p.tables.exec = Jvm.exec ∧ c.code = M.2.1 ∧ c.maxLocals = M.2.2.1 ∧ meth.sig.returnType = M.2.2.2.1 ∧ s.vm.findClass M.1.cls = some m.cls ∧ (∀ w ∈ G.2.1, w.before args s = true) ∧ meth.locks = false ∧ c.exceptionTable.toList = tableOf M.2.2.2.2 ∧ va_K D G.1 (se_tys G dA) s ∧ (∀ q, s.heap.size ≤ q → A q) ∧ se_Z G A s ∧ (d ≤ R.frames ∧ 33 * d + 41 ≤ R.locals) ∧ meth.name = M.1.name ∧ l.stackTraces = false
def se_Dy (G : se_G) (M : se_M) (D : va_G) (dA : FieldType → ClassId) (A : Nat → Prop) (θ0 : Nat → Nat) (n0 : Nat) (θ : Nat → Nat) (s : State) (h : se_H) (H : Heap) (locs : List Loc) (L : List (Option Value)) (st : List Value) (ls : Array Slot) : Prop :=
  va_P D G.1 (se_w dA θ h) H ∧ va_D A (se_w dA θ h) ∧ va_S A s.heap H locs ∧ se_wh h ∧ (∀ v ∈ st, se_wv h.length v) ∧ se_L θ L ls M.2.2.1 ∧ se_wL h.length L ∧ n0 ≤ h.length ∧ ∀ k, k < n0 → θ k = θ0 k
/-- a world at the end -/
def se_B (G : se_G) (D : va_G) (dA : FieldType → ClassId) (A : Nat → Prop) (θ0 : Nat → Nat) (n0 : Nat) (h : se_H) (θ : Nat → Nat) (t : State) : Prop :=
  va_P D G.1 (se_w dA θ h) t.heap ∧ va_D A (se_w dA θ h) ∧ se_wh h ∧ n0 ≤ h.length ∧ ∀ k, k < n0 → θ k = θ0 k
def se_Q (G : se_G) (D : va_G) (dA : FieldType → ClassId) (A : Nat → Prop) (θ0 : Nat → Nat) (n0 : Nat) (Φ : se_O → se_H → Prop) : Array Value → State → Outcome → State → Prop := fun _ st o t =>
  (∃ (v : Option Value) (h : se_H) (θ : Nat → Nat), Φ (.inl v) h ∧ o = .returned (v.map (se_v θ)) ∧ (∀ x, v = some x → se_wv h.length x) ∧ se_B G D dA A θ0 n0 h θ t) ∧ va_F A st t
def se_X (G : se_G) (D : va_G) (dA : FieldType → ClassId) (A : Nat → Prop) (θ0 : Nat → Nat) (n0 : Nat) (Φ : se_O → se_H → Prop) : String → State → State → Prop := fun E st t =>
  (∃ (h : se_H) (θ : Nat → Nat), Φ (.inr E) h ∧ se_B G D dA A θ0 n0 h θ t) ∧ va_F A st t
/-- FROM HERE THE METHOD ENDS AS Φ SAYS, with at most C new cells of S slots: at pc, locals L, operands st, abstract heap h; d calls may nest below it -/
def se_W (G : se_G) (l : Launch) (d : Nat) (M : se_M) (pc : Nat) (L : List (Option Value)) (st : List Value) (h : se_H) (C S : Nat) (Φ : se_O → se_H → Prop) : Prop :=
  ∀ (p : Program) (e : Env) (R : Room) (s : State) (m : MethodId) (args : Array Value) (below : List Frame) (meth : Method) (c : Code) (D : va_G) (dA : FieldType → ClassId) (A : Nat → Prop) (θ0 : Nat → Nat) (n0 mc ms : Nat) (θ : Nat → Nat) (H : Heap) (locs : List Loc) (cells slots : Nat) (ls : Array Slot),
    se_St G l d M p R s m args meth c D dA A → se_Dy G M D dA A θ0 n0 θ s h H locs L st ls →
    cells + C ≤ mc → slots + S ≤ ms → mc ≤ R.cells → ms ≤ R.slots →
    W p l e R s m args below meth c H locs cells slots (vx_MQ below (se_Q G D dA A θ0 n0 Φ) (se_X G D dA A θ0 n0 Φ) args s mc ms A) (F0 m pc ls (st.map (se_v θ)))
variable {d : Nat} {M : se_M} {pc : Nat} {L : List (Option Value)} {st : List Value} {h : se_H} {C S : Nat} {Φ : se_O → se_H → Prop}
theorem se_mono {C' S' : Nat} {Ψ : se_O → se_H → Prop} (k : se_W G l d M pc L st h C' S' Ψ) (hC : C' ≤ C) (hS : S' ≤ S) (hΦ : ∀ o h', Ψ o h' → Φ o h') : se_W G l d M pc L st h C S Φ := by
  intro p e R s m args below meth c D dA A θ0 n0 mc ms θ H locs cells slots ls hs hd h1 h2 h3 h4 T hT X
  obtain ⟨t, a1, o, b1, b2, b3⟩ := k p e R s m args below meth c D dA A θ0 n0 mc ms θ H locs cells slots ls hs hd (by omega) (by omega) h3 h4 T hT X
  refine ⟨t, a1, o, b1, b2, ?_⟩
  rcases b3 with ⟨⟨⟨v, h', θ', g1, g2, g3, g4⟩, g5⟩, g6⟩ | ⟨q, g0, E, ce, L', ⟨⟨h', θ', g1, g2⟩, g3⟩, g4⟩
  · exact Or.inl ⟨⟨⟨v, h', θ', hΦ _ _ g1, g2, g3, g4⟩, g5⟩, g6⟩
  · exact Or.inr ⟨q, g0, E, ce, L', ⟨⟨h', θ', hΦ _ _ g1, g2⟩, g3⟩, g4⟩
/-- operands are numbers, or point into the heap -/
theorem se_i (n : Nat) (x : Int32) : se_wv n (.int x) := fun k hk => by cases hk
theorem se_j (n : Nat) (x : Int64) : se_wv n (.long x) := fun k hk => by cases hk
theorem se_n (n : Nat) : se_wv n .null := fun k hk => by cases hk
theorem se_r {n k : Nat} (hk : k < n) : se_wv n (.ref k) := fun j hj => by cases hj; exact hk
theorem se_push {n : Nat} {v : Value} {vs : List Value} (hv : se_wv n v) (h : ∀ w ∈ vs, se_wv n w) : ∀ w ∈ v :: vs, se_wv n w := fun w hw => (List.mem_cons.mp hw).elim (fun e => by rw [e]; exact hv) (h w)
theorem se_pop {n : Nat} {v : Value} {vs : List Value} (h : ∀ w ∈ v :: vs, se_wv n w) : ∀ w ∈ vs, se_wv n w := fun w hw => h w (List.mem_cons_of_mem _ hw)
/-- operands change alone -/
theorem se_Dy.stk {D : va_G} {dA : FieldType → ClassId} {A : Nat → Prop} {θ0 : Nat → Nat} {n0 : Nat} {θ : Nat → Nat} {s : State} {H : Heap} {locs : List Loc} {ls : Array Slot} {st' : List Value} (hd : se_Dy G M D dA A θ0 n0 θ s h H locs L st ls) (hw : ∀ v ∈ st', se_wv h.length v) : se_Dy G M D dA A θ0 n0 θ s h H locs L st' ls := by
  obtain ⟨a1, a2, a3, a4, -, a6, a7⟩ := hd
  exact ⟨a1, a2, a3, a4, hw, a6, a7⟩
theorem se_Dy.loc {D : va_G} {dA : FieldType → ClassId} {A : Nat → Prop} {θ0 : Nat → Nat} {n0 : Nat} {θ : Nat → Nat} {s : State} {H : Heap} {locs : List Loc} {ls ls' : Array Slot} {L' : List (Option Value)} {st' : List Value} (hd : se_Dy G M D dA A θ0 n0 θ s h H locs L st ls) (hL : se_L θ L' ls' M.2.2.1) (hwL : se_wL h.length L') (hw : ∀ v ∈ st', se_wv h.length v) : se_Dy G M D dA A θ0 n0 θ s h H locs L' st' ls' := by
  obtain ⟨a1, a2, a3, a4, -, -, -, a8⟩ := hd
  exact ⟨a1, a2, a3, a4, hw, hL, hwL, a8⟩
theorem se_Dy.wst {D : va_G} {dA : FieldType → ClassId} {A : Nat → Prop} {θ0 : Nat → Nat} {n0 : Nat} {θ : Nat → Nat} {s : State} {H : Heap} {locs : List Loc} {ls : Array Slot} (hd : se_Dy G M D dA A θ0 n0 θ s h H locs L st ls) : ∀ v ∈ st, se_wv h.length v := hd.2.2.2.2.1
theorem se_iconst {n : Int} (v : Int32) (hv : Int32.ofInt n = v) (hg : decode M.2.1 pc = .ok (.iconst n, 1)) (k : se_W G l d M (pc + 1) L (.int v :: st) h C S Φ) : se_W G l d M pc L (st) h C S Φ := by
  intro p e R s m args below meth c D dA A θ0 n0 mc ms θ H locs cells slots ls hs hd h1 h2 h3 h4
  exact lv_iconst hs.1 hs.2.1 hg hv (k p e R s m args below meth c D dA A θ0 n0 mc ms θ H locs cells slots ls hs (hd.stk (se_push (se_i _ _) hd.wst)) h1 h2 h3 h4)
theorem se_bipush {n : Int} (v : Int32) (hv : (Int8.ofInt n).toInt32 = v) (hg : decode M.2.1 pc = .ok (.bipush n, 2)) (k : se_W G l d M (pc + 2) L (.int v :: st) h C S Φ) : se_W G l d M pc L (st) h C S Φ := by
  intro p e R s m args below meth c D dA A θ0 n0 mc ms θ H locs cells slots ls hs hd h1 h2 h3 h4
  exact lv_bipush hs.1 hs.2.1 hg hv (k p e R s m args below meth c D dA A θ0 n0 mc ms θ H locs cells slots ls hs (hd.stk (se_push (se_i _ _) hd.wst)) h1 h2 h3 h4)
theorem se_sipush {n : Int} (v : Int32) (hv : (Int16.ofInt n).toInt32 = v) (hg : decode M.2.1 pc = .ok (.sipush n, 3)) (k : se_W G l d M (pc + 3) L (.int v :: st) h C S Φ) : se_W G l d M pc L (st) h C S Φ := by
  intro p e R s m args below meth c D dA A θ0 n0 mc ms θ H locs cells slots ls hs hd h1 h2 h3 h4
  exact lv_sipush hs.1 hs.2.1 hg hv (k p e R s m args below meth c D dA A θ0 n0 mc ms θ H locs cells slots ls hs (hd.stk (se_push (se_i _ _) hd.wst)) h1 h2 h3 h4)
theorem se_lconst {n : Fin 2} (v : Int64) (hv : Int64.ofNat (n : Nat) = v) (hg : decode M.2.1 pc = .ok (.lconst n, 1)) (k : se_W G l d M (pc + 1) L (.long v :: st) h C S Φ) : se_W G l d M pc L (st) h C S Φ := by
  intro p e R s m args below meth c D dA A θ0 n0 mc ms θ H locs cells slots ls hs hd h1 h2 h3 h4
  exact lv_lconst hs.1 hs.2.1 hg hv (k p e R s m args below meth c D dA A θ0 n0 mc ms θ H locs cells slots ls hs (hd.stk (se_push (se_j _ _) hd.wst)) h1 h2 h3 h4)
theorem se_null  (hg : decode M.2.1 pc = .ok (.aconst_null, 1)) (k : se_W G l d M (pc + 1) L (.null :: st) h C S Φ) : se_W G l d M pc L (st) h C S Φ := by
  intro p e R s m args below meth c D dA A θ0 n0 mc ms θ H locs cells slots ls hs hd h1 h2 h3 h4
  exact lv_null hs.1 hs.2.1 hg (k p e R s m args below meth c D dA A θ0 n0 mc ms θ H locs cells slots ls hs (hd.stk (se_push (se_n _) hd.wst)) h1 h2 h3 h4)
theorem se_iadd {x y : Int32} (hg : decode M.2.1 pc = .ok (.iadd, 1)) (k : se_W G l d M (pc + 1) L (.int (x + y) :: st) h C S Φ) : se_W G l d M pc L (.int y :: .int x :: st) h C S Φ := by
  intro p e R s m args below meth c D dA A θ0 n0 mc ms θ H locs cells slots ls hs hd h1 h2 h3 h4
  exact lv_iadd hs.1 hs.2.1 hg (k p e R s m args below meth c D dA A θ0 n0 mc ms θ H locs cells slots ls hs (hd.stk (se_push (se_i _ _) (se_pop (se_pop hd.wst)))) h1 h2 h3 h4)
theorem se_isub {x y : Int32} (hg : decode M.2.1 pc = .ok (.isub, 1)) (k : se_W G l d M (pc + 1) L (.int (x - y) :: st) h C S Φ) : se_W G l d M pc L (.int y :: .int x :: st) h C S Φ := by
  intro p e R s m args below meth c D dA A θ0 n0 mc ms θ H locs cells slots ls hs hd h1 h2 h3 h4
  exact lv_isub hs.1 hs.2.1 hg (k p e R s m args below meth c D dA A θ0 n0 mc ms θ H locs cells slots ls hs (hd.stk (se_push (se_i _ _) (se_pop (se_pop hd.wst)))) h1 h2 h3 h4)
theorem se_imul {x y : Int32} (hg : decode M.2.1 pc = .ok (.imul, 1)) (k : se_W G l d M (pc + 1) L (.int (x * y) :: st) h C S Φ) : se_W G l d M pc L (.int y :: .int x :: st) h C S Φ := by
  intro p e R s m args below meth c D dA A θ0 n0 mc ms θ H locs cells slots ls hs hd h1 h2 h3 h4
  exact lv_imul hs.1 hs.2.1 hg (k p e R s m args below meth c D dA A θ0 n0 mc ms θ H locs cells slots ls hs (hd.stk (se_push (se_i _ _) (se_pop (se_pop hd.wst)))) h1 h2 h3 h4)
theorem se_idiv {x y : Int32} (hne : ¬ y = 0) (hg : decode M.2.1 pc = .ok (.idiv, 1)) (k : se_W G l d M (pc + 1) L (.int (x / y) :: st) h C S Φ) : se_W G l d M pc L (.int y :: .int x :: st) h C S Φ := by
  intro p e R s m args below meth c D dA A θ0 n0 mc ms θ H locs cells slots ls hs hd h1 h2 h3 h4
  exact lv_idiv hs.1 hs.2.1 hg hne (k p e R s m args below meth c D dA A θ0 n0 mc ms θ H locs cells slots ls hs (hd.stk (se_push (se_i _ _) (se_pop (se_pop hd.wst)))) h1 h2 h3 h4)
theorem se_irem {x y : Int32} (hne : ¬ y = 0) (hg : decode M.2.1 pc = .ok (.irem, 1)) (k : se_W G l d M (pc + 1) L (.int (x - x / y * y) :: st) h C S Φ) : se_W G l d M pc L (.int y :: .int x :: st) h C S Φ := by
  intro p e R s m args below meth c D dA A θ0 n0 mc ms θ H locs cells slots ls hs hd h1 h2 h3 h4
  exact lv_irem hs.1 hs.2.1 hg hne (k p e R s m args below meth c D dA A θ0 n0 mc ms θ H locs cells slots ls hs (hd.stk (se_push (se_i _ _) (se_pop (se_pop hd.wst)))) h1 h2 h3 h4)
theorem se_iand {x y : Int32} (hg : decode M.2.1 pc = .ok (.iand, 1)) (k : se_W G l d M (pc + 1) L (.int (x &&& y) :: st) h C S Φ) : se_W G l d M pc L (.int y :: .int x :: st) h C S Φ := by
  intro p e R s m args below meth c D dA A θ0 n0 mc ms θ H locs cells slots ls hs hd h1 h2 h3 h4
  exact lv_iand hs.1 hs.2.1 hg (k p e R s m args below meth c D dA A θ0 n0 mc ms θ H locs cells slots ls hs (hd.stk (se_push (se_i _ _) (se_pop (se_pop hd.wst)))) h1 h2 h3 h4)
theorem se_ior {x y : Int32} (hg : decode M.2.1 pc = .ok (.ior, 1)) (k : se_W G l d M (pc + 1) L (.int (x ||| y) :: st) h C S Φ) : se_W G l d M pc L (.int y :: .int x :: st) h C S Φ := by
  intro p e R s m args below meth c D dA A θ0 n0 mc ms θ H locs cells slots ls hs hd h1 h2 h3 h4
  exact lv_ior hs.1 hs.2.1 hg (k p e R s m args below meth c D dA A θ0 n0 mc ms θ H locs cells slots ls hs (hd.stk (se_push (se_i _ _) (se_pop (se_pop hd.wst)))) h1 h2 h3 h4)
theorem se_ineg {x : Int32} (hg : decode M.2.1 pc = .ok (.ineg, 1)) (k : se_W G l d M (pc + 1) L (.int (-x) :: st) h C S Φ) : se_W G l d M pc L (.int x :: st) h C S Φ := by
  intro p e R s m args below meth c D dA A θ0 n0 mc ms θ H locs cells slots ls hs hd h1 h2 h3 h4
  exact lv_ineg hs.1 hs.2.1 hg (k p e R s m args below meth c D dA A θ0 n0 mc ms θ H locs cells slots ls hs (hd.stk (se_push (se_i _ _) (se_pop hd.wst))) h1 h2 h3 h4)
theorem se_ladd {x y : Int64} (hg : decode M.2.1 pc = .ok (.ladd, 1)) (k : se_W G l d M (pc + 1) L (.long (x + y) :: st) h C S Φ) : se_W G l d M pc L (.long y :: .long x :: st) h C S Φ := by
  intro p e R s m args below meth c D dA A θ0 n0 mc ms θ H locs cells slots ls hs hd h1 h2 h3 h4
  exact lv_ladd hs.1 hs.2.1 hg (k p e R s m args below meth c D dA A θ0 n0 mc ms θ H locs cells slots ls hs (hd.stk (se_push (se_j _ _) (se_pop (se_pop hd.wst)))) h1 h2 h3 h4)
theorem se_lsub {x y : Int64} (hg : decode M.2.1 pc = .ok (.lsub, 1)) (k : se_W G l d M (pc + 1) L (.long (x - y) :: st) h C S Φ) : se_W G l d M pc L (.long y :: .long x :: st) h C S Φ := by
  intro p e R s m args below meth c D dA A θ0 n0 mc ms θ H locs cells slots ls hs hd h1 h2 h3 h4
  exact lv_lsub hs.1 hs.2.1 hg (k p e R s m args below meth c D dA A θ0 n0 mc ms θ H locs cells slots ls hs (hd.stk (se_push (se_j _ _) (se_pop (se_pop hd.wst)))) h1 h2 h3 h4)
theorem se_lmul {x y : Int64} (hg : decode M.2.1 pc = .ok (.lmul, 1)) (k : se_W G l d M (pc + 1) L (.long (x * y) :: st) h C S Φ) : se_W G l d M pc L (.long y :: .long x :: st) h C S Φ := by
  intro p e R s m args below meth c D dA A θ0 n0 mc ms θ H locs cells slots ls hs hd h1 h2 h3 h4
  exact lv_lmul hs.1 hs.2.1 hg (k p e R s m args below meth c D dA A θ0 n0 mc ms θ H locs cells slots ls hs (hd.stk (se_push (se_j _ _) (se_pop (se_pop hd.wst)))) h1 h2 h3 h4)
theorem se_ldiv {x y : Int64} (hne : ¬ y = 0) (hg : decode M.2.1 pc = .ok (.ldiv, 1)) (k : se_W G l d M (pc + 1) L (.long (x / y) :: st) h C S Φ) : se_W G l d M pc L (.long y :: .long x :: st) h C S Φ := by
  intro p e R s m args below meth c D dA A θ0 n0 mc ms θ H locs cells slots ls hs hd h1 h2 h3 h4
  exact lv_ldiv hs.1 hs.2.1 hg hne (k p e R s m args below meth c D dA A θ0 n0 mc ms θ H locs cells slots ls hs (hd.stk (se_push (se_j _ _) (se_pop (se_pop hd.wst)))) h1 h2 h3 h4)
theorem se_lrem {x y : Int64} (hne : ¬ y = 0) (hg : decode M.2.1 pc = .ok (.lrem, 1)) (k : se_W G l d M (pc + 1) L (.long (x - x / y * y) :: st) h C S Φ) : se_W G l d M pc L (.long y :: .long x :: st) h C S Φ := by
  intro p e R s m args below meth c D dA A θ0 n0 mc ms θ H locs cells slots ls hs hd h1 h2 h3 h4
  exact lv_lrem hs.1 hs.2.1 hg hne (k p e R s m args below meth c D dA A θ0 n0 mc ms θ H locs cells slots ls hs (hd.stk (se_push (se_j _ _) (se_pop (se_pop hd.wst)))) h1 h2 h3 h4)
theorem se_i2l {x : Int32} (hg : decode M.2.1 pc = .ok (.i2l, 1)) (k : se_W G l d M (pc + 1) L (.long x.toInt64 :: st) h C S Φ) : se_W G l d M pc L (.int x :: st) h C S Φ := by
  intro p e R s m args below meth c D dA A θ0 n0 mc ms θ H locs cells slots ls hs hd h1 h2 h3 h4
  exact lv_i2l hs.1 hs.2.1 hg rfl (k p e R s m args below meth c D dA A θ0 n0 mc ms θ H locs cells slots ls hs (hd.stk (se_push (se_j _ _) (se_pop hd.wst))) h1 h2 h3 h4)
theorem se_l2i {x : Int64} (hg : decode M.2.1 pc = .ok (.l2i, 1)) (k : se_W G l d M (pc + 1) L (.int x.toInt32 :: st) h C S Φ) : se_W G l d M pc L (.long x :: st) h C S Φ := by
  intro p e R s m args below meth c D dA A θ0 n0 mc ms θ H locs cells slots ls hs hd h1 h2 h3 h4
  exact lv_l2i hs.1 hs.2.1 hg rfl (k p e R s m args below meth c D dA A θ0 n0 mc ms θ H locs cells slots ls hs (hd.stk (se_push (se_i _ _) (se_pop hd.wst))) h1 h2 h3 h4)
theorem se_lcmp {x y : Int64} (hg : decode M.2.1 pc = .ok (.lcmp, 1)) (k : se_W G l d M (pc + 1) L (.int (lg_cmp x y) :: st) h C S Φ) : se_W G l d M pc L (.long y :: .long x :: st) h C S Φ := by
  intro p e R s m args below meth c D dA A θ0 n0 mc ms θ H locs cells slots ls hs hd h1 h2 h3 h4
  exact W.lcmp hs.1 hs.2.1 hg (k p e R s m args below meth c D dA A θ0 n0 mc ms θ H locs cells slots ls hs (hd.stk (se_push (se_i _ _) (se_pop (se_pop hd.wst)))) h1 h2 h3 h4)
theorem se_dup {v : Value} (hc : v.category = 1) (hg : decode M.2.1 pc = .ok (.dup, 1)) (k : se_W G l d M (pc + 1) L (v :: v :: st) h C S Φ) : se_W G l d M pc L (v :: st) h C S Φ := by
  intro p e R s m args below meth c D dA A θ0 n0 mc ms θ H locs cells slots ls hs hd h1 h2 h3 h4
  exact lv_dup hs.1 hs.2.1 hg (by rw [se_cat]; exact hc) (k p e R s m args below meth c D dA A θ0 n0 mc ms θ H locs cells slots ls hs (hd.stk (se_push (hd.wst _ List.mem_cons_self) hd.wst)) h1 h2 h3 h4)
theorem se_pop1 {v : Value} (hc : v.category = 1) (hg : decode M.2.1 pc = .ok (.pop, 1)) (k : se_W G l d M (pc + 1) L (st) h C S Φ) : se_W G l d M pc L (v :: st) h C S Φ := by
  intro p e R s m args below meth c D dA A θ0 n0 mc ms θ H locs cells slots ls hs hd h1 h2 h3 h4
  exact lv_pop hs.1 hs.2.1 hg (by rw [se_cat]; exact hc) (k p e R s m args below meth c D dA A θ0 n0 mc ms θ H locs cells slots ls hs (hd.stk (se_pop hd.wst)) h1 h2 h3 h4)
theorem se_dup_x1 {v w : Value} (hc : v.category = 1) (hc2 : w.category = 1) (hg : decode M.2.1 pc = .ok (.dup_x1, 1)) (k : se_W G l d M (pc + 1) L (v :: w :: v :: st) h C S Φ) : se_W G l d M pc L (v :: w :: st) h C S Φ := by
  intro p e R s m args below meth c D dA A θ0 n0 mc ms θ H locs cells slots ls hs hd h1 h2 h3 h4
  exact lv_dup_x1 hs.1 hs.2.1 hg (by rw [se_cat]; exact hc) (by rw [se_cat]; exact hc2) (k p e R s m args below meth c D dA A θ0 n0 mc ms θ H locs cells slots ls hs (hd.stk (se_push (hd.wst _ List.mem_cons_self) (se_push (hd.wst _ (List.mem_cons_of_mem _ List.mem_cons_self)) (se_push (hd.wst _ List.mem_cons_self) (se_pop (se_pop hd.wst)))))) h1 h2 h3 h4)
theorem se_dup2 {v w : Value} (hc : v.category = 1) (hc2 : w.category = 1) (hg : decode M.2.1 pc = .ok (.dup2, 1)) (k : se_W G l d M (pc + 1) L (v :: w :: v :: w :: st) h C S Φ) : se_W G l d M pc L (v :: w :: st) h C S Φ := by
  intro p e R s m args below meth c D dA A θ0 n0 mc ms θ H locs cells slots ls hs hd h1 h2 h3 h4
  exact lv_dup2_11 hs.1 hs.2.1 hg (by rw [se_cat]; exact hc) (by rw [se_cat]; exact hc2) (k p e R s m args below meth c D dA A θ0 n0 mc ms θ H locs cells slots ls hs (hd.stk (se_push (hd.wst _ List.mem_cons_self) (se_push (hd.wst _ (List.mem_cons_of_mem _ List.mem_cons_self)) hd.wst))) h1 h2 h3 h4)
theorem se_dup_x2 {v w u : Value} (hc : v.category = 1) (hc2 : w.category = 1) (hc3 : u.category = 1) (hg : decode M.2.1 pc = .ok (.dup_x2, 1)) (k : se_W G l d M (pc + 1) L (v :: w :: u :: v :: st) h C S Φ) : se_W G l d M pc L (v :: w :: u :: st) h C S Φ := by
  intro p e R s m args below meth c D dA A θ0 n0 mc ms θ H locs cells slots ls hs hd h1 h2 h3 h4
  exact lv_dup_x2 hs.1 hs.2.1 hg (by rw [se_cat]; exact hc) (by rw [se_cat]; exact hc2) (by rw [se_cat]; exact hc3) (k p e R s m args below meth c D dA A θ0 n0 mc ms θ H locs cells slots ls hs (hd.stk (se_push (hd.wst _ List.mem_cons_self) (se_push (hd.wst _ (List.mem_cons_of_mem _ List.mem_cons_self)) (se_push (hd.wst _ (List.mem_cons_of_mem _ (List.mem_cons_of_mem _ List.mem_cons_self))) (se_push (hd.wst _ List.mem_cons_self) (se_pop (se_pop (se_pop hd.wst)))))))) h1 h2 h3 h4)
theorem se_iload_n {i : Fin 4} {x : Int32} (hl : L[(i : Nat)]? = some (some (.int x))) (hg : decode M.2.1 pc = .ok (.iload_n i, 1)) (k : se_W G l d M (pc + 1) L (.int x :: st) h C S Φ) : se_W G l d M pc L (st) h C S Φ := by
  intro p e R s m args below meth c D dA A θ0 n0 mc ms θ H locs cells slots ls hs hd h1 h2 h3 h4
  exact lv_iload_n hs.1 hs.2.1 hg rfl (hd.2.2.2.2.2.1.2.2.2 _ _ hl) (k p e R s m args below meth c D dA A θ0 n0 mc ms θ H locs cells slots ls hs (hd.stk (se_push (se_i _ _) hd.wst)) h1 h2 h3 h4)
theorem se_iload {i : Nat} {x : Int32} (hl : L[i]? = some (some (.int x))) (hg : decode M.2.1 pc = .ok (.iload i, 2)) (k : se_W G l d M (pc + 2) L (.int x :: st) h C S Φ) : se_W G l d M pc L (st) h C S Φ := by
  intro p e R s m args below meth c D dA A θ0 n0 mc ms θ H locs cells slots ls hs hd h1 h2 h3 h4
  exact lv_iload hs.1 hs.2.1 hg (hd.2.2.2.2.2.1.2.2.2 _ _ hl) (k p e R s m args below meth c D dA A θ0 n0 mc ms θ H locs cells slots ls hs (hd.stk (se_push (se_i _ _) hd.wst)) h1 h2 h3 h4)
theorem se_lload_n {i : Fin 4} {x : Int64} (hl : L[(i : Nat)]? = some (some (.long x))) (hg : decode M.2.1 pc = .ok (.lload_n i, 1)) (k : se_W G l d M (pc + 1) L (.long x :: st) h C S Φ) : se_W G l d M pc L (st) h C S Φ := by
  intro p e R s m args below meth c D dA A θ0 n0 mc ms θ H locs cells slots ls hs hd h1 h2 h3 h4
  exact lv_lload_n hs.1 hs.2.1 hg rfl (hd.2.2.2.2.2.1.2.2.2 _ _ hl) (k p e R s m args below meth c D dA A θ0 n0 mc ms θ H locs cells slots ls hs (hd.stk (se_push (se_j _ _) hd.wst)) h1 h2 h3 h4)
theorem se_lload {i : Nat} {x : Int64} (hl : L[i]? = some (some (.long x))) (hg : decode M.2.1 pc = .ok (.lload i, 2)) (k : se_W G l d M (pc + 2) L (.long x :: st) h C S Φ) : se_W G l d M pc L (st) h C S Φ := by
  intro p e R s m args below meth c D dA A θ0 n0 mc ms θ H locs cells slots ls hs hd h1 h2 h3 h4
  exact lv_lload hs.1 hs.2.1 hg (hd.2.2.2.2.2.1.2.2.2 _ _ hl) (k p e R s m args below meth c D dA A θ0 n0 mc ms θ H locs cells slots ls hs (hd.stk (se_push (se_j _ _) hd.wst)) h1 h2 h3 h4)
theorem se_aload_n {i : Fin 4} {x : Nat} (hl : L[(i : Nat)]? = some (some (.ref x))) (hg : decode M.2.1 pc = .ok (.aload_n i, 1)) (k : se_W G l d M (pc + 1) L (.ref x :: st) h C S Φ) : se_W G l d M pc L (st) h C S Φ := by
  intro p e R s m args below meth c D dA A θ0 n0 mc ms θ H locs cells slots ls hs hd h1 h2 h3 h4
  exact lv_aload_n hs.1 hs.2.1 hg rfl (hd.2.2.2.2.2.1.2.2.2 _ _ hl) (k p e R s m args below meth c D dA A θ0 n0 mc ms θ H locs cells slots ls hs (hd.stk (se_push (hd.2.2.2.2.2.2.1 _ _ hl) hd.wst)) h1 h2 h3 h4)
theorem se_aload {i : Nat} {x : Nat} (hl : L[i]? = some (some (.ref x))) (hg : decode M.2.1 pc = .ok (.aload i, 2)) (k : se_W G l d M (pc + 2) L (.ref x :: st) h C S Φ) : se_W G l d M pc L (st) h C S Φ := by
  intro p e R s m args below meth c D dA A θ0 n0 mc ms θ H locs cells slots ls hs hd h1 h2 h3 h4
  exact lv_aload hs.1 hs.2.1 hg (hd.2.2.2.2.2.1.2.2.2 _ _ hl) (k p e R s m args below meth c D dA A θ0 n0 mc ms θ H locs cells slots ls hs (hd.stk (se_push (hd.2.2.2.2.2.2.1 _ _ hl) hd.wst)) h1 h2 h3 h4)
theorem se_aload_nN {i : Fin 4} (hl : L[(i : Nat)]? = some (some .null)) (hg : decode M.2.1 pc = .ok (.aload_n i, 1)) (k : se_W G l d M (pc + 1) L (.null :: st) h C S Φ) : se_W G l d M pc L (st) h C S Φ := by
  intro p e R s m args below meth c D dA A θ0 n0 mc ms θ H locs cells slots ls hs hd h1 h2 h3 h4
  exact lv_aload_nN hs.1 hs.2.1 hg rfl (hd.2.2.2.2.2.1.2.2.2 _ _ hl) (k p e R s m args below meth c D dA A θ0 n0 mc ms θ H locs cells slots ls hs (hd.stk (se_push (se_n _) hd.wst)) h1 h2 h3 h4)
theorem se_aloadN {i : Nat} (hl : L[i]? = some (some .null)) (hg : decode M.2.1 pc = .ok (.aload i, 2)) (k : se_W G l d M (pc + 2) L (.null :: st) h C S Φ) : se_W G l d M pc L (st) h C S Φ := by
  intro p e R s m args below meth c D dA A θ0 n0 mc ms θ H locs cells slots ls hs hd h1 h2 h3 h4
  exact lv_aloadN hs.1 hs.2.1 hg (hd.2.2.2.2.2.1.2.2.2 _ _ hl) (k p e R s m args below meth c D dA A θ0 n0 mc ms θ H locs cells slots ls hs (hd.stk (se_push (se_n _) hd.wst)) h1 h2 h3 h4)
theorem se_if_eq {x : Int32} {off : Int} {tgt : Nat} (hg : decode M.2.1 pc = .ok (.ifCond .eq off, 3)) (ht : (pc : Int) + off = (tgt : Int)) (kt : x = 0 → se_W G l d M tgt L st h C S Φ) (kf : ¬ x = 0 → se_W G l d M (pc + 3) L st h C S Φ) : se_W G l d M pc L (.int x :: st) h C S Φ := by
  intro p e R s m args below meth c D dA A θ0 n0 mc ms θ H locs cells slots ls hs hd h1 h2 h3 h4
  exact lv_if_eq hs.1 hs.2.1 hg ht (fun q => kt q p e R s m args below meth c D dA A θ0 n0 mc ms θ H locs cells slots ls hs (hd.stk (se_pop hd.wst)) h1 h2 h3 h4) (fun q => kf q p e R s m args below meth c D dA A θ0 n0 mc ms θ H locs cells slots ls hs (hd.stk (se_pop hd.wst)) h1 h2 h3 h4)
theorem se_icmp_eq {x y : Int32} {off : Int} {tgt : Nat} (hg : decode M.2.1 pc = .ok (.if_icmp .eq off, 3)) (ht : (pc : Int) + off = (tgt : Int)) (kt : x = y → se_W G l d M tgt L st h C S Φ) (kf : ¬ x = y → se_W G l d M (pc + 3) L st h C S Φ) : se_W G l d M pc L (.int y :: .int x :: st) h C S Φ := by
  intro p e R s m args below meth c D dA A θ0 n0 mc ms θ H locs cells slots ls hs hd h1 h2 h3 h4
  exact lv_icmp_eq hs.1 hs.2.1 hg ht (fun q => kt q p e R s m args below meth c D dA A θ0 n0 mc ms θ H locs cells slots ls hs (hd.stk (se_pop (se_pop hd.wst))) h1 h2 h3 h4) (fun q => kf q p e R s m args below meth c D dA A θ0 n0 mc ms θ H locs cells slots ls hs (hd.stk (se_pop (se_pop hd.wst))) h1 h2 h3 h4)
theorem se_if_ne {x : Int32} {off : Int} {tgt : Nat} (hg : decode M.2.1 pc = .ok (.ifCond .ne off, 3)) (ht : (pc : Int) + off = (tgt : Int)) (kt : ¬ x = 0 → se_W G l d M tgt L st h C S Φ) (kf : x = 0 → se_W G l d M (pc + 3) L st h C S Φ) : se_W G l d M pc L (.int x :: st) h C S Φ := by
  intro p e R s m args below meth c D dA A θ0 n0 mc ms θ H locs cells slots ls hs hd h1 h2 h3 h4
  exact lv_if_ne hs.1 hs.2.1 hg ht (fun q => kt q p e R s m args below meth c D dA A θ0 n0 mc ms θ H locs cells slots ls hs (hd.stk (se_pop hd.wst)) h1 h2 h3 h4) (fun q => kf q p e R s m args below meth c D dA A θ0 n0 mc ms θ H locs cells slots ls hs (hd.stk (se_pop hd.wst)) h1 h2 h3 h4)
theorem se_icmp_ne {x y : Int32} {off : Int} {tgt : Nat} (hg : decode M.2.1 pc = .ok (.if_icmp .ne off, 3)) (ht : (pc : Int) + off = (tgt : Int)) (kt : ¬ x = y → se_W G l d M tgt L st h C S Φ) (kf : x = y → se_W G l d M (pc + 3) L st h C S Φ) : se_W G l d M pc L (.int y :: .int x :: st) h C S Φ := by
  intro p e R s m args below meth c D dA A θ0 n0 mc ms θ H locs cells slots ls hs hd h1 h2 h3 h4
  exact lv_icmp_ne hs.1 hs.2.1 hg ht (fun q => kt q p e R s m args below meth c D dA A θ0 n0 mc ms θ H locs cells slots ls hs (hd.stk (se_pop (se_pop hd.wst))) h1 h2 h3 h4) (fun q => kf q p e R s m args below meth c D dA A θ0 n0 mc ms θ H locs cells slots ls hs (hd.stk (se_pop (se_pop hd.wst))) h1 h2 h3 h4)
theorem se_if_lt {x : Int32} {off : Int} {tgt : Nat} (hg : decode M.2.1 pc = .ok (.ifCond .lt off, 3)) (ht : (pc : Int) + off = (tgt : Int)) (kt : x < 0 → se_W G l d M tgt L st h C S Φ) (kf : ¬ x < 0 → se_W G l d M (pc + 3) L st h C S Φ) : se_W G l d M pc L (.int x :: st) h C S Φ := by
  intro p e R s m args below meth c D dA A θ0 n0 mc ms θ H locs cells slots ls hs hd h1 h2 h3 h4
  exact lv_if_lt hs.1 hs.2.1 hg ht (fun q => kt q p e R s m args below meth c D dA A θ0 n0 mc ms θ H locs cells slots ls hs (hd.stk (se_pop hd.wst)) h1 h2 h3 h4) (fun q => kf q p e R s m args below meth c D dA A θ0 n0 mc ms θ H locs cells slots ls hs (hd.stk (se_pop hd.wst)) h1 h2 h3 h4)
theorem se_icmp_lt {x y : Int32} {off : Int} {tgt : Nat} (hg : decode M.2.1 pc = .ok (.if_icmp .lt off, 3)) (ht : (pc : Int) + off = (tgt : Int)) (kt : x < y → se_W G l d M tgt L st h C S Φ) (kf : ¬ x < y → se_W G l d M (pc + 3) L st h C S Φ) : se_W G l d M pc L (.int y :: .int x :: st) h C S Φ := by
  intro p e R s m args below meth c D dA A θ0 n0 mc ms θ H locs cells slots ls hs hd h1 h2 h3 h4
  exact lv_icmp_lt hs.1 hs.2.1 hg ht (fun q => kt q p e R s m args below meth c D dA A θ0 n0 mc ms θ H locs cells slots ls hs (hd.stk (se_pop (se_pop hd.wst))) h1 h2 h3 h4) (fun q => kf q p e R s m args below meth c D dA A θ0 n0 mc ms θ H locs cells slots ls hs (hd.stk (se_pop (se_pop hd.wst))) h1 h2 h3 h4)
theorem se_if_ge {x : Int32} {off : Int} {tgt : Nat} (hg : decode M.2.1 pc = .ok (.ifCond .ge off, 3)) (ht : (pc : Int) + off = (tgt : Int)) (kt : 0 ≤ x → se_W G l d M tgt L st h C S Φ) (kf : ¬ 0 ≤ x → se_W G l d M (pc + 3) L st h C S Φ) : se_W G l d M pc L (.int x :: st) h C S Φ := by
  intro p e R s m args below meth c D dA A θ0 n0 mc ms θ H locs cells slots ls hs hd h1 h2 h3 h4
  exact lv_if_ge hs.1 hs.2.1 hg ht (fun q => kt q p e R s m args below meth c D dA A θ0 n0 mc ms θ H locs cells slots ls hs (hd.stk (se_pop hd.wst)) h1 h2 h3 h4) (fun q => kf q p e R s m args below meth c D dA A θ0 n0 mc ms θ H locs cells slots ls hs (hd.stk (se_pop hd.wst)) h1 h2 h3 h4)
theorem se_icmp_ge {x y : Int32} {off : Int} {tgt : Nat} (hg : decode M.2.1 pc = .ok (.if_icmp .ge off, 3)) (ht : (pc : Int) + off = (tgt : Int)) (kt : y ≤ x → se_W G l d M tgt L st h C S Φ) (kf : ¬ y ≤ x → se_W G l d M (pc + 3) L st h C S Φ) : se_W G l d M pc L (.int y :: .int x :: st) h C S Φ := by
  intro p e R s m args below meth c D dA A θ0 n0 mc ms θ H locs cells slots ls hs hd h1 h2 h3 h4
  exact lv_icmp_ge hs.1 hs.2.1 hg ht (fun q => kt q p e R s m args below meth c D dA A θ0 n0 mc ms θ H locs cells slots ls hs (hd.stk (se_pop (se_pop hd.wst))) h1 h2 h3 h4) (fun q => kf q p e R s m args below meth c D dA A θ0 n0 mc ms θ H locs cells slots ls hs (hd.stk (se_pop (se_pop hd.wst))) h1 h2 h3 h4)
theorem se_if_gt {x : Int32} {off : Int} {tgt : Nat} (hg : decode M.2.1 pc = .ok (.ifCond .gt off, 3)) (ht : (pc : Int) + off = (tgt : Int)) (kt : 0 < x → se_W G l d M tgt L st h C S Φ) (kf : ¬ 0 < x → se_W G l d M (pc + 3) L st h C S Φ) : se_W G l d M pc L (.int x :: st) h C S Φ := by
  intro p e R s m args below meth c D dA A θ0 n0 mc ms θ H locs cells slots ls hs hd h1 h2 h3 h4
  exact lv_if_gt hs.1 hs.2.1 hg ht (fun q => kt q p e R s m args below meth c D dA A θ0 n0 mc ms θ H locs cells slots ls hs (hd.stk (se_pop hd.wst)) h1 h2 h3 h4) (fun q => kf q p e R s m args below meth c D dA A θ0 n0 mc ms θ H locs cells slots ls hs (hd.stk (se_pop hd.wst)) h1 h2 h3 h4)
theorem se_icmp_gt {x y : Int32} {off : Int} {tgt : Nat} (hg : decode M.2.1 pc = .ok (.if_icmp .gt off, 3)) (ht : (pc : Int) + off = (tgt : Int)) (kt : y < x → se_W G l d M tgt L st h C S Φ) (kf : ¬ y < x → se_W G l d M (pc + 3) L st h C S Φ) : se_W G l d M pc L (.int y :: .int x :: st) h C S Φ := by
  intro p e R s m args below meth c D dA A θ0 n0 mc ms θ H locs cells slots ls hs hd h1 h2 h3 h4
  exact lv_icmp_gt hs.1 hs.2.1 hg ht (fun q => kt q p e R s m args below meth c D dA A θ0 n0 mc ms θ H locs cells slots ls hs (hd.stk (se_pop (se_pop hd.wst))) h1 h2 h3 h4) (fun q => kf q p e R s m args below meth c D dA A θ0 n0 mc ms θ H locs cells slots ls hs (hd.stk (se_pop (se_pop hd.wst))) h1 h2 h3 h4)
theorem se_if_le {x : Int32} {off : Int} {tgt : Nat} (hg : decode M.2.1 pc = .ok (.ifCond .le off, 3)) (ht : (pc : Int) + off = (tgt : Int)) (kt : x ≤ 0 → se_W G l d M tgt L st h C S Φ) (kf : ¬ x ≤ 0 → se_W G l d M (pc + 3) L st h C S Φ) : se_W G l d M pc L (.int x :: st) h C S Φ := by
  intro p e R s m args below meth c D dA A θ0 n0 mc ms θ H locs cells slots ls hs hd h1 h2 h3 h4
  exact lv_if_le hs.1 hs.2.1 hg ht (fun q => kt q p e R s m args below meth c D dA A θ0 n0 mc ms θ H locs cells slots ls hs (hd.stk (se_pop hd.wst)) h1 h2 h3 h4) (fun q => kf q p e R s m args below meth c D dA A θ0 n0 mc ms θ H locs cells slots ls hs (hd.stk (se_pop hd.wst)) h1 h2 h3 h4)
theorem se_icmp_le {x y : Int32} {off : Int} {tgt : Nat} (hg : decode M.2.1 pc = .ok (.if_icmp .le off, 3)) (ht : (pc : Int) + off = (tgt : Int)) (kt : x ≤ y → se_W G l d M tgt L st h C S Φ) (kf : ¬ x ≤ y → se_W G l d M (pc + 3) L st h C S Φ) : se_W G l d M pc L (.int y :: .int x :: st) h C S Φ := by
  intro p e R s m args below meth c D dA A θ0 n0 mc ms θ H locs cells slots ls hs hd h1 h2 h3 h4
  exact lv_icmp_le hs.1 hs.2.1 hg ht (fun q => kt q p e R s m args below meth c D dA A θ0 n0 mc ms θ H locs cells slots ls hs (hd.stk (se_pop (se_pop hd.wst))) h1 h2 h3 h4) (fun q => kf q p e R s m args below meth c D dA A θ0 n0 mc ms θ H locs cells slots ls hs (hd.stk (se_pop (se_pop hd.wst))) h1 h2 h3 h4)
theorem se_goto {off : Int} {tgt : Nat} (hg : decode M.2.1 pc = .ok (.goto off, 3)) (ht : (pc : Int) + off = (tgt : Int)) (k : se_W G l d M tgt L st h C S Φ) : se_W G l d M pc L st h C S Φ := by
  intro p e R s m args below meth c D dA A θ0 n0 mc ms θ H locs cells slots ls hs hd h1 h2 h3 h4
  exact lv_goto hs.1 hs.2.1 hg ht (k p e R s m args below meth c D dA A θ0 n0 mc ms θ H locs cells slots ls hs hd h1 h2 h3 h4)
theorem se_ifnonnull {x : Nat} {off : Int} {tgt : Nat} (hg : decode M.2.1 pc = .ok (.ifnonnull off, 3)) (ht : (pc : Int) + off = (tgt : Int)) (k : se_W G l d M tgt L st h C S Φ) : se_W G l d M pc L (.ref x :: st) h C S Φ := by
  intro p e R s m args below meth c D dA A θ0 n0 mc ms θ H locs cells slots ls hs hd h1 h2 h3 h4
  exact lv_ifnonnull hs.1 hs.2.1 hg ht (k p e R s m args below meth c D dA A θ0 n0 mc ms θ H locs cells slots ls hs (hd.stk (se_pop hd.wst)) h1 h2 h3 h4)
theorem se_ifnull {x : Nat} {off : Int} (hg : decode M.2.1 pc = .ok (.ifnull off, 3)) (k : se_W G l d M (pc + 3) L st h C S Φ) : se_W G l d M pc L (.ref x :: st) h C S Φ := by
  intro p e R s m args below meth c D dA A θ0 n0 mc ms θ H locs cells slots ls hs hd h1 h2 h3 h4
  exact lv_ifnull hs.1 hs.2.1 hg (k p e R s m args below meth c D dA A θ0 n0 mc ms θ H locs cells slots ls hs (hd.stk (se_pop hd.wst)) h1 h2 h3 h4)
theorem se_ifnullN {off : Int} {tgt : Nat} (hg : decode M.2.1 pc = .ok (.ifnull off, 3)) (ht : (pc : Int) + off = (tgt : Int)) (k : se_W G l d M tgt L st h C S Φ) : se_W G l d M pc L (.null :: st) h C S Φ := by
  intro p e R s m args below meth c D dA A θ0 n0 mc ms θ H locs cells slots ls hs hd h1 h2 h3 h4
  exact lv_ifnullN hs.1 hs.2.1 hg ht (k p e R s m args below meth c D dA A θ0 n0 mc ms θ H locs cells slots ls hs (hd.stk (se_pop hd.wst)) h1 h2 h3 h4)
theorem se_ifnonnullN {off : Int} (hg : decode M.2.1 pc = .ok (.ifnonnull off, 3)) (k : se_W G l d M (pc + 3) L st h C S Φ) : se_W G l d M pc L (.null :: st) h C S Φ := by
  intro p e R s m args below meth c D dA A θ0 n0 mc ms θ H locs cells slots ls hs hd h1 h2 h3 h4
  exact lv_ifnonnullN hs.1 hs.2.1 hg (k p e R s m args below meth c D dA A θ0 n0 mc ms θ H locs cells slots ls hs (hd.stk (se_pop hd.wst)) h1 h2 h3 h4)
theorem se_istore_n {i : Fin 4} {x : Int32} (hg : decode M.2.1 pc = .ok (.istore_n i, 1)) (hi : (i : Nat) < M.2.2.1) (L' : List (Option Value)) (hL : se_s1 L (i : Nat) (.int x) = L') (k : se_W G l d M (pc + 1) L' st h C S Φ) : se_W G l d M pc L (.int x :: st) h C S Φ := by
  subst hL
  intro p e R s m args below meth c D dA A θ0 n0 mc ms θ H locs cells slots ls hs hd h1 h2 h3 h4 T hT X
  obtain ⟨ls', e', g'⟩ := se_store1 (v := .int x) hd.2.2.2.2.2.1 hi rfl
  obtain ⟨t, a, b⟩ := k p e R s m args below meth c D dA A θ0 n0 mc ms θ H locs cells slots ls' hs (hd.loc g' (se_wL_s1 hd.2.2.2.2.2.2.1 (hd.wst _ List.mem_cons_self)) (se_pop hd.wst)) h1 h2 h3 h4 T hT X
  refine ⟨t, ?_, b⟩
  have hexec := hs.1
  have hb := hs.2.1
  simp only [List.map_cons, se_v] at e' ⊢
  jvm_step X.here [X.here.top, ↓top_set X.here.top, hexec, hb, hg, e']
  exact a
theorem se_lstore_n {i : Fin 4} {x : Int64} (hg : decode M.2.1 pc = .ok (.lstore_n i, 1)) (hi : (i : Nat) + 1 < M.2.2.1) (L' : List (Option Value)) (hL : se_s2 L (i : Nat) (.long x) = L') (k : se_W G l d M (pc + 1) L' st h C S Φ) : se_W G l d M pc L (.long x :: st) h C S Φ := by
  subst hL
  intro p e R s m args below meth c D dA A θ0 n0 mc ms θ H locs cells slots ls hs hd h1 h2 h3 h4 T hT X
  obtain ⟨ls', e', g'⟩ := se_store2 (v := .long x) hd.2.2.2.2.2.1 hi rfl
  obtain ⟨t, a, b⟩ := k p e R s m args below meth c D dA A θ0 n0 mc ms θ H locs cells slots ls' hs (hd.loc g' (se_wL_s2 hd.2.2.2.2.2.2.1 (hd.wst _ List.mem_cons_self)) (se_pop hd.wst)) h1 h2 h3 h4 T hT X
  refine ⟨t, ?_, b⟩
  have hexec := hs.1
  have hb := hs.2.1
  simp only [List.map_cons, se_v] at e' ⊢
  jvm_step X.here [X.here.top, ↓top_set X.here.top, hexec, hb, hg, e']
  exact a
theorem se_astore_n {i : Fin 4} {x : Nat} (hg : decode M.2.1 pc = .ok (.astore_n i, 1)) (hi : (i : Nat) < M.2.2.1) (L' : List (Option Value)) (hL : se_s1 L (i : Nat) (.ref x) = L') (k : se_W G l d M (pc + 1) L' st h C S Φ) : se_W G l d M pc L (.ref x :: st) h C S Φ := by
  subst hL
  intro p e R s m args below meth c D dA A θ0 n0 mc ms θ H locs cells slots ls hs hd h1 h2 h3 h4 T hT X
  obtain ⟨ls', e', g'⟩ := se_store1 (v := .ref x) hd.2.2.2.2.2.1 hi rfl
  obtain ⟨t, a, b⟩ := k p e R s m args below meth c D dA A θ0 n0 mc ms θ H locs cells slots ls' hs (hd.loc g' (se_wL_s1 hd.2.2.2.2.2.2.1 (hd.wst _ List.mem_cons_self)) (se_pop hd.wst)) h1 h2 h3 h4 T hT X
  refine ⟨t, ?_, b⟩
  have hexec := hs.1
  have hb := hs.2.1
  simp only [List.map_cons, se_v] at e' ⊢
  jvm_step X.here [X.here.top, ↓top_set X.here.top, hexec, hb, hg, e', Value.isRef]
  exact a
theorem se_astore_nN {i : Fin 4}  (hg : decode M.2.1 pc = .ok (.astore_n i, 1)) (hi : (i : Nat) < M.2.2.1) (L' : List (Option Value)) (hL : se_s1 L (i : Nat) (.null) = L') (k : se_W G l d M (pc + 1) L' st h C S Φ) : se_W G l d M pc L (.null :: st) h C S Φ := by
  subst hL
  intro p e R s m args below meth c D dA A θ0 n0 mc ms θ H locs cells slots ls hs hd h1 h2 h3 h4 T hT X
  obtain ⟨ls', e', g'⟩ := se_store1 (v := .null) hd.2.2.2.2.2.1 hi rfl
  obtain ⟨t, a, b⟩ := k p e R s m args below meth c D dA A θ0 n0 mc ms θ H locs cells slots ls' hs (hd.loc g' (se_wL_s1 hd.2.2.2.2.2.2.1 (hd.wst _ List.mem_cons_self)) (se_pop hd.wst)) h1 h2 h3 h4 T hT X
  refine ⟨t, ?_, b⟩
  have hexec := hs.1
  have hb := hs.2.1
  simp only [List.map_cons, se_v] at e' ⊢
  jvm_step X.here [X.here.top, ↓top_set X.here.top, hexec, hb, hg, e', Value.isRef]
  exact a
theorem se_istore {i : Nat} {x : Int32} (hg : decode M.2.1 pc = .ok (.istore i, 2)) (hi : i < M.2.2.1) (L' : List (Option Value)) (hL : se_s1 L i (.int x) = L') (k : se_W G l d M (pc + 2) L' st h C S Φ) : se_W G l d M pc L (.int x :: st) h C S Φ := by
  subst hL
  intro p e R s m args below meth c D dA A θ0 n0 mc ms θ H locs cells slots ls hs hd h1 h2 h3 h4 T hT X
  obtain ⟨ls', e', g'⟩ := se_store1 (v := .int x) hd.2.2.2.2.2.1 hi rfl
  obtain ⟨t, a, b⟩ := k p e R s m args below meth c D dA A θ0 n0 mc ms θ H locs cells slots ls' hs (hd.loc g' (se_wL_s1 hd.2.2.2.2.2.2.1 (hd.wst _ List.mem_cons_self)) (se_pop hd.wst)) h1 h2 h3 h4 T hT X
  refine ⟨t, ?_, b⟩
  have hexec := hs.1
  have hb := hs.2.1
  simp only [List.map_cons, se_v] at e' ⊢
  jvm_step X.here [X.here.top, ↓top_set X.here.top, hexec, hb, hg, e']
  exact a
theorem se_lstore {i : Nat} {x : Int64} (hg : decode M.2.1 pc = .ok (.lstore i, 2)) (hi : i + 1 < M.2.2.1) (L' : List (Option Value)) (hL : se_s2 L i (.long x) = L') (k : se_W G l d M (pc + 2) L' st h C S Φ) : se_W G l d M pc L (.long x :: st) h C S Φ := by
  subst hL
  intro p e R s m args below meth c D dA A θ0 n0 mc ms θ H locs cells slots ls hs hd h1 h2 h3 h4 T hT X
  obtain ⟨ls', e', g'⟩ := se_store2 (v := .long x) hd.2.2.2.2.2.1 hi rfl
  obtain ⟨t, a, b⟩ := k p e R s m args below meth c D dA A θ0 n0 mc ms θ H locs cells slots ls' hs (hd.loc g' (se_wL_s2 hd.2.2.2.2.2.2.1 (hd.wst _ List.mem_cons_self)) (se_pop hd.wst)) h1 h2 h3 h4 T hT X
  refine ⟨t, ?_, b⟩
  have hexec := hs.1
  have hb := hs.2.1
  simp only [List.map_cons, se_v] at e' ⊢
  jvm_step X.here [X.here.top, ↓top_set X.here.top, hexec, hb, hg, e']
  exact a
theorem se_astore {i : Nat} {x : Nat} (hg : decode M.2.1 pc = .ok (.astore i, 2)) (hi : i < M.2.2.1) (L' : List (Option Value)) (hL : se_s1 L i (.ref x) = L') (k : se_W G l d M (pc + 2) L' st h C S Φ) : se_W G l d M pc L (.ref x :: st) h C S Φ := by
  subst hL
  intro p e R s m args below meth c D dA A θ0 n0 mc ms θ H locs cells slots ls hs hd h1 h2 h3 h4 T hT X
  obtain ⟨ls', e', g'⟩ := se_store1 (v := .ref x) hd.2.2.2.2.2.1 hi rfl
  obtain ⟨t, a, b⟩ := k p e R s m args below meth c D dA A θ0 n0 mc ms θ H locs cells slots ls' hs (hd.loc g' (se_wL_s1 hd.2.2.2.2.2.2.1 (hd.wst _ List.mem_cons_self)) (se_pop hd.wst)) h1 h2 h3 h4 T hT X
  refine ⟨t, ?_, b⟩
  have hexec := hs.1
  have hb := hs.2.1
  simp only [List.map_cons, se_v] at e' ⊢
  jvm_step X.here [X.here.top, ↓top_set X.here.top, hexec, hb, hg, e', Value.isRef]
  exact a
theorem se_astoreN {i : Nat}  (hg : decode M.2.1 pc = .ok (.astore i, 2)) (hi : i < M.2.2.1) (L' : List (Option Value)) (hL : se_s1 L i (.null) = L') (k : se_W G l d M (pc + 2) L' st h C S Φ) : se_W G l d M pc L (.null :: st) h C S Φ := by
  subst hL
  intro p e R s m args below meth c D dA A θ0 n0 mc ms θ H locs cells slots ls hs hd h1 h2 h3 h4 T hT X
  obtain ⟨ls', e', g'⟩ := se_store1 (v := .null) hd.2.2.2.2.2.1 hi rfl
  obtain ⟨t, a, b⟩ := k p e R s m args below meth c D dA A θ0 n0 mc ms θ H locs cells slots ls' hs (hd.loc g' (se_wL_s1 hd.2.2.2.2.2.2.1 (hd.wst _ List.mem_cons_self)) (se_pop hd.wst)) h1 h2 h3 h4 T hT X
  refine ⟨t, ?_, b⟩
  have hexec := hs.1
  have hb := hs.2.1
  simp only [List.map_cons, se_v] at e' ⊢
  jvm_step X.here [X.here.top, ↓top_set X.here.top, hexec, hb, hg, e', Value.isRef]
  exact a
theorem se_iinc {i : Nat} {n : Int} {x : Int32} (v : Int32) (hv : Int32.ofInt n = v) (hl : L[i]? = some (some (.int x))) (hg : decode M.2.1 pc = .ok (.iinc i n, 3)) (L' : List (Option Value)) (hL : se_s1 L i (.int (x + v)) = L') (k : se_W G l d M (pc + 3) L' st h C S Φ) : se_W G l d M pc L st h C S Φ := by
  intro p e R s m args below meth c D dA A θ0 n0 mc ms θ H locs cells slots ls hs hd h1 h2 h3 h4 T hT X
  subst hv
  subst hL
  have hi : i < M.2.2.1 := by rw [← hd.2.2.2.2.2.1.2.2.1]; exact (List.getElem?_eq_some_iff.mp hl).1
  obtain ⟨ls', e', g'⟩ := se_store1 (v := .int (x + Int32.ofInt n)) hd.2.2.2.2.2.1 hi rfl
  have hl9 : ls[i]? = some (.val (.int x)) := hd.2.2.2.2.2.1.2.2.2 _ _ hl
  obtain ⟨t, a, b⟩ := k p e R s m args below meth c D dA A θ0 n0 mc ms θ H locs cells slots ls' hs (hd.loc g' (se_wL_s1 hd.2.2.2.2.2.2.1 (se_i _ _)) hd.wst) h1 h2 h3 h4 T hT X
  refine ⟨t, ?_, b⟩
  have hexec := hs.1
  have hb := hs.2.1
  simp only [se_v] at e'
  jvm_step X.here [X.here.top, ↓top_set X.here.top, hexec, hb, hg, hl9, e']
  exact a
/-! ===== cells ===== -/
theorem se_Dy.P {D : va_G} {dA : FieldType → ClassId} {A : Nat → Prop} {θ0 : Nat → Nat} {n0 : Nat} {θ : Nat → Nat} {s : State} {H : Heap} {locs : List Loc} {ls : Array Slot} (hd : se_Dy G M D dA A θ0 n0 θ s h H locs L st ls) : va_P D G.1 (se_w dA θ h) H := hd.1
/-- one cell is another -/
theorem se_Dy.set {D : va_G} {dA : FieldType → ClassId} {A : Nat → Prop} {θ0 : Nat → Nat} {n0 : Nat} {θ : Nat → Nat} {s : State} {H H1 : Heap} {locs locs1 : List Loc} {ls : Array Slot} {st' : List Value} {a : Nat} {x : se_E} (hd : se_Dy G M D dA A θ0 n0 θ s h H locs L st ls) (hx : se_we h.length x) (hw : ∀ v ∈ st', se_wv h.length v)
    (hP : va_P D G.1 ((se_w dA θ h).set a (θ a, se_e dA θ x)) H1) (hD : va_D A ((se_w dA θ h).set a (θ a, se_e dA θ x))) (hS : va_S A s.heap H1 locs1) : se_Dy G M D dA A θ0 n0 θ s (h.set a x) H1 locs1 L st' ls := by
  obtain ⟨a1, a2, a3, a4, a5, a6, a7, a8, a9⟩ := hd
  rw [← se_w_set] at hP hD
  exact ⟨hP, hD, hS, se_wh_set a4 hx, by rw [List.length_set]; exact hw, a6, by rw [List.length_set]; exact a7, by rw [List.length_set]; exact a8, a9⟩
/-- one cell more -/
theorem se_Dy.grow {D : va_G} {dA : FieldType → ClassId} {A : Nat → Prop} {θ0 : Nat → Nat} {n0 : Nat} {θ : Nat → Nat} {s : State} {H H1 : Heap} {locs locs1 : List Loc} {ls : Array Slot} {st' : List Value} {q : Nat} {x : se_E} {y : va_E} (hd : se_Dy G M D dA A θ0 n0 θ s h H locs L st ls) (hx : ∀ n, se_we n x) (hy : ∀ θ, se_e dA θ x = y) (hw : ∀ v ∈ st', se_wv h.length v)
    (hP : va_P D G.1 (se_w dA θ h ++ [(q, y)]) H1) (hD : va_D A (se_w dA θ h ++ [(q, y)])) (hS : va_S A s.heap H1 locs1) : se_Dy G M D dA A θ0 n0 (va_up θ h.length q) s (h ++ [x]) H1 locs1 L (.ref h.length :: st') ls ∧ (Value.ref h.length :: st').map (se_v (va_up θ h.length q)) = .ref q :: st'.map (se_v θ) := by
  obtain ⟨a1, a2, a3, a4, a5, a6, a7, a8, a9⟩ := hd
  have hθ : ∀ k, k < h.length → va_up θ h.length q k = θ k := fun k hk => if_neg (Nat.ne_of_lt hk)
  have hq : va_up θ h.length q h.length = q := if_pos rfl
  have hl : (h ++ [x]).length = h.length + 1 := by simp
  have e := se_w_push (dA := dA) (e := x) a4 hθ hq
  rw [hy] at e
  rw [← e] at hP hD
  refine ⟨⟨hP, hD, hS, se_wh_push a4 (hx _), ?_, se_L_congr a6 a7 hθ, ?_, by omega, fun k hk => by rw [hθ k (by omega)]; exact a9 k hk⟩, ?_⟩
  · rw [hl]; exact se_push (se_r (by omega)) (fun v hv => se_wv_mono (hw v hv) (by omega))
  · rw [hl]; exact fun i v hv => se_wv_mono (a7 i v hv) (by omega)
  · show Value.ref (va_up θ h.length q h.length) :: st'.map (se_v (va_up θ h.length q)) = _
    rw [hq, se_vs_congr hw hθ]
/-- what is known of a class of ours -/
def se_cls (G : se_G) (ci : Nat) (C : String) (T : u_T) (N : Nat) (ty : Nat → FieldType) : Prop := G.1[ci]? = some (C, T, N) ∧ (∀ w ∈ u_ws C T N, w ∈ G.2.1) ∧ (∀ k, k < N → parseFieldDescriptor (T k).2.2.1 = some (ty k)) ∧ ∀ a, a < N → ∀ b, b < N → a ≠ b → (T a).2.1 ≠ (T b).2.1
theorem se_getf {C0 : String} {T : u_T} {N ci index : Nat} {ty : Nat → FieldType} (hc : se_cls G ci C0 T N ty) (k : Nat) {a : Nat} {fs : List Value} {v : Value} (hg : decode M.2.1 pc = .ok (.getfield index, 3)) (hl : Cond.fieldLink M.1.cls index C0 (T k).2.1 (T k).2.2.1 ∈ G.2.1) (hT : (T k).1 = C0) (hk : k < N) (ha : h[a]? = some (.inr (ci, fs))) (hv : fs[k]? = some v)
    (kk : se_W G l d M (pc + 3) L (v :: st) h C S Φ) : se_W G l d M pc L (.ref a :: st) h C S Φ := by
  intro p e R s m args below meth c D dA A θ0 n0 mc ms θ H locs cells slots ls hs hd h1 h2 h3 h4
  refine va_get (D := D) (ci := ci) (v := se_v θ v) (C := C0) (T := T) (N := N) hs.1 hs.2.1 hs.2.2.2.2.2.1 hc.2.1 hs.2.2.2.2.1 hs.2.2.2.2.2.2.2.2.1 hd.1 a (se_w_at ha) hc.1 k hk (hs.2.2.2.2.2.1 _ hl) (fun x h9 => by rwa [hT] at h9) (by rw [List.getElem?_map, hv]; rfl) hg ?_
  exact kk p e R s m args below meth c D dA A θ0 n0 mc ms θ H locs cells slots ls hs (hd.stk (se_push (hd.2.2.2.1 a _ ha v (List.mem_of_getElem? hv)) (se_pop hd.wst))) h1 h2 h3 h4
theorem se_map_set (θ : Nat → Nat) (fs : List Value) (k : Nat) (v : Value) : (fs.map (se_v θ)).set k (se_v θ v) = (fs.set k v).map (se_v θ) := List.map_set.symm
theorem se_we_set {n ci : Nat} {fs : List Value} {k : Nat} {v : Value} (h : se_we n (.inr (ci, fs))) (hv : se_wv n v) : se_we n (.inr (ci, fs.set k v)) := fun w hw => (List.mem_or_eq_of_mem_set hw).elim (h w) (fun e => by rw [e]; exact hv)
theorem se_putf {C0 : String} {T : u_T} {N ci index : Nat} {ty : Nat → FieldType} (hc : se_cls G ci C0 T N ty) (k : Nat) {a : Nat} {fs : List Value} {v : Value} (hg : decode M.2.1 pc = .ok (.putfield index, 3)) (hl : Cond.fieldLink M.1.cls index C0 (T k).2.1 (T k).2.2.1 ∈ G.2.1) (hT : (T k).1 = C0) (hk : k < N) (hfin : (T k).2.2.2 = false) (hn : ∀ θ, narrow (ty k) (se_v θ v) = se_v θ v ∧ fits (ty k) (se_v θ v) = true) (ha : h[a]? = some (.inr (ci, fs))) (hkl : k < fs.length)
    (kk : se_W G l d M (pc + 3) L st (h.set a (.inr (ci, fs.set k v))) C S Φ) : se_W G l d M pc L (v :: .ref a :: st) h C S Φ := by
  intro p e R s m args below meth c D dA A θ0 n0 mc ms θ H locs cells slots ls hs hd h1 h2 h3 h4
  refine va_put (D := D) (ci := ci) (v := se_v θ v) (ty := ty k) (C := C0) (T := T) (N := N) hs.1 hs.2.1 hs.2.2.2.2.2.1 hc.2.1 ty hc.2.2.1 hc.2.2.2 hs.2.2.2.2.1 hs.2.2.2.2.2.2.2.2.1 hd.1 hd.2.1 hd.2.2.1 a (se_w_at ha) hc.1 k hk (hs.2.2.2.2.2.1 _ hl) (fun x h9 => by rwa [hT] at h9) hfin (hc.2.2.1 k hk) (hn θ).1 (hn θ).2 (by rw [List.length_map]; exact hkl) hg (fun H1 locs1 hP hD hS => ?_)
  rw [se_map_set] at hP hD
  exact kk p e R s m args below meth c D dA A θ0 n0 mc ms θ H1 locs1 cells slots ls hs (hd.set (x := .inr (ci, fs.set k v)) (se_we_set (hd.2.2.2.1 a _ ha) (hd.wst v List.mem_cons_self)) (se_pop (se_pop hd.wst)) hP hD hS) h1 h2 h3 h4
theorem se_putF {C0 : String} {T : u_T} {N ci index : Nat} {ty : Nat → FieldType} (hc : se_cls G ci C0 T N ty) (k : Nat) {a : Nat} {fs : List Value} {v : Value} (hg : decode M.2.1 pc = .ok (.putfield index, 3)) (hl : Cond.fieldLink M.1.cls index C0 (T k).2.1 (T k).2.2.1 ∈ G.2.1) (hT : (T k).1 = C0) (hk : k < N) (hfin : (T k).2.2.2 = true) (hMi : M.1.name = "<init>") (hMc : M.1.cls = C0) (hn : ∀ θ, narrow (ty k) (se_v θ v) = se_v θ v ∧ fits (ty k) (se_v θ v) = true) (ha : h[a]? = some (.inr (ci, fs))) (hkl : k < fs.length)
    (kk : se_W G l d M (pc + 3) L st (h.set a (.inr (ci, fs.set k v))) C S Φ) : se_W G l d M pc L (v :: .ref a :: st) h C S Φ := by
  intro p e R s m args below meth c D dA A θ0 n0 mc ms θ H locs cells slots ls hs hd h1 h2 h3 h4
  have hin : meth.name = "<init>" := by rw [hs.2.2.2.2.2.2.2.2.2.2.2.2.1]; exact hMi
  refine va_putF (D := D) (ci := ci) (v := se_v θ v) (ty := ty k) (C := C0) (T := T) (N := N) hs.1 hs.2.1 hs.2.2.2.2.2.1 hc.2.1 ty hc.2.2.1 hc.2.2.2 hs.2.2.2.2.1 hs.2.2.2.2.2.2.2.2.1 hd.1 hd.2.1 hd.2.2.1 a (se_w_at ha) hc.1 k hk (hs.2.2.2.2.2.1 _ hl) (fun x h9 => by rwa [hT] at h9) hfin hin (by rw [hT]; exact hMc.symm) (hc.2.2.1 k hk) (hn θ).1 (hn θ).2 (by rw [List.length_map]; exact hkl) hg (fun H1 locs1 hP hD hS => ?_)
  rw [se_map_set] at hP hD
  exact kk p e R s m args below meth c D dA A θ0 n0 mc ms θ H1 locs1 cells slots ls hs (hd.set (x := .inr (ci, fs.set k v)) (se_we_set (hd.2.2.2.1 a _ ha) (hd.wst v List.mem_cons_self)) (se_pop (se_pop hd.wst)) hP hD hS) h1 h2 h3 h4
/-- a value that isn't a cell -/
def se_nr : Value → Bool
  | .ref _ => false
  | .retAddr _ => false
  | _ => true
theorem se_new {C0 : String} {T : u_T} {N ci index : Nat} {ty : Nat → FieldType} (hc : se_cls G ci C0 T N ty) (fs : List Value) {C' S' : Nat} (hg : decode M.2.1 pc = .ok (.new index, 3)) (hl : Cond.classLink M.1.cls index C0 ∈ G.2.1) (hin : Cond.instantiable C0 N ∈ G.2.1) (hini : Cond.initialized C0 ∈ G.2.1) (hfs : ∀ j, j < N → defaultValue (ty j) = vp_V fs j) (hnr : fs.all se_nr = true) (hC : C' + 1 ≤ C) (hS : S' + N ≤ S)
    (kk : se_W G l d M (pc + 3) L (.ref h.length :: st) (h ++ [.inr (ci, fs)]) C' S' Φ) : se_W G l d M pc L st h C S Φ := by
  intro p e R s m args below meth c D dA A θ0 n0 mc ms θ H locs cells slots ls hs hd h1 h2 h3 h4
  refine va_new (ci := ci) (fs := fs) (C := C0) (T := T) (N := N) hs.1 hs.2.1 hs.2.2.2.2.2.1 hc.2.1 ty hc.2.2.1 hs.2.2.2.2.1 (hs.2.2.2.2.2.1 _ hl) (hs.2.2.2.2.2.1 _ hin) (hs.2.2.2.2.2.1 _ hini) hs.2.2.2.2.2.2.2.2.1 hd.1 hd.2.1 hd.2.2.1 hs.2.2.2.2.2.2.2.2.2.1 hc.1 hfs (by omega) (by omega) hg (fun q H1 hP hD hS1 => ?_)
  have hmap : ∀ θ, fs.map (se_v θ) = fs := fun θ => by
    rw [List.map_congr_left (g := id) (fun v hv => ?_), List.map_id]
    have h9 := List.all_eq_true.mp hnr v hv
    cases v with
    | ref k => cases h9
    | retAddr k => cases h9
    | _ => rfl
  obtain ⟨g1, g2⟩ := hd.grow (x := .inr (ci, fs)) (fun n v hv k hk => by have h9 := List.all_eq_true.mp hnr v hv; rw [hk] at h9; cases h9) (fun θ => by show Sum.inr (ci, fs.map (se_v θ)) = _; rw [hmap]) hd.wst hP hD hS1
  rw [← g2]
  exact kk p e R s m args below meth c D dA A θ0 n0 mc ms _ H1 locs (cells + 1) (slots + N) ls hs g1 (by omega) (by omega) h3 h4
theorem se_tys_at {dA : FieldType → ClassId} {t0 : Nat} {ty : FieldType} (ht : G.2.2.1[t0]? = some ty) : (se_tys G dA)[t0]? = some (dA ty, ty) := by
  rw [se_tys, List.getElem?_map, ht]; rfl
/-- the array types that we make: ints, longs, booleans -/
def se_a0 (ty : FieldType) (N : Nat) : vp_A := match ty with
  | .long => (N, .inr (.inl (fun _ => 0)))
  | _ => (N, .inl (fun _ => 0))
theorem se_newa {atype : ArrayType} {ty : FieldType} (t0 : Nat) {n : Int32} {N C' S' : Nat} (hg : decode M.2.1 pc = .ok (.newarray atype, 2)) (hty : newarray.typeOf atype = ty) (hp : ty = .int ∨ ty = .long ∨ ty = .boolean) (ht : G.2.2.1[t0]? = some ty) (hl : Cond.arrayClass ty ∈ G.2.1) (hn : ¬ n < 0) (hN : n.toNatClampNeg = N) (hb : N ≤ 1000000) (hC : C' + 1 ≤ C) (hS : S' + N ≤ S)
    (kk : se_W G l d M (pc + 2) L (.ref h.length :: st) (h ++ [.inl (ty, se_a0 ty N)]) C' S' Φ) : se_W G l d M pc L (.int n :: st) h C S Φ := by
  intro p e R s m args below meth c D dA A θ0 n0 mc ms θ H locs cells slots ls hs hd h1 h2 h3 h4
  have hcell : ∀ cA : ClassId, vp_cell cA (se_a0 ty N) = arrV cA N (fun _ => defaultValue ty) := by
    rcases hp with rfl | rfl | rfl <;> exact fun cA => rfl
  have hbytes : N * componentBytes ty ≤ 536870912 := by
    rcases hp with rfl | rfl | rfl <;> simp [componentBytes] <;> omega
  refine va_newa (a0 := se_a0 ty N) hs.1 hs.2.1 (by rw [hty]; exact hs.2.2.2.2.2.1 _ hl) hty hs.2.2.2.2.2.2.2.2.1 hd.1 hd.2.1 hd.2.2.1 hs.2.2.2.2.2.2.2.2.2.1 hcell hn hN hbytes (by omega) (by omega) hg (fun q cA H1 hK hP hD hS1 => ?_)
  have e1 : va_RA s cA ty := (hK.2 (se_tys G dA).length (cA, ty) (by rw [List.getElem?_append_right (Nat.le_refl _)]; simp)).2
  have e2 : va_RA s (dA ty) ty := (hs.2.2.2.2.2.2.2.2.1.2 t0 _ (se_tys_at ht)).2
  have e3 : cA = dA ty := by
    rcases hp with rfl | rfl | rfl <;> exact Option.some.inj (Eq.trans (Eq.symm e1) e2)
  subst e3
  obtain ⟨g1, g2⟩ := hd.grow (x := .inl (ty, se_a0 ty N)) (fun n m f hf => by rcases hp with rfl | rfl | rfl <;> cases hf) (fun θ => by rcases hp with rfl | rfl | rfl <;> rfl) (se_pop hd.wst) hP hD hS1
  rw [← g2]
  exact kk p e R s m args below meth c D dA A θ0 n0 mc ms _ H1 locs (cells + 1) (slots + N) ls hs g1 (by omega) (by omega) h3 h4
theorem se_newq {C0 : String} {index : Nat} (t0 : Nat) {n : Int32} {N C' S' : Nat} (hg : decode M.2.1 pc = .ok (.anewarray index, 3)) (ht : G.2.2.1[t0]? = some (.object C0)) (hl : Cond.classLink M.1.cls index C0 ∈ G.2.1) (ho : Cond.arrayOver (.object C0) ∈ G.2.2.2.2.1) (hn : ¬ n < 0) (hN : n.toNatClampNeg = N) (hb : N ≤ 1000000) (hC : C' + 1 ≤ C) (hS : S' + N ≤ S)
    (kk : se_W G l d M (pc + 3) L (.ref h.length :: st) (h ++ [.inl (.object C0, (N, .inr (.inr (.inr (.inr (fun _ => none))))))]) C' S' Φ) : se_W G l d M pc L (.int n :: st) h C S Φ := by
  intro p e R s m args below meth c D dA A θ0 n0 mc ms θ H locs cells slots ls hs hd h1 h2 h3 h4
  refine va_newq (C := C0) hs.1 hs.2.1 hs.2.2.2.2.1 (hs.2.2.2.2.2.1 _ hl) (hs.2.2.2.2.2.2.2.2.2.2.1.2.2.2.1 _ ho) hs.2.2.2.2.2.2.2.2.1 hd.1 hd.2.1 hd.2.2.1 hs.2.2.2.2.2.2.2.2.2.1 hn hN (by omega) (by omega) (by omega) hg (fun q cA H1 hK hP hD hS1 => ?_)
  have e1 : va_RA s cA (.object C0) := (hK.2 (se_tys G dA).length (cA, .object C0) (by rw [List.getElem?_append_right (Nat.le_refl _)]; simp)).2
  have e2 : va_RA s (dA (.object C0)) (.object C0) := (hs.2.2.2.2.2.2.2.2.1.2 t0 _ (se_tys_at ht)).2
  have e3 : cA = dA (.object C0) := by
    obtain ⟨_, _, -, -, -, x1⟩ := e1
    obtain ⟨_, _, -, -, -, x2⟩ := e2
    exact Option.some.inj (x1.symm.trans x2)
  subst e3
  obtain ⟨g1, g2⟩ := hd.grow (x := .inl (.object C0, (N, .inr (.inr (.inr (.inr (fun _ => none))))))) (fun n m f hf j k hk => by cases hf; cases hk) (fun θ => rfl) (se_pop hd.wst) hP hD hS1
  rw [← g2]
  exact kk p e R s m args below meth c D dA A θ0 n0 mc ms _ H1 locs (cells + 1) (slots + N) ls hs g1 (by omega) (by omega) h3 h4
theorem se_iald (t0 : Nat) {a n : Nat} {f : Nat → Int32} {i : Int32} (hg : decode M.2.1 pc = .ok (.iaload, 1)) (ht : G.2.2.1[t0]? = some .int) (ha : h[a]? = some (.inl (.int, (n, .inl f)))) (hin : vp_in i n) (kk : se_W G l d M (pc + 1) L (.int (f i.toNatClampNeg) :: st) h C S Φ) : se_W G l d M pc L (.int i :: .ref a :: st) h C S Φ := by
  intro p e R s m args below meth c D dA A θ0 n0 mc ms θ H locs cells slots ls hs hd h1 h2 h3 h4
  exact va_iald hs.1 hs.2.1 hs.2.2.2.2.2.2.2.2.1 hd.1 a t0 (se_w_at ha) (se_tys_at ht) hin hg (kk p e R s m args below meth c D dA A θ0 n0 mc ms θ H locs cells slots ls hs (hd.stk (se_push (se_i _ _) (se_pop (se_pop hd.wst)))) h1 h2 h3 h4)
theorem se_zald (t0 : Nat) {a n : Nat} {f : Nat → Int32} {i : Int32} (hg : decode M.2.1 pc = .ok (.baload, 1)) (ht : G.2.2.1[t0]? = some .boolean) (ha : h[a]? = some (.inl (.boolean, (n, .inl f)))) (hin : vp_in i n) (kk : se_W G l d M (pc + 1) L (.int (f i.toNatClampNeg) :: st) h C S Φ) : se_W G l d M pc L (.int i :: .ref a :: st) h C S Φ := by
  intro p e R s m args below meth c D dA A θ0 n0 mc ms θ H locs cells slots ls hs hd h1 h2 h3 h4
  exact va_zald hs.1 hs.2.1 hs.2.2.2.2.2.2.2.2.1 hd.1 a t0 (se_w_at ha) (se_tys_at ht) hin hg (kk p e R s m args below meth c D dA A θ0 n0 mc ms θ H locs cells slots ls hs (hd.stk (se_push (se_i _ _) (se_pop (se_pop hd.wst)))) h1 h2 h3 h4)
theorem se_lald (t0 : Nat) {a n : Nat} {f : Nat → Int64} {i : Int32} (hg : decode M.2.1 pc = .ok (.laload, 1)) (ht : G.2.2.1[t0]? = some .long) (ha : h[a]? = some (.inl (.long, (n, .inr (.inl f))))) (hin : vp_in i n) (kk : se_W G l d M (pc + 1) L (.long (f i.toNatClampNeg) :: st) h C S Φ) : se_W G l d M pc L (.int i :: .ref a :: st) h C S Φ := by
  intro p e R s m args below meth c D dA A θ0 n0 mc ms θ H locs cells slots ls hs hd h1 h2 h3 h4
  exact va_lald hs.1 hs.2.1 hs.2.2.2.2.2.2.2.2.1 hd.1 a t0 (se_w_at ha) (se_tys_at ht) hin hg (kk p e R s m args below meth c D dA A θ0 n0 mc ms θ H locs cells slots ls hs (hd.stk (se_push (se_j _ _) (se_pop (se_pop hd.wst)))) h1 h2 h3 h4)
theorem se_iast (t0 : Nat) {a n : Nat} {f : Nat → Int32} {i : Int32} {x : Int32} (hg : decode M.2.1 pc = .ok (.iastore, 1)) (ht : G.2.2.1[t0]? = some .int) (ha : h[a]? = some (.inl (.int, (n, .inl f)))) (hin : vp_in i n) (kk : se_W G l d M (pc + 1) L st (h.set a (.inl (.int, (n, .inl (upd f i.toNatClampNeg x))))) C S Φ) : se_W G l d M pc L (.int x :: .int i :: .ref a :: st) h C S Φ := by
  intro p e R s m args below meth c D dA A θ0 n0 mc ms θ H locs cells slots ls hs hd h1 h2 h3 h4
  refine va_iast hs.1 hs.2.1 hs.2.2.2.2.2.2.2.2.1 hd.1 hd.2.1 hd.2.2.1 a t0 (se_w_at ha) (se_tys_at ht) hin hg (fun H1 locs1 hP hD hS => ?_)
  exact kk p e R s m args below meth c D dA A θ0 n0 mc ms θ H1 locs1 cells slots ls hs (hd.set (x := .inl (.int, (n, .inl (upd f i.toNatClampNeg x)))) (fun m f hf => by cases hf) (se_pop (se_pop (se_pop hd.wst))) hP hD hS) h1 h2 h3 h4
theorem se_zast (t0 : Nat) {a n : Nat} {f : Nat → Int32} {i : Int32} {x : Int32} (hg : decode M.2.1 pc = .ok (.bastore, 1)) (ht : G.2.2.1[t0]? = some .boolean) (ha : h[a]? = some (.inl (.boolean, (n, .inl f)))) (hin : vp_in i n) (kk : se_W G l d M (pc + 1) L st (h.set a (.inl (.boolean, (n, .inl (upd f i.toNatClampNeg (vp_nar .boolean x)))))) C S Φ) : se_W G l d M pc L (.int x :: .int i :: .ref a :: st) h C S Φ := by
  intro p e R s m args below meth c D dA A θ0 n0 mc ms θ H locs cells slots ls hs hd h1 h2 h3 h4
  refine va_zast hs.1 hs.2.1 hs.2.2.2.2.2.2.2.2.1 hd.1 hd.2.1 hd.2.2.1 a t0 (se_w_at ha) (se_tys_at ht) hin hg (fun H1 locs1 hP hD hS => ?_)
  exact kk p e R s m args below meth c D dA A θ0 n0 mc ms θ H1 locs1 cells slots ls hs (hd.set (x := .inl (.boolean, (n, .inl (upd f i.toNatClampNeg (vp_nar .boolean x))))) (fun m f hf => by cases hf) (se_pop (se_pop (se_pop hd.wst))) hP hD hS) h1 h2 h3 h4
theorem se_last (t0 : Nat) {a n : Nat} {f : Nat → Int64} {i : Int32} {x : Int64} (hg : decode M.2.1 pc = .ok (.lastore, 1)) (ht : G.2.2.1[t0]? = some .long) (ha : h[a]? = some (.inl (.long, (n, .inr (.inl f))))) (hin : vp_in i n) (kk : se_W G l d M (pc + 1) L st (h.set a (.inl (.long, (n, .inr (.inl (vp_updL f i.toNatClampNeg x)))))) C S Φ) : se_W G l d M pc L (.long x :: .int i :: .ref a :: st) h C S Φ := by
  intro p e R s m args below meth c D dA A θ0 n0 mc ms θ H locs cells slots ls hs hd h1 h2 h3 h4
  refine va_last hs.1 hs.2.1 hs.2.2.2.2.2.2.2.2.1 hd.1 hd.2.1 hd.2.2.1 a t0 (se_w_at ha) (se_tys_at ht) hin hg (fun H1 locs1 hP hD hS => ?_)
  exact kk p e R s m args below meth c D dA A θ0 n0 mc ms θ H1 locs1 cells slots ls hs (hd.set (x := .inl (.long, (n, .inr (.inl (vp_updL f i.toNatClampNeg x))))) (fun m f hf => by cases hf) (se_pop (se_pop (se_pop hd.wst))) hP hD hS) h1 h2 h3 h4
theorem se_rf (θ : Nat → Nat) (r : Option Nat) : va_rf (r.map θ) = se_v θ (va_rf r) := by cases r <;> rfl
theorem se_aald {C0 : String} (t0 : Nat) {a n : Nat} {f : Nat → Option Nat} {i : Int32} (hg : decode M.2.1 pc = .ok (.aaload, 1)) (ht : G.2.2.1[t0]? = some (.object C0)) (ha : h[a]? = some (.inl (.object C0, (n, .inr (.inr (.inr (.inr f))))))) (hin : vp_in i n) (kk : se_W G l d M (pc + 1) L (va_rf (f i.toNatClampNeg) :: st) h C S Φ) : se_W G l d M pc L (.int i :: .ref a :: st) h C S Φ := by
  intro p e R s m args below meth c D dA A θ0 n0 mc ms θ H locs cells slots ls hs hd h1 h2 h3 h4
  refine va_aldq hs.1 hs.2.1 hs.2.2.2.2.2.2.2.2.1 hd.1 a t0 (se_w_at ha) (se_tys_at ht) hin hg ?_
  rw [se_rf]
  refine kk p e R s m args below meth c D dA A θ0 n0 mc ms θ H locs cells slots ls hs (hd.stk (se_push (fun k hk => ?_) (se_pop (se_pop hd.wst)))) h1 h2 h3 h4
  cases hf : f i.toNatClampNeg with
  | none => rw [hf] at hk; cases hk
  | some y => rw [hf] at hk; cases hk; exact hd.2.2.2.1 a _ ha n f rfl _ _ hf
theorem se_a_up (θ : Nat → Nat) (f : Nat → Option Nat) (k v : Nat) : va_up (fun j => (f j).map θ) k (some (θ v)) = fun j => (va_up f k (some v) j).map θ := by
  funext j
  by_cases hj : j = k <;> simp [va_up, hj]
theorem se_aast {C0 : String} {T : u_T} {N ci : Nat} (t0 : Nat) {a n v : Nat} {f : Nat → Option Nat} {i : Int32} {vs : List Value} (hg : decode M.2.1 pc = .ok (.aastore, 1)) (ht : G.2.2.1[t0]? = some (.object C0)) (hc : G.1[ci]? = some (C0, T, N)) (ha : h[a]? = some (.inl (.object C0, (n, .inr (.inr (.inr (.inr f))))))) (hv : h[v]? = some (.inr (ci, vs))) (hin : vp_in i n) (kk : se_W G l d M (pc + 1) L st (h.set a (.inl (.object C0, (n, .inr (.inr (.inr (.inr (va_up f i.toNatClampNeg (some v)))))))))  C S Φ) : se_W G l d M pc L (.ref v :: .int i :: .ref a :: st) h C S Φ := by
  intro p e R s m args below meth c D dA A θ0 n0 mc ms θ H locs cells slots ls hs hd h1 h2 h3 h4
  refine va_astq (r := (C0, T, N)) hs.1 hs.2.1 hs.2.2.2.2.2.2.2.2.1 hd.1 hd.2.1 hd.2.2.1 a t0 v ci (se_w_at ha) (se_tys_at ht) (se_w_at hv) hc hin hg (fun H1 locs1 hP hD hS => ?_)
  rw [se_a_up] at hP hD
  refine kk p e R s m args below meth c D dA A θ0 n0 mc ms θ H1 locs1 cells slots ls hs (hd.set (x := .inl (.object C0, (n, .inr (.inr (.inr (.inr (va_up f i.toNatClampNeg (some v)))))))) (fun m g hf j k hk => ?_) (se_pop (se_pop (se_pop hd.wst))) hP hD hS) h1 h2 h3 h4
  cases hf
  by_cases hj : j = i.toNatClampNeg
  · rw [hj] at hk; simp only [va_up, if_true] at hk; cases hk; exact hd.wst _ List.mem_cons_self v rfl
  · simp only [va_up, if_neg hj] at hk; exact hd.2.2.2.1 a _ ha n f rfl _ _ hk
theorem se_alen {ty : FieldType} (t0 : Nat) {a : Nat} {x : vp_A} (hg : decode M.2.1 pc = .ok (.arraylength, 1)) (ht : G.2.2.1[t0]? = some ty) (ha : h[a]? = some (.inl (ty, x))) (kk : se_W G l d M (pc + 1) L (.int (Int32.ofNat x.1) :: st) h C S Φ) : se_W G l d M pc L (.ref a :: st) h C S Φ := by
  intro p e R s m args below meth c D dA A θ0 n0 mc ms θ H locs cells slots ls hs hd h1 h2 h3 h4
  refine va_alen hs.1 hs.2.1 hs.2.2.2.2.2.2.2.2.1 hd.1 a t0 (se_w_at ha) (se_tys_at ht) (v := Int32.ofNat x.1) ?_ hg (kk p e R s m args below meth c D dA A θ0 n0 mc ms θ H locs cells slots ls hs (hd.stk (se_push (se_i _ _) (se_pop hd.wst))) h1 h2 h3 h4)
  obtain ⟨n, x⟩ := x
  rcases x with f | f | f | f | f <;> rfl
theorem se_acmp_eq {rx ry : Option Nat} {off : Int} {tgt : Nat} (hg : decode M.2.1 pc = .ok (.if_acmp .eq off, 3)) (ht : (pc : Int) + off = (tgt : Int)) (kt : rx = ry → se_W G l d M tgt L st h C S Φ) (kf : ¬ rx = ry → se_W G l d M (pc + 3) L st h C S Φ) : se_W G l d M pc L (va_rf ry :: va_rf rx :: st) h C S Φ := by
  intro p e R s m args below meth c D dA A θ0 n0 mc ms θ H locs cells slots ls hs hd h1 h2 h3 h4
  have inj : rx.map θ = ry.map θ ↔ rx = ry := by
    refine ⟨fun q => ?_, fun q => by rw [q]⟩
    have g : ∀ (r : Option Nat) (k : Nat), va_rf r ∈ va_rf ry :: va_rf rx :: st → r = some k → ∃ e, h[k]? = some e := fun r k hm hr => by
      have := hd.wst _ hm k (by rw [hr]; rfl)
      exact ⟨h[k], List.getElem?_eq_getElem this⟩
    cases hx : rx with
    | none => cases hy : ry with
      | none => rfl
      | some y => rw [hx, hy] at q; cases q
    | some x => cases hy : ry with
      | none => rw [hx, hy] at q; cases q
      | some y =>
        obtain ⟨e1, g1⟩ := g rx x (List.mem_cons_of_mem _ List.mem_cons_self) hx
        obtain ⟨e2, g2⟩ := g ry y List.mem_cons_self hy
        rw [hx, hy] at q
        have q2 : θ x = θ y := Option.some.inj q
        rw [hd.2.1.1 x y _ _ (se_w_at g1) (se_w_at g2) q2]
  have e9 : (va_rf ry :: va_rf rx :: st).map (se_v θ) = va_rf (ry.map θ) :: va_rf (rx.map θ) :: st.map (se_v θ) := by rw [se_rf, se_rf]; rfl
  rw [e9]
  exact lv_acmp_eq hs.1 hs.2.1 hg ht (fun q => kt (inj.mp q) p e R s m args below meth c D dA A θ0 n0 mc ms θ H locs cells slots ls hs (hd.stk (se_pop (se_pop hd.wst))) h1 h2 h3 h4) (fun q => kf (fun z => q (inj.mpr z)) p e R s m args below meth c D dA A θ0 n0 mc ms θ H locs cells slots ls hs (hd.stk (se_pop (se_pop hd.wst))) h1 h2 h3 h4)
theorem se_acmp_ne {rx ry : Option Nat} {off : Int} {tgt : Nat} (hg : decode M.2.1 pc = .ok (.if_acmp .ne off, 3)) (ht : (pc : Int) + off = (tgt : Int)) (kt : ¬ rx = ry → se_W G l d M tgt L st h C S Φ) (kf : rx = ry → se_W G l d M (pc + 3) L st h C S Φ) : se_W G l d M pc L (va_rf ry :: va_rf rx :: st) h C S Φ := by
  intro p e R s m args below meth c D dA A θ0 n0 mc ms θ H locs cells slots ls hs hd h1 h2 h3 h4
  have inj : rx.map θ = ry.map θ ↔ rx = ry := by
    refine ⟨fun q => ?_, fun q => by rw [q]⟩
    have g : ∀ (r : Option Nat) (k : Nat), va_rf r ∈ va_rf ry :: va_rf rx :: st → r = some k → ∃ e, h[k]? = some e := fun r k hm hr => by
      have := hd.wst _ hm k (by rw [hr]; rfl)
      exact ⟨h[k], List.getElem?_eq_getElem this⟩
    cases hx : rx with
    | none => cases hy : ry with
      | none => rfl
      | some y => rw [hx, hy] at q; cases q
    | some x => cases hy : ry with
      | none => rw [hx, hy] at q; cases q
      | some y =>
        obtain ⟨e1, g1⟩ := g rx x (List.mem_cons_of_mem _ List.mem_cons_self) hx
        obtain ⟨e2, g2⟩ := g ry y List.mem_cons_self hy
        rw [hx, hy] at q
        have q2 : θ x = θ y := Option.some.inj q
        rw [hd.2.1.1 x y _ _ (se_w_at g1) (se_w_at g2) q2]
  have e9 : (va_rf ry :: va_rf rx :: st).map (se_v θ) = va_rf (ry.map θ) :: va_rf (rx.map θ) :: st.map (se_v θ) := by rw [se_rf, se_rf]; rfl
  rw [e9]
  exact lv_acmp_ne hs.1 hs.2.1 hg ht (fun q => kt (fun z => q (inj.mpr z)) p e R s m args below meth c D dA A θ0 n0 mc ms θ H locs cells slots ls hs (hd.stk (se_pop (se_pop hd.wst))) h1 h2 h3 h4) (fun q => kf (inj.mp q) p e R s m args below meth c D dA A θ0 n0 mc ms θ H locs cells slots ls hs (hd.stk (se_pop (se_pop hd.wst))) h1 h2 h3 h4)
theorem se_tableIn {dflt lo hi : Int} {offs : Array Int} {len : Nat} {x : Int32} {off : Int} {tgt : Nat} (hg : decode M.2.1 pc = .ok (.tableswitch dflt lo hi offs, len)) (x1 : ¬ x.toInt < lo) (x2 : ¬ hi < x.toInt) (ho : offs[(x.toInt - lo).toNat]? = some off) (ht : (pc : Int) + off = (tgt : Int)) (k : se_W G l d M tgt L st h C S Φ) : se_W G l d M pc L (.int x :: st) h C S Φ := by
  intro p e R s m args below meth c D dA A θ0 n0 mc ms θ H locs cells slots ls hs hd h1 h2 h3 h4
  exact lv_tableIn hs.1 hs.2.1 hg x1 x2 ho ht (k p e R s m args below meth c D dA A θ0 n0 mc ms θ H locs cells slots ls hs (hd.stk (se_pop hd.wst)) h1 h2 h3 h4)
theorem se_tableOut {dflt lo hi : Int} {offs : Array Int} {len : Nat} {x : Int32} {tgt : Nat} (hg : decode M.2.1 pc = .ok (.tableswitch dflt lo hi offs, len)) (x1 : x.toInt < lo ∨ hi < x.toInt) (ht : (pc : Int) + dflt = (tgt : Int)) (k : se_W G l d M tgt L st h C S Φ) : se_W G l d M pc L (.int x :: st) h C S Φ := by
  intro p e R s m args below meth c D dA A θ0 n0 mc ms θ H locs cells slots ls hs hd h1 h2 h3 h4
  exact lv_tableOut hs.1 hs.2.1 hg x1 ht (k p e R s m args below meth c D dA A θ0 n0 mc ms θ H locs cells slots ls hs (hd.stk (se_pop hd.wst)) h1 h2 h3 h4)
theorem se_lookup {dflt : Int} {ps : Array (Int × Int)} {len : Nat} {x : Int32} {off : Int} {tgt : Nat} (hg : decode M.2.1 pc = .ok (.lookupswitch dflt ps, len)) (hp : (ps.toList.zip (ps.toList.drop 1)).all (fun (a, next) => a.1 < next.1) = true) (ho : Op.lookupswitch.offset ps.toList dflt x.toInt = off) (ht : (pc : Int) + off = (tgt : Int)) (k : se_W G l d M tgt L st h C S Φ) : se_W G l d M pc L (.int x :: st) h C S Φ := by
  intro p e R s m args below meth c D dA A θ0 n0 mc ms θ H locs cells slots ls hs hd h1 h2 h3 h4
  exact lv_lookup hs.1 hs.2.1 hg hp ho ht (k p e R s m args below meth c D dA A θ0 n0 mc ms θ H locs cells slots ls hs (hd.stk (se_pop hd.wst)) h1 h2 h3 h4)
theorem se_ldc {index : Nat} (v : Int32) (hg : decode M.2.1 pc = .ok (.ldc index, 2)) (hl : Cond.constant M.1.cls index v ∈ G.2.1) (k : se_W G l d M (pc + 2) L (.int v :: st) h C S Φ) : se_W G l d M pc L st h C S Φ := by
  intro p e R s m args below meth c D dA A θ0 n0 mc ms θ H locs cells slots ls hs hd h1 h2 h3 h4
  exact W.ldc hs.1 hs.2.1 hs.2.2.2.2.1 (hs.2.2.2.2.2.1 _ hl) rfl hg (k p e R s m args below meth c D dA A θ0 n0 mc ms θ H locs cells slots ls hs (hd.stk (se_push (se_i _ _) hd.wst)) h1 h2 h3 h4)
theorem se_ldc2 {index : Nat} (v : Int64) (hg : decode M.2.1 pc = .ok (.ldc2_w index, 3)) (hl : Cond.constantLong M.1.cls index v ∈ G.2.1) (k : se_W G l d M (pc + 3) L (.long v :: st) h C S Φ) : se_W G l d M pc L st h C S Φ := by
  intro p e R s m args below meth c D dA A θ0 n0 mc ms θ H locs cells slots ls hs hd h1 h2 h3 h4
  exact W.ldc2 hs.1 hs.2.1 hs.2.2.2.2.1 (hs.2.2.2.2.2.1 _ hl) rfl hg (k p e R s m args below meth c D dA A θ0 n0 mc ms θ H locs cells slots ls hs (hd.stk (se_push (se_j _ _) hd.wst)) h1 h2 h3 h4)
end SE
end
section
section SE2
variable {G : se_G} {l : Launch} {d : Nat} {M : se_M} {pc : Nat} {L : List (Option Value)} {st : List Value} {h : se_H} {C S : Nat} {Φ : se_O → se_H → Prop}
/-! ===== ends ===== -/
theorem se_vret (hg : decode M.2.1 pc = .ok (.return_, 1)) (hr : M.2.2.2.1 = none) (hΦ : Φ (.inl none) h) : se_W G l d M pc L [] h C S Φ := by
  intro p e R s m args below meth c D dA A θ0 n0 mc ms θ H locs cells slots ls hs hd h1 h2 h3 h4
  refine W.widen (k := mc) (n := ms) (by omega) (by omega) (vx_ret ?_)
  exact W.vret hs.1 hs.2.1 (hs.2.2.2.1.trans hr) (fun t ht hW => ⟨⟨none, h, θ, hΦ, rfl, fun x hx => (by cases hx), by rw [ht]; exact hd.1, hd.2.1, hd.2.2.2.1, hd.2.2.2.2.2.2.2⟩, hd.2.2.1.F ht⟩) hd.2.2.1.2.2 hg hs.2.2.2.2.2.2.1
theorem se_iret {x : Int32} (hg : decode M.2.1 pc = .ok (.ireturn, 1)) (hr : M.2.2.2.1 = some .int) (hΦ : Φ (.inl (some (.int x))) h) : se_W G l d M pc L [.int x] h C S Φ := by
  intro p e R s m args below meth c D dA A θ0 n0 mc ms θ H locs cells slots ls hs hd h1 h2 h3 h4
  refine W.widen (k := mc) (n := ms) (by omega) (by omega) (vx_ret ?_)
  exact W.iret hs.1 hs.2.1 (hs.2.2.2.1.trans hr) (fun t ht hW => ⟨⟨some (.int x), h, θ, hΦ, rfl, fun y hy => by cases hy; exact se_i _ _, by rw [ht]; exact hd.1, hd.2.1, hd.2.2.2.1, hd.2.2.2.2.2.2.2⟩, hd.2.2.1.F ht⟩) hd.2.2.1.2.2 hg hs.2.2.2.2.2.2.1
theorem se_zret {x : Int32} (hg : decode M.2.1 pc = .ok (.ireturn, 1)) (hr : M.2.2.2.1 = some .boolean) (hx : x = 0 ∨ x = 1) (hΦ : Φ (.inl (some (.int x))) h) : se_W G l d M pc L [.int x] h C S Φ := by
  intro p e R s m args below meth c D dA A θ0 n0 mc ms θ H locs cells slots ls hs hd h1 h2 h3 h4
  refine W.widen (k := mc) (n := ms) (by omega) (by omega) (vx_ret ?_)
  have hn : narrow .boolean (.int x) = .int x := by rcases hx with rfl | rfl <;> decide
  exact W.zret hs.1 hs.2.1 (hs.2.2.2.1.trans hr) hn (fun t ht hW => ⟨⟨some (.int x), h, θ, hΦ, rfl, fun y hy => by cases hy; exact se_i _ _, by rw [ht]; exact hd.1, hd.2.1, hd.2.2.2.1, hd.2.2.2.2.2.2.2⟩, hd.2.2.1.F ht⟩) hd.2.2.1.2.2 hg hs.2.2.2.2.2.2.1
theorem se_lret {x : Int64} (hg : decode M.2.1 pc = .ok (.lreturn, 1)) (hr : M.2.2.2.1 = some .long) (hΦ : Φ (.inl (some (.long x))) h) : se_W G l d M pc L [.long x] h C S Φ := by
  intro p e R s m args below meth c D dA A θ0 n0 mc ms θ H locs cells slots ls hs hd h1 h2 h3 h4
  refine W.widen (k := mc) (n := ms) (by omega) (by omega) (vx_ret ?_)
  exact W.lret hs.1 hs.2.1 (hs.2.2.2.1.trans hr) (fun t ht hW => ⟨⟨some (.long x), h, θ, hΦ, rfl, fun y hy => by cases hy; exact se_j _ _, by rw [ht]; exact hd.1, hd.2.1, hd.2.2.2.1, hd.2.2.2.2.2.2.2⟩, hd.2.2.1.F ht⟩) hd.2.2.1.2.2 hg hs.2.2.2.2.2.2.1
theorem se_aret {r : Option Nat} {nm : String} (hg : decode M.2.1 pc = .ok (.areturn, 1)) (hr : M.2.2.2.1 = some (.object nm)) (hΦ : Φ (.inl (some (va_rf r))) h) : se_W G l d M pc L [va_rf r] h C S Φ := by
  intro p e R s m args below meth c D dA A θ0 n0 mc ms θ H locs cells slots ls hs hd h1 h2 h3 h4
  refine W.widen (k := mc) (n := ms) (by omega) (by omega) (vx_ret ?_)
  have hv : se_v θ (va_rf r) = .null ∨ ∃ a, se_v θ (va_rf r) = .ref a := by
    cases r with
    | none => exact Or.inl rfl
    | some a => exact Or.inr ⟨θ a, rfl⟩
  exact W.aret (v := se_v θ (va_rf r)) hs.1 hs.2.1 (hs.2.2.2.1.trans hr) (Or.inl ⟨nm, rfl⟩) hv (fun t ht hW => ⟨⟨some (va_rf r), h, θ, hΦ, rfl, fun y hy => by cases hy; exact hd.wst _ List.mem_cons_self, by rw [ht]; exact hd.1, hd.2.1, hd.2.2.2.1, hd.2.2.2.2.2.2.2⟩, hd.2.2.1.F ht⟩) hd.2.2.1.2.2 hg hs.2.2.2.2.2.2.1
/-! ===== contracts and calls ===== -/
def se_mok (G : se_G) (M : se_M) (n : Nat) : Prop := plainName M.1.cls = true ∧ M.2.2.2.2 = [] ∧ Cond.code M.1 M.2.1 M.2.2.1 M.2.2.2.1 ∈ G.2.1 ∧ (M.1.cls ≠ "java/lang/invoke/MethodHandle" ∧ M.1.cls ≠ "java/lang/invoke/VarHandle" ∧ (parseMethodDescriptor M.1.desc).map (fun d => d.parameters.length) = some n) ∧ M.2.2.1 ≤ 14
def se_ws (G : se_G) (M : se_M) : List Cond := Cond.code M.1 M.2.1 M.2.2.1 M.2.2.2.1 :: G.2.1
abbrev se_rm (d C S : Nat) : Room := { frames := d, cells := C, slots := S, locals := 33 * d + 41 }
def se_Pc (G : se_G) (D : va_G) (dA : FieldType → ClassId) (θ : Nat → Nat) (vs : List Value) (h : se_H) (sz : Nat) : Array Value → State → Prop :=
  va_Pc (vs.map (se_v θ)) (fun U => U.heap.size = sz ∧ va_P D G.1 (se_w dA θ h) U.heap ∧ va_K D G.1 (se_tys G dA) U ∧ va_D (fun _ => True) (se_w dA θ h) ∧ se_Z G (va_A (se_w dA θ h) sz) U)
theorem se_met {n : Nat} {vs : List Value} (hm : se_mok G M n) (hl : l.stackTraces = false) (hlen : (se_sl vs).length ≤ M.2.2.1) (hwv : ∀ v ∈ vs, se_wv h.length v) (hwh : se_wh h) (k : se_W G l d M 0 (se_ent M.2.2.1 vs) [] h C S Φ) (D : va_G) (dA : FieldType → ClassId) (θ : Nat → Nat) (sz : Nat) :
    vx_Met l M.1 (se_ws G M) (se_rm d C S) (se_Pc G D dA θ vs h sz) (se_Q G D dA (va_A (se_w dA θ h) sz) θ h.length Φ) (se_X G D dA (va_A (se_w dA θ h) sz) θ h.length Φ) C S (va_A (se_w dA θ h) sz) := by
  refine vx_ofW (cc := M.2.1) (maxL := M.2.2.1) (ret := M.2.2.2.1) hm.1 rfl ?_
  intro p e s m args below meth c s₁ B hml htab hv
  obtain ⟨rfl, hsz, hP, hK, hD0, hZ⟩ := hv
  subst hsz
  rw [lg_entry_eq]
  have htb : c.exceptionTable.toList = tableOf M.2.2.2.2 := by
    rw [hm.2.1]
    exact List.eq_nil_iff_forall_not_mem.mpr (fun x hx => htab x hx)
  exact k p e _ s m _ below meth c D dA (va_A (se_w dA θ h) s.heap.size) θ h.length C S θ s.heap [] 0 0 _
    ⟨B.exec, B.bytes, hml, B.returns, findClass_of_methodNamed B.named, fun w hw => atoms_spec (ws := se_ws G M) B.pre w (List.mem_cons_of_mem _ hw), B.notSynchronized, htb, hK, fun q hq => Or.inr hq, hZ, ⟨Nat.le_refl _, Nat.le_refl _⟩, (name_of_methodNamed B.named B.method).1, hl⟩
    ⟨hP, hD0.self, va_S.rf, hwh, fun v hv => (by cases hv), se_ent_L hlen, fun i v hv => hwv v (se_sl_mem (se_ent_at hv)), Nat.le_refl _, fun _ _ => rfl⟩ (by omega) (by omega) (Nat.le_refl _) (Nat.le_refl _)
theorem se_good (hok : se_ok G) {ws : List Cond} (hw : ∀ w ∈ ws, w ∈ G.2.1) : GoodIn G.2.1 ws := fun w h => ⟨hw w h, good_of_word (hok.1 w (hw w h))⟩
theorem se_ws_in {n : Nat} (hm : se_mok G M n) : ∀ w ∈ se_ws G M, w ∈ G.2.1 := fun w hw => (List.mem_cons.mp hw).elim (fun e => by rw [e]; exact hm.2.2.1) id
theorem se_sub {D : va_G} {dA : FieldType → ClassId} {A : Nat → Prop} {θ0 : Nat → Nat} {n0 : Nat} {θ : Nat → Nat} {s : State} {H : Heap} {locs : List Loc} {ls : Array Slot} (hA : ∀ q, s.heap.size ≤ q → A q) (hd : se_Dy G M D dA A θ0 n0 θ s h H locs L st ls) : ∀ q, va_A (se_w dA θ h) H.size q → A q := by
  intro q hq
  rcases hq with ⟨k, e, hk⟩ | hq
  · exact hd.2.1.2 k (q, e) hk
  · exact hA q (Nat.le_trans hd.2.2.1.1 hq)
theorem se_Z_at {D : va_G} {dA : FieldType → ClassId} {A : Nat → Prop} {θ0 : Nat → Nat} {n0 : Nat} {θ : Nat → Nat} {s U : State} {H : Heap} {locs : List Loc} {ls : Array Slot} (hok : se_ok G) (hA : ∀ q, s.heap.size ≤ q → A q) (hd : se_Dy G M D dA A θ0 n0 θ s h H locs L st ls) (hZ : se_Z G A s) (hU : U.heap = H) (hW : s.WarmedH U.vm) : se_Z G (va_A (se_w dA θ h) H.size) U := by
  obtain ⟨z1, z2, z3, z4, z5⟩ := hZ
  have hsub := se_sub hA hd
  refine ⟨?_, ?_, fun q hq => ?_, fun w hw => hok.2 w hw s U hW (z4 w hw), fun q hq => ⟨?_, fun z => (z5 q hq).2 (hsub _ z)⟩⟩
  · rw [hU]; exact (vx_Zq.moved hW.alike (z1.kept hd.2.2.1.2.1)).narrow hsub
  · rw [hU]; exact (vx_Zq.moved hW.alike (z2.kept hd.2.2.1.2.1)).narrow hsub
  · obtain ⟨a, ha⟩ := z3 q hq
    exact ⟨a, vk_R.warm hW ha⟩
  · obtain ⟨x1, x2⟩ := z5 q hq
    obtain ⟨scr, y1, -⟩ := id x1
    rw [hU]
    exact va_X.moved hW.alike (x1.kept (hd.2.2.1.2.1 q.1 (Array.getElem?_eq_some_iff.mp y1).1 x2))
theorem se_blind (hok : se_ok G) (D : va_G) (dA : FieldType → ClassId) (θ : Nat → Nat) (vs : List Value) (h : se_H) (sz : Nat) : FrameBlind (se_Pc G D dA θ vs h sz) := by
  intro a U g mk q
  obtain ⟨q0, q1, q2, q3, q4, z1, z2, z3, z4, z5⟩ := q
  refine ⟨q0, q1, q2, va_K.moved (u := U) (U := U.calling g mk a) (Vm.Alike.refl U.vm) q3, q4, vx_Zq.moved (u := U) (U := U.calling g mk a) (Vm.Alike.refl U.vm) z1, vx_Zq.moved (u := U) (U := U.calling g mk a) (Vm.Alike.refl U.vm) z2, fun q hq => ?_, fun w hw => hok.2 w hw U (U.calling g mk a) (State.WarmedH.refl U) (z4 w hw), fun q hq => ⟨va_X.moved (u := U) (U := U.calling g mk a) (Vm.Alike.refl U.vm) (z5 q hq).1, (z5 q hq).2⟩⟩
  obtain ⟨x, hx⟩ := z3 q hq
  exact ⟨x, vk_R.warm (s := U) (U := U.calling g mk a) (State.WarmedH.refl U) hx⟩
theorem se_pre {D : va_G} {dA : FieldType → ClassId} {A : Nat → Prop} {θ0 : Nat → Nat} {n0 : Nat} {θ : Nat → Nat} {p : Program} {R : Room} {s : State} {m : MethodId} {args : Array Value} {meth : Method} {c : Code} {H : Heap} {locs : List Loc} {ls : Array Slot} (hok : se_ok G) (hs : se_St G l d M p R s m args meth c D dA A) (hd : se_Dy G M D dA A θ0 n0 θ s h H locs L st ls) (vs : List Value) : PreS s H (se_Pc G D dA θ vs h H.size) (vs.map (se_v θ)) :=
  ⟨se_blind hok D dA θ vs h H.size, fun U hU hW => ⟨rfl, by rw [hU], by rw [hU]; exact hd.1, va_K.moved hW.alike hs.2.2.2.2.2.2.2.2.1, hd.2.1.weaken (fun _ _ _ _ => trivial), se_Z_at hok hs.2.2.2.2.2.2.2.2.2.1 hd hs.2.2.2.2.2.2.2.2.2.2.1 hU hW⟩⟩
/-- the room under a frame -/
theorem se_room {m : MethodId} {ls : Array Slot} {x : List Value} (θ : Nat → Nat) (h8 : (st.map fun v => v.category).sum ≤ 8) : 2 * (F0 m pc ls x).monitorRoom + ((st.map (se_v θ)).map fun v => v.category).sum ≤ 8 := by
  refine lv_room ?_
  rw [List.map_map, show ((fun v : Value => v.category) ∘ se_v θ) = (fun v : Value => v.category) from funext (se_cat θ)]
  exact h8
/-- behind a call that comes back, or whose throw nobody here catches -/
theorem se_after {D : va_G} {dA : FieldType → ClassId} {A : Nat → Prop} {θ0 : Nat → Nat} {n0 : Nat} {θ : Nat → Nat} {p : Program} {e : Env} {R : Room} {s : State} {m : MethodId} {args : Array Value} {below : List Frame} {meth : Method} {c : Code} {H : Heap} {locs : List Loc} {ls : Array Slot} {cells slots mc ms C1 S1 C2 S2 : Nat} {st0 : List Value} {a : Array Value} {Ψ : se_O → se_H → Prop}
    (hr : vx_Run p l e R s m args below meth c H locs cells slots C1 S1 (F0 m pc ls st0) (st.map (se_v θ)) (se_Q G D dA (va_A (se_w dA θ h) H.size) θ h.length Ψ a) (se_X G D dA (va_A (se_w dA θ h) H.size) θ h.length Ψ) (va_A (se_w dA θ h) H.size))
    (hs : se_St G l d M p R s m args meth c D dA A) (hd : se_Dy G M D dA A θ0 n0 θ s h H locs L st ls) (h1 : cells + C ≤ mc) (h2 : slots + S ≤ ms) (h3 : mc ≤ R.cells) (h4 : ms ≤ R.slots) (hC : C1 + C2 ≤ C) (hS : S1 + S2 ≤ S)
    (kr : ∀ v h', h.length ≤ h'.length → Ψ (.inl v) h' → se_W G l d M (pc + 3) L (v.toList ++ st) h' C2 S2 Φ)
    (kx : ∀ E h' q ce (θ' : Nat → Nat) (H' : Heap) (locs' : List Loc), h.length ≤ h'.length → Ψ (.inr E) h' → se_Dy G M D dA A θ0 n0 θ' s h' H' locs' L st ls → (∀ k, k < h.length → θ' k = θ k) → H'[q]? = some ce → ce.vm = .none → s.vm.findClass E = some ce.cls → vx_W p l e R s m args below meth c H' locs' (cells + C1) (slots + S1) (vx_MQ below (se_Q G D dA A θ0 n0 Φ) (se_X G D dA A θ0 n0 Φ) args s mc ms A) (F0 m pc ls (st.map (se_v θ))) q) :
    W p l e R s m args below meth c H locs cells slots (vx_MQ below (se_Q G D dA A θ0 n0 Φ) (se_X G D dA A θ0 n0 Φ) args s mc ms A) (F0 m pc ls st0) := by
  have hsub := se_sub hs.2.2.2.2.2.2.2.2.2.1 hd
  have hdd := hd
  obtain ⟨a1, a2, a3, a4, a5, a6, a7, a8, a9⟩ := hd
  intro T hT X
  rcases hr T hT X with ⟨v0, st₀, t, T', L', g0, X', hL, e1, e2, ⟨⟨v, h', θ', b1, b2, b3, b4, b5, b6, b7, b8⟩, hF⟩, go⟩ | ⟨q, st₀, t, T', L', E, ce, g0, X', hL, e1, e2, ⟨⟨h', θ', b1, b4, b5, b6, b7, b8⟩, hF⟩, hce, hcv, hcl, go⟩
  · cases b2
    obtain ⟨k1, k2, k3⟩ := vx_keep g0 e1 a3 (fun q _ hq => hsub q hq) hsub hL hF
    have hdy : se_Dy G M D dA A θ0 n0 θ' s h' T'.heap (locs ++ L') L (v.toList ++ st) ls := by
      refine ⟨by rw [e1]; exact b4, b5.weaken (fun _ _ _ hq => hsub _ hq), k3, b6, fun w hw => ?_, se_L_congr a6 a7 b8, fun i w hw => se_wv_mono (a7 i w hw) b7, Nat.le_trans a8 b7, fun k hk => by rw [b8 k (Nat.lt_of_lt_of_le hk a8)]; exact a9 k hk⟩
      rcases List.mem_append.mp hw with hw | hw
      · cases v with
        | none => cases hw
        | some x =>
          rw [List.mem_singleton.mp hw]
          exact b3 x rfl
      · exact se_wv_mono (a5 w hw) b7
    obtain ⟨t2, z1, z2⟩ := kr v h' b7 b1 p e R s m args below meth c D dA A θ0 n0 mc ms θ' T'.heap (locs ++ L') (cells + C1) (slots + S1) ls hs hdy (by omega) (by omega) h3 h4 T' rfl X'
    refine ⟨t2, go t2 ?_, z2⟩
    have e9 : (v.toList ++ st).map (se_v θ') = (v.map (se_v θ')).toList ++ st.map (se_v θ) := by
      rw [List.map_append, se_vs_congr a5 b8]
      cases v <;> rfl
    rw [e9] at z1
    exact z1
  · obtain ⟨k1, k2, k3⟩ := vx_keep g0 e1 a3 (fun q _ hq => hsub q hq) hsub hL hF
    have hdy : se_Dy G M D dA A θ0 n0 θ' s h' T'.heap (locs ++ L') L st ls :=
      ⟨by rw [e1]; exact b4, b5.weaken (fun _ _ _ hq => hsub _ hq), k3, b6, fun w hw => se_wv_mono (a5 w hw) b7, se_L_congr a6 a7 b8, fun i w hw => se_wv_mono (a7 i w hw) b7, Nat.le_trans a8 b7, fun k hk => by rw [b8 k (Nat.lt_of_lt_of_le hk a8)]; exact a9 k hk⟩
    obtain ⟨t2, z1, z2⟩ := kx E h' q ce θ' T'.heap (locs ++ L') b7 b1 hdy b8 (by rw [e1]; exact hce) hcv hcl T' rfl X'
    exact ⟨t2, go.trans z1, z2⟩
/-- nobody catches here -/
theorem se_outX {D : va_G} {dA : FieldType → ClassId} {A : Nat → Prop} {θ0 : Nat → Nat} {n0 : Nat} {θ : Nat → Nat} {p : Program} {e : Env} {R : Room} {s : State} {m : MethodId} {args : Array Value} {below : List Frame} {meth : Method} {c : Code} {H : Heap} {locs : List Loc} {ls : Array Slot} {cells slots mc ms : Nat} {rest : List Value} {E : String} {ce : Cell} {q : Addr}
    (hs : se_St G l d M p R s m args meth c D dA A) (hd : se_Dy G M D dA A θ0 n0 θ s h H locs L st ls) (hh : ∀ x ∈ M.2.2.2.2, ¬ (x.1 ≤ pc ∧ pc < x.2.1)) (hc : cells ≤ mc) (hS : slots ≤ ms) (hce : H[q]? = some ce) (hcv : ce.vm = .none) (hcl : s.vm.findClass E = some ce.cls) (hΦ : Φ (.inr E) h) :
    vx_W p l e R s m args below meth c H locs cells slots (vx_MQ below (se_Q G D dA A θ0 n0 Φ) (se_X G D dA A θ0 n0 Φ) args s mc ms A) (F0 m pc ls rest) q := by
  refine vx_out (E := E) (ce := ce) (fun x hx => ?_) hs.2.2.2.2.2.2.1 hce hcv hcl (fun t ht _ => ⟨⟨h, θ, hΦ, by rw [ht]; exact hd.1, hd.2.1, hd.2.2.2.1, hd.2.2.2.2.2.2.2⟩, hd.2.2.1.F ht⟩) hd.2.2.1.2.2 hc hS
  rw [hs.2.2.2.2.2.2.2.1] at hx
  obtain ⟨y, hy, rfl⟩ := List.mem_map.mp hx
  have := hh y hy
  simp only [covers]
  simpa using this
theorem se_invV {M' : se_M} {T : u_T} {n N ci index a : Nat} {fs as : List Value} {Ψ : se_O → se_H → Prop} {C1 S1 C2 S2 : Nat} (hok : se_ok G) (hm : se_mok G M' n) (hg : decode M.2.1 pc = .ok (.invokevirtual index, 3)) (hw : Cond.methodLink M.1.cls index M'.1 ∈ G.2.1 ∧ Cond.instanceMethod M'.1 ∈ G.2.1 ∧ Cond.selects M'.1.cls M'.1 M'.1 ∈ G.2.1 ∧ Cond.initialized M'.1.cls ∈ G.2.1) (hci : G.1[ci]? = some (M'.1.cls, T, N)) (ha : h[a]? = some (.inr (ci, fs))) (hn : as.length = n) (hln : (se_sl (.ref a :: as)).length ≤ M'.2.2.1) (h8 : (st.map fun v => v.category).sum ≤ 8)
    (callee : se_W G l d M' 0 (se_ent M'.2.2.1 (.ref a :: as)) [] h C1 S1 Ψ) (hC : C1 + C2 ≤ C) (hS : S1 + S2 ≤ S)
    (kr : ∀ v h', h.length ≤ h'.length → Ψ (.inl v) h' → se_W G l (d + 1) M (pc + 3) L (v.toList ++ st) h' C2 S2 Φ)
    (hh : ∀ x ∈ M.2.2.2.2, ¬ (x.1 ≤ pc ∧ pc < x.2.1)) (kx : ∀ E h', h.length ≤ h'.length → Ψ (.inr E) h' → Φ (.inr E) h') : se_W G l (d + 1) M pc L (as.reverse ++ .ref a :: st) h C S Φ := by
  intro p e R s m args below meth c D dA A θ0 n0 mc ms θ H locs cells slots ls hs hd h1 h2 h3 h4
  have hst : ∀ v ∈ st, se_wv h.length v := fun v hv => hd.wst v (List.mem_append_right _ (List.mem_cons_of_mem _ hv))
  have hvs : ∀ v ∈ Value.ref a :: as, se_wv h.length v := se_push (hd.wst _ (List.mem_append_right _ List.mem_cons_self)) (fun v hv => hd.wst v (List.mem_append_left _ (List.mem_reverse.mpr hv)))
  have hM := se_met hm hs.2.2.2.2.2.2.2.2.2.2.2.2.2 hln hvs hd.2.2.2.1 callee D dA θ H.size
  have hp := se_pre hok hs hd (.ref a :: as)
  have hgi : GoodIn G.2.1 (wsV M.1.cls index M'.1.cls M'.1 (se_ws G M')) := se_good hok (fun w hw' => by
    rcases List.mem_append.mp hw' with q | q
    · simp only [List.mem_cons, List.not_mem_nil, or_false] at q
      rcases q with rfl | rfl | rfl | rfl
      · exact hw.1
      · exact hw.2.1
      · exact hw.2.2.1
      · exact hw.2.2.2
    · exact se_ws_in hm w q)
  have hrec : ∃ cell : Cell, H[θ a]? = some cell ∧ cell.vm.isStatics = false ∧ s.vm.findClass M'.1.cls = some cell.cls := va_recv hs.2.2.2.2.2.2.2.2.1 hd.1 hci (se_w_at ha)
  have hfr := hs.2.2.2.2.2.2.2.2.2.2.2.1
  have hm5 := hm.2.2.2.2
  have hrun := vx_runV (p := p) (l := l) (e := e) (R := R) (s := s) (m := m) (args := args) (below := below) (meth := meth) (c := c) (H := H) (locs := locs) (cells := cells) (slots := slots) (As := as.map (se_v θ)) (rest := st.map (se_v θ)) (b := θ a) (g := F0 m pc ls ((as.reverse ++ .ref a :: st).map (se_v θ))) (nL := M.2.2.1) (Ts := G.2.1) ⟨hs.1, hs.2.1, hs.2.2.1, hs.2.2.2.2.1, hs.2.2.2.2.2.1⟩ hM
    (cwV n hs.2.2.2.2.2.1 hgi rfl rfl rfl ⟨rfl, hm.2.2.2.1⟩ ⟨by show d + 1 ≤ R.frames; omega, by show 8 + (M'.2.2.1 + 11) + (33 * d + 41) ≤ R.locals; omega⟩) ⟨hp.1, hrec, hp.2⟩ rfl (by rw [List.length_map]; exact hn) hd.2.2.2.2.2.1.1 (by rw [List.map_append, List.map_reverse]; rfl) (se_room θ h8) hg ⟨by omega, by omega⟩
  refine se_after hrun hs (hd.stk hst) h1 h2 h3 h4 hC hS kr (fun E h' q ce θ' H' locs' hle hΨ hd' hθ hce hcv hcl => ?_)
  exact se_outX hs hd' hh (by omega) (by omega) hce hcv hcl (kx E h' hle hΨ)
theorem se_invS {M' : se_M} {n index : Nat} {as : List Value} {Ψ : se_O → se_H → Prop} {C1 S1 C2 S2 : Nat} (hok : se_ok G) (hm : se_mok G M' n) (hg : decode M.2.1 pc = .ok (.invokestatic index, 3)) (hw : Cond.methodLink M.1.cls index M'.1 ∈ G.2.1 ∧ Cond.static M'.1 ∈ G.2.1 ∧ Cond.initialized M'.1.cls ∈ G.2.1) (hn : as.length = n) (hln : (se_sl as).length ≤ M'.2.2.1) (h8 : (st.map fun v => v.category).sum ≤ 8)
    (callee : se_W G l d M' 0 (se_ent M'.2.2.1 as) [] h C1 S1 Ψ) (hC : C1 + C2 ≤ C) (hS : S1 + S2 ≤ S)
    (kr : ∀ v h', h.length ≤ h'.length → Ψ (.inl v) h' → se_W G l (d + 1) M (pc + 3) L (v.toList ++ st) h' C2 S2 Φ)
    (hh : ∀ x ∈ M.2.2.2.2, ¬ (x.1 ≤ pc ∧ pc < x.2.1)) (kx : ∀ E h', h.length ≤ h'.length → Ψ (.inr E) h' → Φ (.inr E) h') : se_W G l (d + 1) M pc L (as.reverse ++ st) h C S Φ := by
  intro p e R s m args below meth c D dA A θ0 n0 mc ms θ H locs cells slots ls hs hd h1 h2 h3 h4
  have hst : ∀ v ∈ st, se_wv h.length v := fun v hv => hd.wst v (List.mem_append_right _ hv)
  have hvs : ∀ v ∈ as, se_wv h.length v := fun v hv => hd.wst v (List.mem_append_left _ (List.mem_reverse.mpr hv))
  have hM := se_met hm hs.2.2.2.2.2.2.2.2.2.2.2.2.2 hln hvs hd.2.2.2.1 callee D dA θ H.size
  have hp := se_pre hok hs hd as
  have hgi : GoodIn G.2.1 (va_wsS M.1.cls index M'.1 (se_ws G M')) := se_good hok (fun w hw' => by
    rcases List.mem_append.mp hw' with q | q
    · simp only [List.mem_cons, List.not_mem_nil, or_false] at q
      rcases q with rfl | rfl | rfl
      · exact hw.1
      · exact hw.2.1
      · exact hw.2.2
    · exact se_ws_in hm w q)
  have hfr := hs.2.2.2.2.2.2.2.2.2.2.2.1
  have hm5 := hm.2.2.2.2
  have hrun := vx_runS (p := p) (l := l) (e := e) (R := R) (s := s) (m := m) (args := args) (below := below) (meth := meth) (c := c) (H := H) (locs := locs) (cells := cells) (slots := slots) (As := as.map (se_v θ)) (rest := st.map (se_v θ)) (g := F0 m pc ls ((as.reverse ++ st).map (se_v θ))) (nL := M.2.2.1) (Ts := G.2.1) ⟨hs.1, hs.2.1, hs.2.2.1, hs.2.2.2.2.1, hs.2.2.2.2.2.1⟩ hM
    (va_cwS n hs.2.2.2.2.2.1 hgi rfl rfl rfl hm.2.2.2.1 ⟨by show d + 1 ≤ R.frames; omega, by show 8 + (M'.2.2.1 + 11) + (33 * d + 41) ≤ R.locals; omega⟩) hp rfl (by rw [List.length_map]; exact hn) hd.2.2.2.2.2.1.1 (by rw [List.map_append, List.map_reverse]) (se_room θ h8) hg ⟨by omega, by omega⟩
  refine se_after hrun hs (hd.stk hst) h1 h2 h3 h4 hC hS kr (fun E h' q ce θ' H' locs' hle hΨ hd' hθ hce hcv hcl => ?_)
  exact se_outX hs hd' hh (by omega) (by omega) hce hcv hcl (kx E h' hle hΨ)
/-- a contract without a throw -/
theorem se_metN {y : MethodName} {ws : List Cond} {rm : Room} {Pc : Array Value → State → Prop} {Qc : Array Value → State → Outcome → State → Prop} {XC : String → State → State → Prop} {mc ms : Nat} {free : Addr → Prop} (hM : vx_Met l y ws rm Pc Qc XC mc ms free) (hX : ∀ E s t, ¬ XC E s t) : Met l y ws rm Pc Qc mc ms free := by
  intro p e a1 a2 a3 s m args below a4 a5 a6 a7
  obtain ⟨n, o, b1, b2, b3, b4⟩ := hM p e a1 a2 a3 s m args below a4 a5 a6 a7
  refine ⟨n, o, b1, b2, b3, ?_⟩
  rcases b4 with b4 | ⟨q, b4, E, ce, L', hx, -⟩
  · exact b4
  · exact absurd hx (hX _ _ _)
/-- behind a call that comes back -/
theorem se_afterN {D : va_G} {dA : FieldType → ClassId} {A : Nat → Prop} {θ0 : Nat → Nat} {n0 : Nat} {θ : Nat → Nat} {p : Program} {e : Env} {R : Room} {s : State} {m : MethodId} {args : Array Value} {below : List Frame} {meth : Method} {c : Code} {H : Heap} {locs : List Loc} {ls : Array Slot} {cells slots mc ms C1 S1 C2 S2 : Nat} {st0 : List Value} {a : Array Value} {Ψ : se_O → se_H → Prop}
    (hr : va_Run p l e R s m args below meth c H locs cells slots C1 S1 (F0 m pc ls st0) (st.map (se_v θ)) (se_Q G D dA (va_A (se_w dA θ h) H.size) θ h.length Ψ a) (va_A (se_w dA θ h) H.size))
    (hs : se_St G l d M p R s m args meth c D dA A) (hd : se_Dy G M D dA A θ0 n0 θ s h H locs L st ls) (h1 : cells + C ≤ mc) (h2 : slots + S ≤ ms) (h3 : mc ≤ R.cells) (h4 : ms ≤ R.slots) (hC : C1 + C2 ≤ C) (hS : S1 + S2 ≤ S)
    (kr : ∀ v h', h.length ≤ h'.length → Ψ (.inl v) h' → se_W G l d M (pc + 3) L (v.toList ++ st) h' C2 S2 Φ) :
    W p l e R s m args below meth c H locs cells slots (vx_MQ below (se_Q G D dA A θ0 n0 Φ) (se_X G D dA A θ0 n0 Φ) args s mc ms A) (F0 m pc ls st0) := by
  refine se_after (Ψ := fun o h => Ψ o h ∧ ∃ v, o = .inl v) (a := a) (fun T hT X => ?_) hs hd h1 h2 h3 h4 hC hS (fun v h' hle hv => kr v h' hle hv.1) (fun E h' q ce θ' H' locs' hle hΨ => absurd hΨ.2 (fun z => by obtain ⟨v, hv⟩ := z; cases hv))
  obtain ⟨v, st₀, t, T', L', g0, X', hL, e1, e2, ⟨⟨v', h', θ', b1, b2⟩, hF⟩, go⟩ := hr T hT X
  exact Or.inl ⟨v, st₀, t, T', L', g0, X', hL, e1, e2, ⟨⟨v', h', θ', ⟨b1, v', rfl⟩, b2⟩, hF⟩, go⟩
theorem se_invI {M' : se_M} {n index a : Nat} {as : List Value} {Ψ : se_O → se_H → Prop} {C1 S1 C2 S2 : Nat} (hok : se_ok G) (hm : se_mok G M' n) (hg : decode M.2.1 pc = .ok (.invokespecial index, 3)) (hM1 : M'.1.name = "<init>" ∧ M'.2.2.2.1 = none) (hw : Cond.methodLink M.1.cls index M'.1 ∈ G.2.1 ∧ Cond.instanceMethod M'.1 ∈ G.2.1 ∧ Cond.initialized M'.1.cls ∈ G.2.1) (hn : as.length = n) (hln : (se_sl (.ref a :: as)).length ≤ M'.2.2.1) (h8 : (st.map fun v => v.category).sum ≤ 8)
    (callee : se_W G l d M' 0 (se_ent M'.2.2.1 (.ref a :: as)) [] h C1 S1 Ψ) (hno : ∀ E h', ¬ Ψ (.inr E) h') (hC : C1 + C2 ≤ C) (hS : S1 + S2 ≤ S)
    (kr : ∀ v h', h.length ≤ h'.length → Ψ (.inl v) h' → se_W G l (d + 1) M (pc + 3) L (v.toList ++ st) h' C2 S2 Φ) : se_W G l (d + 1) M pc L (as.reverse ++ .ref a :: st) h C S Φ := by
  intro p e R s m args below meth c D dA A θ0 n0 mc ms θ H locs cells slots ls hs hd h1 h2 h3 h4
  have hst : ∀ v ∈ st, se_wv h.length v := fun v hv => hd.wst v (List.mem_append_right _ (List.mem_cons_of_mem _ hv))
  have hvs : ∀ v ∈ Value.ref a :: as, se_wv h.length v := se_push (hd.wst _ (List.mem_append_right _ List.mem_cons_self)) (fun v hv => hd.wst v (List.mem_append_left _ (List.mem_reverse.mpr hv)))
  have hM := se_metN (se_met hm hs.2.2.2.2.2.2.2.2.2.2.2.2.2 hln hvs hd.2.2.2.1 callee D dA θ H.size) (fun E s t q => by obtain ⟨⟨h', _, q1, -⟩, -⟩ := q; exact hno E h' q1)
  have hp := se_pre hok hs hd (.ref a :: as)
  have hfr := hs.2.2.2.2.2.2.2.2.2.2.2.1
  have hm5 := hm.2.2.2.2
  have hws : se_ws G M' = Cond.code M'.1 M'.2.1 M'.2.2.1 none :: G.2.1 := by show Cond.code M'.1 M'.2.1 M'.2.2.1 M'.2.2.2.1 :: G.2.1 = _; rw [hM1.2]
  have hrun := va_runI (p := p) (l := l) (e := e) (R := R) (s := s) (m := m) (args := args) (below := below) (meth := meth) (c := c) (H := H) (locs := locs) (cells := cells) (slots := slots) (As := as.map (se_v θ)) (rest := st.map (se_v θ)) (b := θ a) (g := F0 m pc ls ((as.reverse ++ .ref a :: st).map (se_v θ))) (nL := M.2.2.1) (Ts := G.2.1) ⟨hs.1, hs.2.1, hs.2.2.1, hs.2.2.2.2.1, hs.2.2.2.2.2.1⟩ hM
    (cwI n hs.2.2.2.2.2.1 (se_good hok (se_ws_in hm)) hws rfl rfl (hs.2.2.2.2.2.1 _ hw.2.2) (hs.2.2.2.2.2.1 _ hw.1) (hs.2.2.2.2.2.1 _ hw.2.1) hM1.1 hm.2.2.2.1 ⟨by show d + 1 ≤ R.frames; omega, by show 8 + (M'.2.2.1 + 11) + (33 * d + 41) ≤ R.locals; omega⟩) hp rfl (by rw [List.length_map]; exact hn) hd.2.2.2.2.2.1.1 (by rw [List.map_append, List.map_reverse]; rfl) (se_room θ h8) hg ⟨by omega, by omega⟩
  exact se_afterN hrun hs (hd.stk hst) h1 h2 h3 h4 hC hS kr
theorem se_invIN {M' : se_M} {n index a : Nat} {host : String} {as : List Value} {Ψ : se_O → se_H → Prop} {C1 S1 C2 S2 : Nat} (hok : se_ok G) (hm : se_mok G M' n) (hg : decode M.2.1 pc = .ok (.invokespecial index, 3)) (hM1 : M'.1.name = "<init>" ∧ M'.2.2.2.1 = none) (hw : Cond.methodLinkNest M.1.cls index M'.1 host ∈ G.2.2.2.2.1 ∧ Cond.instanceMethod M'.1 ∈ G.2.1 ∧ Cond.initialized M'.1.cls ∈ G.2.1) (hn : as.length = n) (hln : (se_sl (.ref a :: as)).length ≤ M'.2.2.1) (h8 : (st.map fun v => v.category).sum ≤ 8)
    (callee : se_W G l d M' 0 (se_ent M'.2.2.1 (.ref a :: as)) [] h C1 S1 Ψ) (hno : ∀ E h', ¬ Ψ (.inr E) h') (hC : C1 + C2 ≤ C) (hS : S1 + S2 ≤ S)
    (kr : ∀ v h', h.length ≤ h'.length → Ψ (.inl v) h' → se_W G l (d + 1) M (pc + 3) L (v.toList ++ st) h' C2 S2 Φ) : se_W G l (d + 1) M pc L (as.reverse ++ .ref a :: st) h C S Φ := by
  intro p e R s m args below meth c D dA A θ0 n0 mc ms θ H locs cells slots ls hs hd h1 h2 h3 h4
  have hst : ∀ v ∈ st, se_wv h.length v := fun v hv => hd.wst v (List.mem_append_right _ (List.mem_cons_of_mem _ hv))
  have hvs : ∀ v ∈ Value.ref a :: as, se_wv h.length v := se_push (hd.wst _ (List.mem_append_right _ List.mem_cons_self)) (fun v hv => hd.wst v (List.mem_append_left _ (List.mem_reverse.mpr hv)))
  have hM := se_metN (se_met hm hs.2.2.2.2.2.2.2.2.2.2.2.2.2 hln hvs hd.2.2.2.1 callee D dA θ H.size) (fun E s t q => by obtain ⟨⟨h', _, q1, -⟩, -⟩ := q; exact hno E h' q1)
  have hp := se_pre hok hs hd (.ref a :: as)
  have hfr := hs.2.2.2.2.2.2.2.2.2.2.2.1
  have hm5 := hm.2.2.2.2
  have hws : se_ws G M' = Cond.code M'.1 M'.2.1 M'.2.2.1 none :: G.2.1 := by show Cond.code M'.1 M'.2.1 M'.2.2.1 M'.2.2.2.1 :: G.2.1 = _; rw [hM1.2]
  have hrun := va_runIN (p := p) (l := l) (e := e) (R := R) (s := s) (m := m) (args := args) (below := below) (meth := meth) (c := c) (H := H) (locs := locs) (cells := cells) (slots := slots) (As := as.map (se_v θ)) (rest := st.map (se_v θ)) (b := θ a) (g := F0 m pc ls ((as.reverse ++ .ref a :: st).map (se_v θ))) (nL := M.2.2.1) (Ts := G.2.1) ⟨hs.1, hs.2.1, hs.2.2.1, hs.2.2.2.2.1, hs.2.2.2.2.2.1⟩ hM
    ⟨va_cnB n hs.2.2.2.2.2.1 (se_good hok (se_ws_in hm)) hws rfl rfl (hs.2.2.2.2.2.2.2.2.2.2.1.2.2.2.1 _ hw.1) (hs.2.2.2.2.2.1 _ hw.2.2) hm.2.2.2.1 ⟨by show d + 1 ≤ R.frames; omega, by show 8 + (M'.2.2.1 + 11) + (33 * d + 41) ≤ R.locals; omega⟩, hM1.1, hs.2.2.2.2.2.1 _ hw.2.1⟩ hp rfl (by rw [List.length_map]; exact hn) hd.2.2.2.2.2.1.1 (by rw [List.map_append, List.map_reverse]; rfl) (se_room θ h8) hg ⟨by omega, by omega⟩
  exact se_afterN hrun hs (hd.stk hst) h1 h2 h3 h4 hC hS kr
theorem se_objInit {idx a : Nat} (hd1 : 1 ≤ d) (hg : decode M.2.1 pc = .ok (.invokespecial idx, 3)) (hw : Cond.methodLink M.1.cls idx Lib.objectInit ∈ G.2.1 ∧ Cond.instanceMethod Lib.objectInit ∈ G.2.1 ∧ Cond.code Lib.objectInit ⟨#[0xb1]⟩ 1 none ∈ G.2.1) (h8 : (st.map fun v => v.category).sum ≤ 8) (k : se_W G l d M (pc + 3) L st h C S Φ) : se_W G l d M pc L (.ref a :: st) h C S Φ := by
  intro p e R s m args below meth c D dA A θ0 n0 mc ms θ H locs cells slots ls hs hd h1 h2 h3 h4
  have hfr := hs.2.2.2.2.2.2.2.2.2.2.2.1
  have h9 := se_room (m := m) (pc := pc) (ls := ls) (x := (Value.ref a :: st).map (se_v θ)) θ h8
  refine W.objInit hs.1 hs.2.1 hs.2.2.2.2.1 (hs.2.2.2.2.2.1 _ hw.1) (hs.2.2.2.2.2.1 _ hw.2.1) (hs.2.2.2.2.2.1 _ hw.2.2) (g := F0 m pc ls ((Value.ref a :: st).map (se_v θ))) rfl (hd.2.2.2.2.2.1.1.trans hs.2.2.1.symm) (a := θ a) (rest := st.map (se_v θ)) rfl hg (by omega) (by omega) ?_
  exact k p e R s m args below meth c D dA A θ0 n0 mc ms θ H locs cells slots ls hs (hd.stk (se_pop hd.wst)) h1 h2 h3 h4
theorem se_maxL {index : Nat} {x y : Int64} (hd1 : 1 ≤ d) (hg : decode M.2.1 pc = .ok (.invokestatic index, 3)) (hw : Cond.methodLink M.1.cls index Lib.MathLoose.max_long.x ∈ G.2.1 ∧ Cond.static Lib.MathLoose.max_long.x ∈ G.2.1 ∧ Cond.initialized "java/lang/Math" ∈ G.2.1 ∧ Cond.code Lib.MathLoose.max_long.x Lib.MathLoose.max_long.code 4 (some .long) ∈ G.2.1) (h8 : (st.map fun v => v.category).sum ≤ 8) (k : se_W G l d M (pc + 3) L (.long (if y < x then x else y) :: st) h C S Φ) : se_W G l d M pc L (.long y :: .long x :: st) h C S Φ := by
  intro p e R s m args below meth c D dA A θ0 n0 mc ms θ H locs cells slots ls hs hd h1 h2 h3 h4
  have hfr := hs.2.2.2.2.2.2.2.2.2.2.2.1
  have h9 := se_room (m := m) (pc := pc) (ls := ls) (x := []) θ h8
  refine va_mmax_long hs.1 hs.2.1 (hs.2.2.1.trans hd.2.2.2.2.2.1.1.symm) hs.2.2.2.2.1 (hs.2.2.2.2.2.1 _ hw.1) (hs.2.2.2.2.2.1 _ hw.2.1) (hs.2.2.2.2.2.1 _ hw.2.2.1) (hs.2.2.2.2.2.1 _ hw.2.2.2) (by omega) (by omega) (by omega) (by omega) hg ?_
  exact k p e R s m args below meth c D dA A θ0 n0 mc ms θ H locs cells slots ls hs (hd.stk (se_push (se_j _ _) (se_pop (se_pop hd.wst)))) h1 h2 h3 h4
/-- throw new E("text") -/
theorem se_throwS {cls text : String} {names : List String} {ik is ic : Nat} (hok : se_ok G) (d0 : decode M.2.1 pc = .ok (.new ik, 3)) (d3 : decode M.2.1 (pc + 3) = .ok (.dup, 1)) (d4 : decode M.2.1 (pc + 4) = .ok (.ldc is, 2)) (d6 : decode M.2.1 (pc + 6) = .ok (.invokespecial ic, 3)) (d9 : decode M.2.1 (pc + 9) = .ok (.athrow, 1))
    (hcls : Bundle.fit cls = true) (hnames : ∀ n ∈ names, Bundle.fit n = true) (hk : Cond.classLink M.1.cls ik cls ∈ G.2.1) (hini : Cond.initialized cls ∈ G.2.1) (hstr : (M.1.cls, is, text) ∈ G.2.2.2.1) (hat : ∀ w ∈ vx_atS M.1.cls ic cls names, w ∈ G.2.1 ∨ (w ∈ G.2.2.2.2.1 ∧ w.onTables = true)) (hnl : names.length + 4 ≤ d ∧ names.length ≤ 4) (h8 : (st.map fun v => v.category).sum ≤ 8) (hh : M.2.2.2.2 = []) (hC : 1 ≤ C) (hS : 6 ≤ S) (hΦ : Φ (.inr cls) h) : se_W G l d M pc L st h C S Φ := by
  intro p e R s m args below meth c D dA A θ0 n0 mc ms θ H locs cells slots ls hs hd h1 h2 h3 h4
  have hfr := hs.2.2.2.2.2.2.2.2.2.2.2.1
  have h9 := se_room (m := m) (pc := pc) (ls := ls) (x := []) θ h8
  have hts := hs.2.2.2.2.2.1
  have hZ := hs.2.2.2.2.2.2.2.2.2.2.1
  obtain ⟨sa, hsa⟩ := hZ.2.2.1 _ hstr
  refine vx_throwS (cls := cls) (text := text) (names := names) (ik := ik) (is := is) (ic := ic) (sa := sa) (A := A) hs.1 hs.2.1 hs.2.2.2.2.2.2.2.2.2.2.2.2.2 hs.2.2.2.2.1 hcls hnames (hts _ hk) (hts _ hini) hsa (fun w hw => ?_) (fun w hw => ?_) hZ.1 hZ.2.1 hd.2.2.1 (hd.2.2.2.2.2.1.1.trans hs.2.2.1.symm) d0 d3 d4 d6 d9 (fun x hx => ?_) (by omega) (by omega) (by omega) (by omega) hs.2.2.2.2.2.2.1 (fun t hal hsz hkeep => ?_) hd.2.2.1.2.2 (by omega) (by omega)
  · rcases hat w hw with q | q
    · exact hts w q
    · exact va_Nw.use q.2 (hZ.2.2.2.1 w q.1)
  · have hgw : ∀ w, w ∈ G.2.1 → vx_ot w = true := fun w q => by simp only [vx_ot, hok.1 w q, Bool.or_true]
    rcases List.mem_cons.mp hw with rfl | hw
    · exact hgw _ hk
    · rcases List.mem_cons.mp hw with rfl | hw
      · exact hgw _ hini
      · rcases hat w hw with q | q
        · exact hgw w q
        · simp only [vx_ot, q.2, Bool.true_or]
  · rw [hs.2.2.2.2.2.2.2.1, hh] at hx
    cases hx
  · refine ⟨⟨h, θ, hΦ, hd.1.kept (fun k q hq => hkeep q.1 (hd.1 k q hq).lt), hd.2.1, hd.2.2.2.1, hd.2.2.2.2.2.2.2⟩, Nat.le_trans hd.2.2.1.1 hsz, fun q q1 q2 => ?_⟩
    rw [hkeep q (Nat.lt_of_lt_of_le q1 hd.2.2.1.1)]
    exact hd.2.2.1.2.1 q q1 q2
end SE2
end
section
section SE3
variable {G : se_G} {l : Launch} {d : Nat} {M : se_M} {pc : Nat} {L : List (Option Value)} {st : List Value} {h : se_H} {C S : Nat} {Φ : se_O → se_H → Prop}
theorem se_q (n a : Nat) : se_wv n (.retAddr a) := fun k hk => by cases hk
theorem se_aload_nR {i : Fin 4} {x : Nat} (hl : L[(i : Nat)]? = some (some (.retAddr x))) (hg : decode M.2.1 pc = .ok (.aload_n i, 1)) (k : se_W G l d M (pc + 1) L (.retAddr x :: st) h C S Φ) : se_W G l d M pc L st h C S Φ := by
  intro p e R s m args below meth c D dA A θ0 n0 mc ms θ H locs cells slots ls hs hd h1 h2 h3 h4
  exact lv_aload_n hs.1 hs.2.1 hg rfl (hd.2.2.2.2.2.1.2.2.2 _ _ hl) (k p e R s m args below meth c D dA A θ0 n0 mc ms θ H locs cells slots ls hs (hd.stk (se_push (se_q _ _) hd.wst)) h1 h2 h3 h4)
theorem se_astore_nR {i : Fin 4} {x : Nat} (hg : decode M.2.1 pc = .ok (.astore_n i, 1)) (hi : (i : Nat) < M.2.2.1) (L' : List (Option Value)) (hL : se_s1 L (i : Nat) (.retAddr x) = L') (k : se_W G l d M (pc + 1) L' st h C S Φ) : se_W G l d M pc L (.retAddr x :: st) h C S Φ := by
  subst hL
  intro p e R s m args below meth c D dA A θ0 n0 mc ms θ H locs cells slots ls hs hd h1 h2 h3 h4 T hT X
  obtain ⟨ls', e', g'⟩ := se_store1 (v := .retAddr x) hd.2.2.2.2.2.1 hi rfl
  obtain ⟨t, a, b⟩ := k p e R s m args below meth c D dA A θ0 n0 mc ms θ H locs cells slots ls' hs (hd.loc g' (se_wL_s1 hd.2.2.2.2.2.2.1 (se_q _ _)) (se_pop hd.wst)) h1 h2 h3 h4 T hT X
  refine ⟨t, ?_, b⟩
  have hexec := hs.1
  have hb := hs.2.1
  simp only [List.map_cons, se_v] at e' ⊢
  jvm_step X.here [X.here.top, ↓top_set X.here.top, hexec, hb, hg, e', Value.isRef]
  exact a
theorem se_aloadR {i : Nat} {x : Nat} (hl : L[i]? = some (some (.retAddr x))) (hg : decode M.2.1 pc = .ok (.aload i, 2)) (k : se_W G l d M (pc + 2) L (.retAddr x :: st) h C S Φ) : se_W G l d M pc L st h C S Φ := by
  intro p e R s m args below meth c D dA A θ0 n0 mc ms θ H locs cells slots ls hs hd h1 h2 h3 h4
  exact lv_aload hs.1 hs.2.1 hg (hd.2.2.2.2.2.1.2.2.2 _ _ hl) (k p e R s m args below meth c D dA A θ0 n0 mc ms θ H locs cells slots ls hs (hd.stk (se_push (se_q _ _) hd.wst)) h1 h2 h3 h4)
theorem se_astoreR {i : Nat} {x : Nat} (hg : decode M.2.1 pc = .ok (.astore i, 2)) (hi : i < M.2.2.1) (L' : List (Option Value)) (hL : se_s1 L i (.retAddr x) = L') (k : se_W G l d M (pc + 2) L' st h C S Φ) : se_W G l d M pc L (.retAddr x :: st) h C S Φ := by
  subst hL
  intro p e R s m args below meth c D dA A θ0 n0 mc ms θ H locs cells slots ls hs hd h1 h2 h3 h4 T hT X
  obtain ⟨ls', e', g'⟩ := se_store1 (v := .retAddr x) hd.2.2.2.2.2.1 hi rfl
  obtain ⟨t, a, b⟩ := k p e R s m args below meth c D dA A θ0 n0 mc ms θ H locs cells slots ls' hs (hd.loc g' (se_wL_s1 hd.2.2.2.2.2.2.1 (se_q _ _)) (se_pop hd.wst)) h1 h2 h3 h4 T hT X
  refine ⟨t, ?_, b⟩
  have hexec := hs.1
  have hb := hs.2.1
  simp only [List.map_cons, se_v] at e' ⊢
  jvm_step X.here [X.here.top, ↓top_set X.here.top, hexec, hb, hg, e', Value.isRef]
  exact a
theorem se_sld {b N : Nat} {xs : Nat → Int32} {i : Int32} (hg : decode M.2.1 pc = .ok (.iaload, 1)) (hb : (b, N, xs) ∈ G.2.2.2.2.2) (hin : vp_in i N) (k : se_W G l d M (pc + 1) L (.int (xs i.toNatClampNeg) :: st) h C S Φ) : se_W G l d M pc L (.int i :: .retAddr b :: st) h C S Φ := by
  intro p e R s m args below meth c D dA A θ0 n0 mc ms θ H locs cells slots ls hs hd h1 h2 h3 h4
  obtain ⟨x1, x2⟩ := hs.2.2.2.2.2.2.2.2.2.2.1.2.2.2.2 _ hb
  obtain ⟨scr, y1, -⟩ := id x1
  exact va_sld hs.1 hs.2.1 x1 (Array.getElem?_eq_some_iff.mp y1).1 x2 hd.2.2.1 hin hg (k p e R s m args below meth c D dA A θ0 n0 mc ms θ H locs cells slots ls hs (hd.stk (se_push (se_i _ _) (se_pop (se_pop hd.wst)))) h1 h2 h3 h4)
theorem se_slen {b N : Nat} {xs : Nat → Int32} (hg : decode M.2.1 pc = .ok (.arraylength, 1)) (hb : (b, N, xs) ∈ G.2.2.2.2.2) (k : se_W G l d M (pc + 1) L (.int (Int32.ofNat N) :: st) h C S Φ) : se_W G l d M pc L (.retAddr b :: st) h C S Φ := by
  intro p e R s m args below meth c D dA A θ0 n0 mc ms θ H locs cells slots ls hs hd h1 h2 h3 h4
  obtain ⟨x1, x2⟩ := hs.2.2.2.2.2.2.2.2.2.2.1.2.2.2.2 _ hb
  obtain ⟨scr, y1, -⟩ := id x1
  exact va_slen hs.1 hs.2.1 x1 (Array.getElem?_eq_some_iff.mp y1).1 x2 hd.2.2.1 hg (k p e R s m args below meth c D dA A θ0 n0 mc ms θ H locs cells slots ls hs (hd.stk (se_push (se_i _ _) (se_pop hd.wst))) h1 h2 h3 h4)
/-- a method of ours with a table of handlers, called by its name: its contract -/
def se_mokH (G : se_G) (M : se_M) (n : Nat) : Prop := plainName M.1.cls = true ∧ Cond.codeWith M.1 M.2.1 M.2.2.1 M.2.2.2.1 M.2.2.2.2 ∈ G.2.1 ∧ (M.1.cls ≠ "java/lang/invoke/MethodHandle" ∧ M.1.cls ≠ "java/lang/invoke/VarHandle" ∧ (parseMethodDescriptor M.1.desc).map (fun d => d.parameters.length) = some n) ∧ M.2.2.1 ≤ 14
def se_wsH (G : se_G) (M : se_M) : List Cond := Cond.codeWith M.1 M.2.1 M.2.2.1 M.2.2.2.1 M.2.2.2.2 :: G.2.1
theorem se_wsH_in {n : Nat} (hm : se_mokH G M n) : ∀ w ∈ se_wsH G M, w ∈ G.2.1 := fun w hw => (List.mem_cons.mp hw).elim (fun e => by rw [e]; exact hm.2.1) id
theorem se_metH {n : Nat} {vs : List Value} (hm : se_mokH G M n) (hl : l.stackTraces = false) (hlen : (se_sl vs).length ≤ M.2.2.1) (hwv : ∀ v ∈ vs, se_wv h.length v) (hwh : se_wh h) (k : se_W G l d M 0 (se_ent M.2.2.1 vs) [] h C S Φ) (D : va_G) (dA : FieldType → ClassId) (θ : Nat → Nat) (sz : Nat) :
    vx_Met l M.1 (se_wsH G M) (se_rm d C S) (se_Pc G D dA θ vs h sz) (se_Q G D dA (va_A (se_w dA θ h) sz) θ h.length Φ) (se_X G D dA (va_A (se_w dA θ h) sz) θ h.length Φ) C S (va_A (se_w dA θ h) sz) := by
  refine vx_ofWH (cc := M.2.1) (maxL := M.2.2.1) (ret := M.2.2.2.1) (hh := M.2.2.2.2) hm.1 rfl ?_
  intro p e s m args below meth c s₁ B hml hv
  obtain ⟨rfl, hsz, hP, hK, hD0, hZ⟩ := hv
  subst hsz
  rw [lg_entry_eq]
  have htb : c.exceptionTable.toList = tableOf M.2.2.2.2 := vx_table (x := M.1) B (atoms_spec (ws := se_wsH G M) B.pre _ List.mem_cons_self)
  exact k p e _ s m _ below meth c D dA (va_A (se_w dA θ h) s.heap.size) θ h.length C S θ s.heap [] 0 0 _
    ⟨B.exec, B.bytes, hml, B.returns, findClass_of_methodNamed B.named, fun w hw => atoms_spec (ws := se_wsH G M) B.pre w (List.mem_cons_of_mem _ hw), B.notSynchronized, htb, hK, fun q hq => Or.inr hq, hZ, ⟨Nat.le_refl _, Nat.le_refl _⟩, (name_of_methodNamed B.named B.method).1, hl⟩
    ⟨hP, hD0.self, va_S.rf, hwh, fun v hv => (by cases hv), se_ent_L hlen, fun i v hv => hwv v (se_sl_mem (se_ent_at hv)), Nat.le_refl _, fun _ _ => rfl⟩ (by omega) (by omega) (Nat.le_refl _) (Nat.le_refl _)
theorem se_invSH {M' : se_M} {n index : Nat} {as : List Value} {Ψ : se_O → se_H → Prop} {C1 S1 C2 S2 : Nat} (hok : se_ok G) (hm : se_mokH G M' n) (hg : decode M.2.1 pc = .ok (.invokestatic index, 3)) (hw : Cond.methodLink M.1.cls index M'.1 ∈ G.2.1 ∧ Cond.static M'.1 ∈ G.2.1 ∧ Cond.initialized M'.1.cls ∈ G.2.1) (hn : as.length = n) (hln : (se_sl as).length ≤ M'.2.2.1) (h8 : (st.map fun v => v.category).sum ≤ 8)
    (callee : se_W G l d M' 0 (se_ent M'.2.2.1 as) [] h C1 S1 Ψ) (hC : C1 + C2 ≤ C) (hS : S1 + S2 ≤ S)
    (kr : ∀ v h', h.length ≤ h'.length → Ψ (.inl v) h' → se_W G l (d + 1) M (pc + 3) L (v.toList ++ st) h' C2 S2 Φ)
    (hh : ∀ x ∈ M.2.2.2.2, ¬ (x.1 ≤ pc ∧ pc < x.2.1)) (kx : ∀ E h', h.length ≤ h'.length → Ψ (.inr E) h' → Φ (.inr E) h') : se_W G l (d + 1) M pc L (as.reverse ++ st) h C S Φ := by
  intro p e R s m args below meth c D dA A θ0 n0 mc ms θ H locs cells slots ls hs hd h1 h2 h3 h4
  have hst : ∀ v ∈ st, se_wv h.length v := fun v hv => hd.wst v (List.mem_append_right _ hv)
  have hvs : ∀ v ∈ as, se_wv h.length v := fun v hv => hd.wst v (List.mem_append_left _ (List.mem_reverse.mpr hv))
  have hM := se_metH hm hs.2.2.2.2.2.2.2.2.2.2.2.2.2 hln hvs hd.2.2.2.1 callee D dA θ H.size
  have hp := se_pre hok hs hd as
  have hgi : GoodIn G.2.1 (va_wsS M.1.cls index M'.1 (se_wsH G M')) := se_good hok (fun w hw' => by
    rcases List.mem_append.mp hw' with q | q
    · simp only [List.mem_cons, List.not_mem_nil, or_false] at q
      rcases q with rfl | rfl | rfl
      · exact hw.1
      · exact hw.2.1
      · exact hw.2.2
    · exact se_wsH_in hm w q)
  have hfr := hs.2.2.2.2.2.2.2.2.2.2.2.1
  have hm5 := hm.2.2.2
  have hrun := vx_runSX (p := p) (l := l) (e := e) (R := R) (s := s) (m := m) (args := args) (below := below) (meth := meth) (c := c) (H := H) (locs := locs) (cells := cells) (slots := slots) (As := as.map (se_v θ)) (rest := st.map (se_v θ)) (g := F0 m pc ls ((as.reverse ++ st).map (se_v θ))) (nL := M.2.2.1) (Ts := G.2.1) ⟨hs.1, hs.2.1, hs.2.2.1, hs.2.2.2.2.1, hs.2.2.2.2.2.1⟩ hM
    (vx_cwSW n hs.2.2.2.2.2.1 hgi rfl rfl rfl hm.2.2.1 ⟨by show d + 1 ≤ R.frames; omega, by show 8 + (M'.2.2.1 + 11) + (33 * d + 41) ≤ R.locals; omega⟩) hp rfl (by rw [List.length_map]; exact hn) hd.2.2.2.2.2.1.1 (by rw [List.map_append, List.map_reverse]) (se_room θ h8) hg ⟨by omega, by omega⟩
  refine se_after hrun hs (hd.stk hst) h1 h2 h3 h4 hC hS kr (fun E h' q ce θ' H' locs' hle hΨ hd' hθ hce hcv hcl => ?_)
  exact se_outX hs hd' hh (by omega) (by omega) hce hcv hcl (kx E h' hle hΨ)
/-- which handler takes an exception of class E that is thrown at pc: the rows ahead of it don't cover pc, or name a class that E isn't -/
def se_takes (G : se_G) (M : se_M) (pc : Nat) (E : String) (i tgt : Nat) : Prop := ∃ (x : Nat × Nat × Nat × Nat) (nm : String), M.2.2.2.2[i]? = some x ∧ x.2.2.1 = tgt ∧ (x.1 ≤ pc ∧ pc < x.2.1) ∧ x.2.2.2 ≠ 0 ∧ Cond.classLink M.1.cls x.2.2.2 nm ∈ G.2.1 ∧ Cond.castable E nm ∈ G.2.2.2.2.1 ∧
  ∀ j, j < i → ∀ y, M.2.2.2.2[j]? = some y → y.2.2.2 ≠ 0 ∧ ∃ nm', Cond.classLink M.1.cls y.2.2.2 nm' ∈ G.2.1 ∧ Cond.not (.castable E nm') ∈ G.2.2.2.2.1
theorem se_invVC {M' : se_M} {T : u_T} {n N ci index a : Nat} {fs as : List Value} {Ψ : se_O → se_H → Prop} {C1 S1 C2 S2 : Nat} (hok : se_ok G) (hm : se_mok G M' n) (hg : decode M.2.1 pc = .ok (.invokevirtual index, 3)) (hw : Cond.methodLink M.1.cls index M'.1 ∈ G.2.1 ∧ Cond.instanceMethod M'.1 ∈ G.2.1 ∧ Cond.selects M'.1.cls M'.1 M'.1 ∈ G.2.1 ∧ Cond.initialized M'.1.cls ∈ G.2.1) (hci : G.1[ci]? = some (M'.1.cls, T, N)) (ha : h[a]? = some (.inr (ci, fs))) (hn : as.length = n) (hln : (se_sl (.ref a :: as)).length ≤ M'.2.2.1) (h8 : (st.map fun v => v.category).sum ≤ 8)
    (callee : se_W G l d M' 0 (se_ent M'.2.2.1 (.ref a :: as)) [] h C1 S1 Ψ) (hC : C1 + C2 ≤ C) (hS : S1 + S2 ≤ S)
    (kr : ∀ v h', h.length ≤ h'.length → Ψ (.inl v) h' → se_W G l (d + 1) M (pc + 3) L (v.toList ++ st) h' C2 S2 Φ)
    (kx : ∀ E h', h.length ≤ h'.length → Ψ (.inr E) h' → ∃ i tgt, se_takes G M pc E i tgt ∧ ∀ q, se_W G l (d + 1) M tgt L [.retAddr q] h' C2 S2 Φ) : se_W G l (d + 1) M pc L (as.reverse ++ .ref a :: st) h C S Φ := by
  intro p e R s m args below meth c D dA A θ0 n0 mc ms θ H locs cells slots ls hs hd h1 h2 h3 h4
  have hst : ∀ v ∈ st, se_wv h.length v := fun v hv => hd.wst v (List.mem_append_right _ (List.mem_cons_of_mem _ hv))
  have hvs : ∀ v ∈ Value.ref a :: as, se_wv h.length v := se_push (hd.wst _ (List.mem_append_right _ List.mem_cons_self)) (fun v hv => hd.wst v (List.mem_append_left _ (List.mem_reverse.mpr hv)))
  have hM := se_met hm hs.2.2.2.2.2.2.2.2.2.2.2.2.2 hln hvs hd.2.2.2.1 callee D dA θ H.size
  have hp := se_pre hok hs hd (.ref a :: as)
  have hgi : GoodIn G.2.1 (wsV M.1.cls index M'.1.cls M'.1 (se_ws G M')) := se_good hok (fun w hw' => by
    rcases List.mem_append.mp hw' with q | q
    · simp only [List.mem_cons, List.not_mem_nil, or_false] at q
      rcases q with rfl | rfl | rfl | rfl
      · exact hw.1
      · exact hw.2.1
      · exact hw.2.2.1
      · exact hw.2.2.2
    · exact se_ws_in hm w q)
  have hrec : ∃ cell : Cell, H[θ a]? = some cell ∧ cell.vm.isStatics = false ∧ s.vm.findClass M'.1.cls = some cell.cls := va_recv hs.2.2.2.2.2.2.2.2.1 hd.1 hci (se_w_at ha)
  have hfr := hs.2.2.2.2.2.2.2.2.2.2.2.1
  have hm5 := hm.2.2.2.2
  have hrun := vx_runV (p := p) (l := l) (e := e) (R := R) (s := s) (m := m) (args := args) (below := below) (meth := meth) (c := c) (H := H) (locs := locs) (cells := cells) (slots := slots) (As := as.map (se_v θ)) (rest := st.map (se_v θ)) (b := θ a) (g := F0 m pc ls ((as.reverse ++ .ref a :: st).map (se_v θ))) (nL := M.2.2.1) (Ts := G.2.1) ⟨hs.1, hs.2.1, hs.2.2.1, hs.2.2.2.2.1, hs.2.2.2.2.2.1⟩ hM
    (cwV n hs.2.2.2.2.2.1 hgi rfl rfl rfl ⟨rfl, hm.2.2.2.1⟩ ⟨by show d + 1 ≤ R.frames; omega, by show 8 + (M'.2.2.1 + 11) + (33 * d + 41) ≤ R.locals; omega⟩) ⟨hp.1, hrec, hp.2⟩ rfl (by rw [List.length_map]; exact hn) hd.2.2.2.2.2.1.1 (by rw [List.map_append, List.map_reverse]; rfl) (se_room θ h8) hg ⟨by omega, by omega⟩
  refine se_after hrun hs (hd.stk hst) h1 h2 h3 h4 hC hS kr (fun E h' q ce θ' H' locs' hle hΨ hd' hθ hce hcv hcl => ?_)
  obtain ⟨i, tgt, ⟨x, nm, x1, x2, x3, x4, x5, x6, x7⟩, kk⟩ := kx E h' hle hΨ
  have hts := hs.2.2.2.2.2.1
  have hZ := hs.2.2.2.2.2.2.2.2.2.2.1
  have htab := hs.2.2.2.2.2.2.2.1
  have hil : i < M.2.2.2.2.length := (List.getElem?_eq_some_iff.mp x1).1
  have hsplit : c.exceptionTable.toList = tableOf (M.2.2.2.2.take i) ++ (⟨x.1, x.2.1, x.2.2.1, x.2.2.2⟩ : ExceptionTableEntry) :: tableOf (M.2.2.2.2.drop (i + 1)) := by
    rw [htab]
    have e1 : M.2.2.2.2 = M.2.2.2.2.take i ++ x :: M.2.2.2.2.drop (i + 1) := by
      rw [← (List.getElem?_eq_some_iff.mp x1).2, List.getElem_cons_drop, List.take_append_drop]
    simp only [tableOf]
    conv => lhs; rw [e1]
    simp
  refine vx_catch (own := M.1.cls) (name := nm) (E := E) (ce := ce) hs.2.2.2.2.1 _ _ _ hsplit (fun z hz => ?_) (by simp [covers, x3.1, x3.2]) x4 (hts _ x5) (va_Nw.use rfl (hZ.2.2.2.1 _ x6)) hce hcv hcl ?_
  · obtain ⟨y, hy, rfl⟩ := List.mem_map.mp hz
    obtain ⟨j, hj⟩ := List.getElem?_of_mem hy
    have hji : j < i := by
      have := (List.getElem?_eq_some_iff.mp hj).1
      rw [List.length_take] at this
      omega
    rw [List.getElem?_take, if_pos hji] at hj
    obtain ⟨y1, nm', y2, y3⟩ := x7 j hji y hj
    refine Or.inr ⟨y1, nm', hts _ y2, ?_⟩
    exact va_Nc.of (hZ.2.2.2.1 _ y3)
  · show W p l e R s m args below meth c H' locs' (cells + C1) (slots + S1) _ (F0 m x.2.2.1 ls [.ref q])
    rw [x2]
    exact kk q p e R s m args below meth c D dA A θ0 n0 mc ms θ' H' locs' (cells + C1) (slots + S1) ls hs (hd'.stk (fun v hv => by rw [List.mem_singleton.mp hv]; exact se_q _ _)) (by omega) (by omega) h3 h4
end SE3
end
section
def vG (sc : List (Nat × Nat × (Nat → Int32))) : se_G := (vCl, vW, vA, vS, vN, sc)
theorem vok (sc : List (Nat × Nat × (Nat → Int32))) : se_ok (vG sc) := by
  refine ⟨fun w hw => (List.mem_filter.mp hw).2, fun w hw s U hW hZ => ?_⟩
  rcases List.mem_append.mp hw with hw | hw
  · simp only [vN1, List.mem_cons, List.not_mem_nil, or_false] at hw
    rcases hw with rfl | rfl | rfl | rfl | rfl | rfl | rfl | rfl | rfl | rfl | rfl | rfl | rfl
    · exact va_AO.moved hW.alike hZ
    · exact va_Nw.warmM hW hZ
    · exact va_AO.moved hW.alike hZ
    · exact se_warmC hW hZ
    · exact va_Nw.warmD hW hZ
    · exact va_Nw.warmD hW hZ
    · exact va_Nw.warmD hW hZ
    · exact va_Nw.warmD hW hZ
    · exact va_Nw.warmD hW hZ
    · exact va_Nw.warmD hW hZ
    · exact se_warmC hW hZ
    · exact se_warmC hW hZ
    · exact se_warmC hW hZ
  · simp only [vN2, List.mem_cons, List.not_mem_nil, or_false] at hw
    rcases hw with rfl | rfl | rfl | rfl | rfl | rfl | rfl | rfl | rfl | rfl | rfl | rfl <;> exact se_warmN hW hZ
section BASE
variable {sc : List (Nat × Nat × (Nat → Int32))} {l : Launch}
theorem clK : se_cls (vG sc) 0 rK TK 6 yK := ⟨rfl, inK, tyK, nmK⟩
theorem clV : se_cls (vG sc) 1 rV TV 16 yV := ⟨rfl, inV, tyV, nmV⟩
theorem clC : se_cls (vG sc) 2 rC TC 8 yC := ⟨rfl, inC, tyC, nmC⟩
theorem clR : se_cls (vG sc) 3 rR TR 29 yR := ⟨rfl, inR, tyR, nmR⟩
theorem kC_init : se_mok (vG sc) mC_init 0 := ⟨by decide +kernel, rfl, wd_17, ⟨by decide +kernel, by decide +kernel, by decide +kernel⟩, by decide⟩
theorem kK_init : se_mok (vG sc) mK_init 0 := ⟨by decide +kernel, rfl, wd_26, ⟨by decide +kernel, by decide +kernel, by decide +kernel⟩, by decide⟩
theorem kL_vehicle : se_mokH (vG sc) mL_vehicle 4 := ⟨by decide +kernel, wd_85, ⟨by decide +kernel, by decide +kernel, by decide +kernel⟩, by decide⟩
theorem kC_vehicle : se_mok (vG sc) mC_vehicle 2 := ⟨by decide +kernel, rfl, wd_91, ⟨by decide +kernel, by decide +kernel, by decide +kernel⟩, by decide⟩
theorem kC_knownKind : se_mok (vG sc) mC_knownKind 1 := ⟨by decide +kernel, rfl, wd_95, ⟨by decide +kernel, by decide +kernel, by decide +kernel⟩, by decide⟩
theorem kV_init : se_mok (vG sc) mV_init 4 := ⟨by decide +kernel, rfl, wd_184, ⟨by decide +kernel, by decide +kernel, by decide +kernel⟩, by decide⟩
theorem kL_list : se_mokH (vG sc) mL_list 7 := ⟨by decide +kernel, wd_248, ⟨by decide +kernel, by decide +kernel, by decide +kernel⟩, by decide⟩
theorem kC_list : se_mok (vG sc) mC_list 6 := ⟨by decide +kernel, rfl, wd_253, ⟨by decide +kernel, by decide +kernel, by decide +kernel⟩, by decide⟩
theorem kC_checkItem : se_mok (vG sc) mC_checkItem 1 := ⟨by decide +kernel, rfl, wd_256, ⟨by decide +kernel, by decide +kernel, by decide +kernel⟩, by decide⟩
theorem kC_checkRange : se_mok (vG sc) mC_checkRange 3 := ⟨by decide +kernel, rfl, wd_260, ⟨by decide +kernel, by decide +kernel, by decide +kernel⟩, by decide⟩
theorem kK_enter : se_mok (vG sc) mK_enter 5 := ⟨by decide +kernel, rfl, wd_280, ⟨by decide +kernel, by decide +kernel, by decide +kernel⟩, by decide⟩
theorem kL_unlist : se_mokH (vG sc) mL_unlist 3 := ⟨by decide +kernel, wd_283, ⟨by decide +kernel, by decide +kernel, by decide +kernel⟩, by decide⟩
theorem kC_unlist : se_mok (vG sc) mC_unlist 2 := ⟨by decide +kernel, rfl, wd_288, ⟨by decide +kernel, by decide +kernel, by decide +kernel⟩, by decide⟩
theorem kC_checkListed : se_mok (vG sc) mC_checkListed 2 := ⟨by decide +kernel, rfl, wd_291, ⟨by decide +kernel, by decide +kernel, by decide +kernel⟩, by decide⟩
theorem kL_answer : se_mokH (vG sc) mL_answer 6 := ⟨by decide +kernel, wd_310, ⟨by decide +kernel, by decide +kernel, by decide +kernel⟩, by decide⟩
theorem kC_answer : se_mok (vG sc) mC_answer 4 := ⟨by decide +kernel, rfl, wd_314, ⟨by decide +kernel, by decide +kernel, by decide +kernel⟩, by decide⟩
theorem kC_knownVehicle : se_mok (vG sc) mC_knownVehicle 1 := ⟨by decide +kernel, rfl, wd_318, ⟨by decide +kernel, by decide +kernel, by decide +kernel⟩, by decide⟩
theorem kC_checkPerson : se_mok (vG sc) mC_checkPerson 1 := ⟨by decide +kernel, rfl, wd_322, ⟨by decide +kernel, by decide +kernel, by decide +kernel⟩, by decide⟩
theorem kV_keepAnswer : se_mok (vG sc) mV_keepAnswer 4 := ⟨by decide +kernel, rfl, wd_329, ⟨by decide +kernel, by decide +kernel, by decide +kernel⟩, by decide⟩
theorem kK_isWithin : se_mok (vG sc) mK_isWithin 2 := ⟨by decide +kernel, rfl, wd_333, ⟨by decide +kernel, by decide +kernel, by decide +kernel⟩, by decide⟩
theorem kL_item : se_mokH (vG sc) mL_item 5 := ⟨by decide +kernel, wd_336, ⟨by decide +kernel, by decide +kernel, by decide +kernel⟩, by decide⟩
theorem kC_item : se_mok (vG sc) mC_item 3 := ⟨by decide +kernel, rfl, wd_340, ⟨by decide +kernel, by decide +kernel, by decide +kernel⟩, by decide⟩
theorem kC_oneOrZero : se_mok (vG sc) mC_oneOrZero 1 := ⟨by decide +kernel, rfl, wd_343, ⟨by decide +kernel, by decide +kernel, by decide +kernel⟩, by decide⟩
theorem kV_hasFailed : se_mok (vG sc) mV_hasFailed 1 := ⟨by decide +kernel, rfl, wd_347, ⟨by decide +kernel, by decide +kernel, by decide +kernel⟩, by decide⟩
theorem kV_hasSkipped : se_mok (vG sc) mV_hasSkipped 2 := ⟨by decide +kernel, rfl, wd_352, ⟨by decide +kernel, by decide +kernel, by decide +kernel⟩, by decide⟩
theorem kL_use : se_mokH (vG sc) mL_use 4 := ⟨by decide +kernel, wd_356, ⟨by decide +kernel, by decide +kernel, by decide +kernel⟩, by decide⟩
theorem kC_use : se_mok (vG sc) mC_use 2 := ⟨by decide +kernel, rfl, wd_360, ⟨by decide +kernel, by decide +kernel, by decide +kernel⟩, by decide⟩
theorem kC_canRun : se_mok (vG sc) mC_canRun 1 := ⟨by decide +kernel, rfl, wd_365, ⟨by decide +kernel, by decide +kernel, by decide +kernel⟩, by decide⟩
theorem kV_checksWeight : se_mok (vG sc) mV_checksWeight 1 := ⟨by decide +kernel, rfl, wd_369, ⟨by decide +kernel, by decide +kernel, by decide +kernel⟩, by decide⟩
theorem kC_damagesWeight : se_mok (vG sc) mC_damagesWeight 1 := ⟨by decide +kernel, rfl, wd_375, ⟨by decide +kernel, by decide +kernel, by decide +kernel⟩, by decide⟩
theorem kC_isOpenDamage : se_mok (vG sc) mC_isOpenDamage 2 := ⟨by decide +kernel, rfl, wd_379, ⟨by decide +kernel, by decide +kernel, by decide +kernel⟩, by decide⟩
theorem kV_keepUse : se_mok (vG sc) mV_keepUse 1 := ⟨by decide +kernel, rfl, wd_384, ⟨by decide +kernel, by decide +kernel, by decide +kernel⟩, by decide⟩
theorem kL_runs : se_mokH (vG sc) mL_runs 3 := ⟨by decide +kernel, wd_387, ⟨by decide +kernel, by decide +kernel, by decide +kernel⟩, by decide⟩
theorem kC_runs : se_mok (vG sc) mC_runs 1 := ⟨by decide +kernel, rfl, wd_391, ⟨by decide +kernel, by decide +kernel, by decide +kernel⟩, by decide⟩
theorem kL_reason : se_mokH (vG sc) mL_reason 4 := ⟨by decide +kernel, wd_394, ⟨by decide +kernel, by decide +kernel, by decide +kernel⟩, by decide⟩
theorem kC_reason : se_mok (vG sc) mC_reason 2 := ⟨by decide +kernel, rfl, wd_398, ⟨by decide +kernel, by decide +kernel, by decide +kernel⟩, by decide⟩
theorem kC_checkPlace : se_mok (vG sc) mC_checkPlace 1 := ⟨by decide +kernel, rfl, wd_401, ⟨by decide +kernel, by decide +kernel, by decide +kernel⟩, by decide⟩
theorem kC_damageReason : se_mok (vG sc) mC_damageReason 2 := ⟨by decide +kernel, rfl, wd_406, ⟨by decide +kernel, by decide +kernel, by decide +kernel⟩, by decide⟩
theorem kL_off : se_mokH (vG sc) mL_off 5 := ⟨by decide +kernel, wd_409, ⟨by decide +kernel, by decide +kernel, by decide +kernel⟩, by decide⟩
theorem kC_off : se_mok (vG sc) mC_off 4 := ⟨by decide +kernel, rfl, wd_413, ⟨by decide +kernel, by decide +kernel, by decide +kernel⟩, by decide⟩
theorem kL_damage : se_mokH (vG sc) mL_damage 4 := ⟨by decide +kernel, wd_418, ⟨by decide +kernel, by decide +kernel, by decide +kernel⟩, by decide⟩
theorem kC_damage : se_mok (vG sc) mC_damage 2 := ⟨by decide +kernel, rfl, wd_422, ⟨by decide +kernel, by decide +kernel, by decide +kernel⟩, by decide⟩
theorem kL_proof : se_mokH (vG sc) mL_proof 3 := ⟨by decide +kernel, wd_426, ⟨by decide +kernel, by decide +kernel, by decide +kernel⟩, by decide⟩
theorem kC_proof : se_mok (vG sc) mC_proof 2 := ⟨by decide +kernel, rfl, wd_430, ⟨by decide +kernel, by decide +kernel, by decide +kernel⟩, by decide⟩
theorem kL_need : se_mokH (vG sc) mL_need 4 := ⟨by decide +kernel, wd_435, ⟨by decide +kernel, by decide +kernel, by decide +kernel⟩, by decide⟩
theorem kC_need : se_mok (vG sc) mC_need 3 := ⟨by decide +kernel, rfl, wd_439, ⟨by decide +kernel, by decide +kernel, by decide +kernel⟩, by decide⟩
theorem kC_checkThing : se_mok (vG sc) mC_checkThing 1 := ⟨by decide +kernel, rfl, wd_442, ⟨by decide +kernel, by decide +kernel, by decide +kernel⟩, by decide⟩
theorem kL_put : se_mokH (vG sc) mL_put 5 := ⟨by decide +kernel, wd_446, ⟨by decide +kernel, by decide +kernel, by decide +kernel⟩, by decide⟩
theorem kC_put : se_mok (vG sc) mC_put 3 := ⟨by decide +kernel, rfl, wd_450, ⟨by decide +kernel, by decide +kernel, by decide +kernel⟩, by decide⟩
theorem kC_checkRoom : se_mok (vG sc) mC_checkRoom 3 := ⟨by decide +kernel, rfl, wd_453, ⟨by decide +kernel, by decide +kernel, by decide +kernel⟩, by decide⟩
theorem kL_swap : se_mokH (vG sc) mL_swap 5 := ⟨by decide +kernel, wd_457, ⟨by decide +kernel, by decide +kernel, by decide +kernel⟩, by decide⟩
theorem kC_swap : se_mok (vG sc) mC_swap 3 := ⟨by decide +kernel, rfl, wd_461, ⟨by decide +kernel, by decide +kernel, by decide +kernel⟩, by decide⟩
theorem kL_spare : se_mokH (vG sc) mL_spare 3 := ⟨by decide +kernel, wd_466, ⟨by decide +kernel, by decide +kernel, by decide +kernel⟩, by decide⟩
theorem kC_spare : se_mok (vG sc) mC_spare 1 := ⟨by decide +kernel, rfl, wd_470, ⟨by decide +kernel, by decide +kernel, by decide +kernel⟩, by decide⟩
theorem kC_bestSpare : se_mok (vG sc) mC_bestSpare 1 := ⟨by decide +kernel, rfl, wd_474, ⟨by decide +kernel, by decide +kernel, by decide +kernel⟩, by decide⟩
theorem kC_isSpareFor : se_mok (vG sc) mC_isSpareFor 2 := ⟨by decide +kernel, rfl, wd_478, ⟨by decide +kernel, by decide +kernel, by decide +kernel⟩, by decide⟩
theorem kV_lowestLacking : se_mok (vG sc) mV_lowestLacking 0 := ⟨by decide +kernel, rfl, wd_482, ⟨by decide +kernel, by decide +kernel, by decide +kernel⟩, by decide⟩
theorem kL_fuel : se_mokH (vG sc) mL_fuel 4 := ⟨by decide +kernel, wd_485, ⟨by decide +kernel, by decide +kernel, by decide +kernel⟩, by decide⟩
theorem kC_fuel : se_mok (vG sc) mC_fuel 2 := ⟨by decide +kernel, rfl, wd_489, ⟨by decide +kernel, by decide +kernel, by decide +kernel⟩, by decide⟩
theorem kL_using : se_mokH (vG sc) mL_using 4 := ⟨by decide +kernel, wd_493, ⟨by decide +kernel, by decide +kernel, by decide +kernel⟩, by decide⟩
theorem kC_using : se_mok (vG sc) mC_using 2 := ⟨by decide +kernel, rfl, wd_497, ⟨by decide +kernel, by decide +kernel, by decide +kernel⟩, by decide⟩
theorem kC_commonDivisor : se_mok (vG sc) mC_commonDivisor 2 := ⟨by decide +kernel, rfl, wd_502, ⟨by decide +kernel, by decide +kernel, by decide +kernel⟩, by decide⟩
theorem kL_key : se_mokH (vG sc) mL_key 4 := ⟨by decide +kernel, wd_508, ⟨by decide +kernel, by decide +kernel, by decide +kernel⟩, by decide⟩
theorem kC_key : se_mok (vG sc) mC_key 2 := ⟨by decide +kernel, rfl, wd_512, ⟨by decide +kernel, by decide +kernel, by decide +kernel⟩, by decide⟩
theorem kL_cost : se_mokH (vG sc) mL_cost 4 := ⟨by decide +kernel, wd_516, ⟨by decide +kernel, by decide +kernel, by decide +kernel⟩, by decide⟩
theorem kC_cost : se_mok (vG sc) mC_cost 2 := ⟨by decide +kernel, rfl, wd_520, ⟨by decide +kernel, by decide +kernel, by decide +kernel⟩, by decide⟩
theorem kL_skipped : se_mokH (vG sc) mL_skipped 3 := ⟨by decide +kernel, wd_524, ⟨by decide +kernel, by decide +kernel, by decide +kernel⟩, by decide⟩
theorem kC_skipped : se_mok (vG sc) mC_skipped 1 := ⟨by decide +kernel, rfl, wd_528, ⟨by decide +kernel, by decide +kernel, by decide +kernel⟩, by decide⟩
theorem kL_tick : se_mokH (vG sc) mL_tick 3 := ⟨by decide +kernel, wd_531, ⟨by decide +kernel, by decide +kernel, by decide +kernel⟩, by decide⟩
theorem kC_tick : se_mok (vG sc) mC_tick 1 := ⟨by decide +kernel, rfl, wd_535, ⟨by decide +kernel, by decide +kernel, by decide +kernel⟩, by decide⟩
theorem kL_vehicleAt : se_mokH (vG sc) mL_vehicleAt 4 := ⟨by decide +kernel, wd_538, ⟨by decide +kernel, by decide +kernel, by decide +kernel⟩, by decide⟩
theorem kC_vehicleAt : se_mok (vG sc) mC_vehicleAt 2 := ⟨by decide +kernel, rfl, wd_542, ⟨by decide +kernel, by decide +kernel, by decide +kernel⟩, by decide⟩
theorem kC_openDamages : se_mok (vG sc) mC_openDamages 1 := ⟨by decide +kernel, rfl, wd_546, ⟨by decide +kernel, by decide +kernel, by decide +kernel⟩, by decide⟩
theorem kR_init : se_mok (vG sc) mR_init 0 := ⟨by decide +kernel, rfl, wd_551, ⟨by decide +kernel, by decide +kernel, by decide +kernel⟩, by decide⟩
theorem kR_thrown : se_mok (vG sc) mR_thrown 0 := ⟨by decide +kernel, rfl, wd_644, ⟨by decide +kernel, by decide +kernel, by decide +kernel⟩, by decide⟩
theorem kR_vehicle : se_mok (vG sc) mR_vehicle 2 := ⟨by decide +kernel, rfl, wd_648, ⟨by decide +kernel, by decide +kernel, by decide +kernel⟩, by decide⟩
theorem kR_isKind : se_mok (vG sc) mR_isKind 1 := ⟨by decide +kernel, rfl, wd_651, ⟨by decide +kernel, by decide +kernel, by decide +kernel⟩, by decide⟩
theorem kR_in : se_mok (vG sc) mR_in 3 := ⟨by decide +kernel, rfl, wd_654, ⟨by decide +kernel, by decide +kernel, by decide +kernel⟩, by decide⟩
theorem kR_goes : se_mok (vG sc) mR_goes 3 := ⟨by decide +kernel, rfl, wd_658, ⟨by decide +kernel, by decide +kernel, by decide +kernel⟩, by decide⟩
theorem kR_list : se_mok (vG sc) mR_list 6 := ⟨by decide +kernel, rfl, wd_662, ⟨by decide +kernel, by decide +kernel, by decide +kernel⟩, by decide⟩
theorem kR_isItem : se_mok (vG sc) mR_isItem 1 := ⟨by decide +kernel, rfl, wd_665, ⟨by decide +kernel, by decide +kernel, by decide +kernel⟩, by decide⟩
theorem kR_unlist : se_mok (vG sc) mR_unlist 2 := ⟨by decide +kernel, rfl, wd_669, ⟨by decide +kernel, by decide +kernel, by decide +kernel⟩, by decide⟩
theorem kR_answer : se_mok (vG sc) mR_answer 4 := ⟨by decide +kernel, rfl, wd_673, ⟨by decide +kernel, by decide +kernel, by decide +kernel⟩, by decide⟩
theorem kR_isVehicle : se_mok (vG sc) mR_isVehicle 1 := ⟨by decide +kernel, rfl, wd_677, ⟨by decide +kernel, by decide +kernel, by decide +kernel⟩, by decide⟩
theorem kR_isPerson : se_mok (vG sc) mR_isPerson 1 := ⟨by decide +kernel, rfl, wd_680, ⟨by decide +kernel, by decide +kernel, by decide +kernel⟩, by decide⟩
theorem kR_rule : se_mok (vG sc) mR_rule 2 := ⟨by decide +kernel, rfl, wd_686, ⟨by decide +kernel, by decide +kernel, by decide +kernel⟩, by decide⟩
theorem kR_isWithin : se_mok (vG sc) mR_isWithin 3 := ⟨by decide +kernel, rfl, wd_690, ⟨by decide +kernel, by decide +kernel, by decide +kernel⟩, by decide⟩
theorem kR_item : se_mok (vG sc) mR_item 3 := ⟨by decide +kernel, rfl, wd_694, ⟨by decide +kernel, by decide +kernel, by decide +kernel⟩, by decide⟩
theorem kR_fails : se_mok (vG sc) mR_fails 2 := ⟨by decide +kernel, rfl, wd_698, ⟨by decide +kernel, by decide +kernel, by decide +kernel⟩, by decide⟩
theorem kR_isSkipped : se_mok (vG sc) mR_isSkipped 2 := ⟨by decide +kernel, rfl, wd_702, ⟨by decide +kernel, by decide +kernel, by decide +kernel⟩, by decide⟩
theorem kR_reason : se_mok (vG sc) mR_reason 2 := ⟨by decide +kernel, rfl, wd_706, ⟨by decide +kernel, by decide +kernel, by decide +kernel⟩, by decide⟩
theorem kR_reasonOf : se_mok (vG sc) mR_reasonOf 2 := ⟨by decide +kernel, rfl, wd_710, ⟨by decide +kernel, by decide +kernel, by decide +kernel⟩, by decide⟩
theorem kR_runs : se_mok (vG sc) mR_runs 1 := ⟨by decide +kernel, rfl, wd_714, ⟨by decide +kernel, by decide +kernel, by decide +kernel⟩, by decide⟩
theorem kR_isRunning : se_mok (vG sc) mR_isRunning 1 := ⟨by decide +kernel, rfl, wd_718, ⟨by decide +kernel, by decide +kernel, by decide +kernel⟩, by decide⟩
theorem kR_use : se_mok (vG sc) mR_use 2 := ⟨by decide +kernel, rfl, wd_722, ⟨by decide +kernel, by decide +kernel, by decide +kernel⟩, by decide⟩
theorem kR_off : se_mok (vG sc) mR_off 4 := ⟨by decide +kernel, rfl, wd_727, ⟨by decide +kernel, by decide +kernel, by decide +kernel⟩, by decide⟩
theorem kR_damage : se_mok (vG sc) mR_damage 2 := ⟨by decide +kernel, rfl, wd_731, ⟨by decide +kernel, by decide +kernel, by decide +kernel⟩, by decide⟩
theorem kR_proof : se_mok (vG sc) mR_proof 2 := ⟨by decide +kernel, rfl, wd_735, ⟨by decide +kernel, by decide +kernel, by decide +kernel⟩, by decide⟩
theorem kR_need : se_mok (vG sc) mR_need 3 := ⟨by decide +kernel, rfl, wd_739, ⟨by decide +kernel, by decide +kernel, by decide +kernel⟩, by decide⟩
theorem kR_isThing : se_mok (vG sc) mR_isThing 1 := ⟨by decide +kernel, rfl, wd_742, ⟨by decide +kernel, by decide +kernel, by decide +kernel⟩, by decide⟩
theorem kR_put : se_mok (vG sc) mR_put 3 := ⟨by decide +kernel, rfl, wd_746, ⟨by decide +kernel, by decide +kernel, by decide +kernel⟩, by decide⟩
theorem kR_swap : se_mok (vG sc) mR_swap 3 := ⟨by decide +kernel, rfl, wd_750, ⟨by decide +kernel, by decide +kernel, by decide +kernel⟩, by decide⟩
theorem kR_spare : se_mok (vG sc) mR_spare 1 := ⟨by decide +kernel, rfl, wd_754, ⟨by decide +kernel, by decide +kernel, by decide +kernel⟩, by decide⟩
theorem kR_fuel : se_mok (vG sc) mR_fuel 2 := ⟨by decide +kernel, rfl, wd_758, ⟨by decide +kernel, by decide +kernel, by decide +kernel⟩, by decide⟩
theorem kR_using : se_mok (vG sc) mR_using 2 := ⟨by decide +kernel, rfl, wd_763, ⟨by decide +kernel, by decide +kernel, by decide +kernel⟩, by decide⟩
theorem kR_key : se_mok (vG sc) mR_key 2 := ⟨by decide +kernel, rfl, wd_768, ⟨by decide +kernel, by decide +kernel, by decide +kernel⟩, by decide⟩
theorem kR_cost : se_mok (vG sc) mR_cost 2 := ⟨by decide +kernel, rfl, wd_772, ⟨by decide +kernel, by decide +kernel, by decide +kernel⟩, by decide⟩
theorem kR_skipped : se_mok (vG sc) mR_skipped 1 := ⟨by decide +kernel, rfl, wd_777, ⟨by decide +kernel, by decide +kernel, by decide +kernel⟩, by decide⟩
theorem kR_tick : se_mok (vG sc) mR_tick 1 := ⟨by decide +kernel, rfl, wd_781, ⟨by decide +kernel, by decide +kernel, by decide +kernel⟩, by decide⟩
theorem kR_vehicleAt : se_mok (vG sc) mR_vehicleAt 2 := ⟨by decide +kernel, rfl, wd_785, ⟨by decide +kernel, by decide +kernel, by decide +kernel⟩, by decide⟩
/-- what is known of an exception that the class makes: its class entry, its constructor's entry -/
def vEx (ik ic : Nat) (E : String) : Prop := Cond.classLink "VehicleChecks" ik E ∈ vW ∧ Cond.initialized E ∈ vW ∧ Bundle.fit E = true ∧ ∀ w ∈ vx_atS "VehicleChecks" ic E ["java/lang/RuntimeException", "java/lang/Exception"], w ∈ vW ∨ (w ∈ vN1 ∧ w.onTables = true)
theorem vth {d : Nat} {M : se_M} {pc : Nat} {L : List (Option Value)} {st : List Value} {h : se_H} {C S : Nat} {Φ : se_O → se_H → Prop} {ik ic is : Nat} {E text : String} (hE : vEx ik ic E) (hM : M.1.cls = "VehicleChecks") (hh : M.2.2.2.2 = []) (hstr : ("VehicleChecks", is, text) ∈ vS)
    (d0 : decode M.2.1 pc = .ok (.new ik, 3)) (d3 : decode M.2.1 (pc + 3) = .ok (.dup, 1)) (d4 : decode M.2.1 (pc + 4) = .ok (.ldc is, 2)) (d6 : decode M.2.1 (pc + 6) = .ok (.invokespecial ic, 3)) (d9 : decode M.2.1 (pc + 9) = .ok (.athrow, 1))
    (h8 : (st.map fun v => v.category).sum ≤ 8) (hd : 6 ≤ d) (hC : 1 ≤ C) (hS : 6 ≤ S) (hΦ : Φ (.inr E) h) : se_W (vG sc) l d M pc L st h C S Φ := by
  refine se_throwS (names := ["java/lang/RuntimeException", "java/lang/Exception"]) (text := text) (vok sc) d0 d3 d4 d6 d9 hE.2.2.1 (by decide +kernel) (by rw [hM]; exact hE.1) hE.2.1 (by rw [hM]; exact hstr) (by rw [hM]; exact fun w hw => (hE.2.2.2 w hw).imp id (fun q => ⟨List.mem_append_left _ q.1, q.2⟩)) ⟨by show 2 + 4 ≤ d; omega, by decide⟩ h8 hh hC hS hΦ
theorem exIllegalArgumentException : vEx 114 118 "java/lang/IllegalArgumentException" := ⟨wd_96, wd_7, by decide +kernel, at_IllegalArgumentException⟩
theorem exIndexOutOfBoundsException : vEx 230 234 "java/lang/IndexOutOfBoundsException" := ⟨wd_261, wd_10, by decide +kernel, at_IndexOutOfBoundsException⟩
theorem exIllegalStateException : vEx 124 128 "java/lang/IllegalStateException" := ⟨wd_292, wd_11, by decide +kernel, at_IllegalStateException⟩
theorem exUnsupportedOperationException : vEx 40 44 "java/lang/UnsupportedOperationException" := ⟨wd_165, wd_8, by decide +kernel, at_UnsupportedOperationException⟩
end BASE
end
section
/-! arrays at a place that is a natural number; small numbers -/
section MORE
variable {G : se_G} {l : Launch} {d : Nat} {M : se_M} {pc : Nat} {L : List (Option Value)} {st : List Value} {h : se_H} {C S : Nat} {Φ : se_O → se_H → Prop}
theorem se_ialdN (t0 : Nat) {a n j : Nat} {f : Nat → Int32} (hg : decode M.2.1 pc = .ok (.iaload, 1)) (ht : G.2.2.1[t0]? = some .int) (ha : h[a]? = some (.inl (.int, (n, .inl f)))) (hj : j < n) (hn : n < 2 ^ 31) (kk : se_W G l d M (pc + 1) L (.int (f j) :: st) h C S Φ) : se_W G l d M pc L (.int (nI j) :: .ref a :: st) h C S Φ := by
  refine se_iald t0 hg ht ha (vp_in_nI hj hn) ?_
  rw [nI_clamp (Nat.lt_trans hj hn)]
  exact kk
theorem se_zaldN (t0 : Nat) {a n j : Nat} {f : Nat → Int32} (hg : decode M.2.1 pc = .ok (.baload, 1)) (ht : G.2.2.1[t0]? = some .boolean) (ha : h[a]? = some (.inl (.boolean, (n, .inl f)))) (hj : j < n) (hn : n < 2 ^ 31) (kk : se_W G l d M (pc + 1) L (.int (f j) :: st) h C S Φ) : se_W G l d M pc L (.int (nI j) :: .ref a :: st) h C S Φ := by
  refine se_zald t0 hg ht ha (vp_in_nI hj hn) ?_
  rw [nI_clamp (Nat.lt_trans hj hn)]
  exact kk
theorem se_laldN (t0 : Nat) {a n j : Nat} {f : Nat → Int64} (hg : decode M.2.1 pc = .ok (.laload, 1)) (ht : G.2.2.1[t0]? = some .long) (ha : h[a]? = some (.inl (.long, (n, .inr (.inl f))))) (hj : j < n) (hn : n < 2 ^ 31) (kk : se_W G l d M (pc + 1) L (.long (f j) :: st) h C S Φ) : se_W G l d M pc L (.int (nI j) :: .ref a :: st) h C S Φ := by
  refine se_lald t0 hg ht ha (vp_in_nI hj hn) ?_
  rw [nI_clamp (Nat.lt_trans hj hn)]
  exact kk
theorem se_aaldN {C0 : String} (t0 : Nat) {a n j : Nat} {f : Nat → Option Nat} (hg : decode M.2.1 pc = .ok (.aaload, 1)) (ht : G.2.2.1[t0]? = some (.object C0)) (ha : h[a]? = some (.inl (.object C0, (n, .inr (.inr (.inr (.inr f))))))) (hj : j < n) (hn : n < 2 ^ 31) (r : Option Nat) (hr : f j = r) (kk : se_W G l d M (pc + 1) L (va_rf r :: st) h C S Φ) : se_W G l d M pc L (.int (nI j) :: .ref a :: st) h C S Φ := by
  refine se_aald t0 hg ht ha (vp_in_nI hj hn) ?_
  rw [nI_clamp (Nat.lt_trans hj hn), hr]
  exact kk
theorem se_iastN (t0 : Nat) {a n j : Nat} {f : Nat → Int32} {x : Int32} (hg : decode M.2.1 pc = .ok (.iastore, 1)) (ht : G.2.2.1[t0]? = some .int) (ha : h[a]? = some (.inl (.int, (n, .inl f)))) (hj : j < n) (hn : n < 2 ^ 31) (kk : se_W G l d M (pc + 1) L st (h.set a (.inl (.int, (n, .inl (upd f j x))))) C S Φ) : se_W G l d M pc L (.int x :: .int (nI j) :: .ref a :: st) h C S Φ := by
  refine se_iast t0 hg ht ha (vp_in_nI hj hn) ?_
  rw [nI_clamp (Nat.lt_trans hj hn)]
  exact kk
theorem vp_nar01 {x : Int32} (hx : x = 0 ∨ x = 1) : vp_nar .boolean x = x := by rcases hx with rfl | rfl <;> decide
theorem se_zastN (t0 : Nat) {a n j : Nat} {f : Nat → Int32} {x : Int32} (hg : decode M.2.1 pc = .ok (.bastore, 1)) (ht : G.2.2.1[t0]? = some .boolean) (ha : h[a]? = some (.inl (.boolean, (n, .inl f)))) (hj : j < n) (hn : n < 2 ^ 31) (hx : x = 0 ∨ x = 1) (kk : se_W G l d M (pc + 1) L st (h.set a (.inl (.boolean, (n, .inl (upd f j x))))) C S Φ) : se_W G l d M pc L (.int x :: .int (nI j) :: .ref a :: st) h C S Φ := by
  refine se_zast t0 hg ht ha (vp_in_nI hj hn) ?_
  rw [nI_clamp (Nat.lt_trans hj hn), vp_nar01 hx]
  exact kk
theorem se_lastN (t0 : Nat) {a n j : Nat} {f : Nat → Int64} {x : Int64} (hg : decode M.2.1 pc = .ok (.lastore, 1)) (ht : G.2.2.1[t0]? = some .long) (ha : h[a]? = some (.inl (.long, (n, .inr (.inl f))))) (hj : j < n) (hn : n < 2 ^ 31) (kk : se_W G l d M (pc + 1) L st (h.set a (.inl (.long, (n, .inr (.inl (vp_updL f j x)))))) C S Φ) : se_W G l d M pc L (.long x :: .int (nI j) :: .ref a :: st) h C S Φ := by
  refine se_last t0 hg ht ha (vp_in_nI hj hn) ?_
  rw [nI_clamp (Nat.lt_trans hj hn)]
  exact kk
theorem se_aastN {C0 : String} {T : u_T} {N ci : Nat} (t0 : Nat) {a n v j : Nat} {f : Nat → Option Nat} {vs : List Value} (hg : decode M.2.1 pc = .ok (.aastore, 1)) (ht : G.2.2.1[t0]? = some (.object C0)) (hc : G.1[ci]? = some (C0, T, N)) (ha : h[a]? = some (.inl (.object C0, (n, .inr (.inr (.inr (.inr f))))))) (hv : h[v]? = some (.inr (ci, vs))) (hj : j < n) (hn : n < 2 ^ 31) (kk : se_W G l d M (pc + 1) L st (h.set a (.inl (.object C0, (n, .inr (.inr (.inr (.inr (va_up f j (some v))))))))) C S Φ) : se_W G l d M pc L (.ref v :: .int (nI j) :: .ref a :: st) h C S Φ := by
  refine se_aast t0 hg ht hc ha hv (vp_in_nI hj hn) ?_
  rw [nI_clamp (Nat.lt_trans hj hn)]
  exact kk
end MORE
end
section
/-! THE STATE, one for the class and the reference: S tag a b.
0 listed, 1 low, 2 high, 3 grade, 4 every, 5 needed (kind, item or thing); 6 things, 7 value, 8 hour, 9 person, 10 uses then (vehicle, thing or item); 11 kind, 12 spare, 13 told, 14 off, 15 kilometres, 16 lower told, 17 uses, 18 fuel, 19 costs, 20 key (vehicle, 0); 21 damage's vehicle, 22 its grade, 23 its proof (0, damage); 24 vehicles, 25 damages, 26 the hour (0, 0) -/
abbrev st_S : Type := Nat → Nat → Nat → Int32
def st_up (S : st_S) (t a b : Nat) (x : Int32) : st_S := fun t' a' b' => if t' = t ∧ a' = a ∧ b' = b then x else S t' a' b'
def st_nv (S : st_S) : Nat := (S 24 0 0).toNatClampNeg
def st_nd (S : st_S) : Nat := (S 25 0 0).toNatClampNeg
def st_kd (S : st_S) (v : Nat) : Nat := (S 11 v 0).toNatClampNeg
def st_b (b : Bool) : Int32 := if b then 1 else 0
theorem st_b01 (b : Bool) : st_b b = 0 ∨ st_b b = 1 := by cases b <;> simp [st_b]
/-- where the class's things lie: the object at o, the kinds from o + 2 on, each with its six arrays; a vehicle with its five arrays -/
def st_K (o k : Nat) : Nat := o + 2 + 7 * k
def is_K (h : se_H) (a : Nat) (S : st_S) (k : Nat) : Prop :=
  h[a]? = some (.inr (0, [.ref (a + 1), .ref (a + 2), .ref (a + 3), .ref (a + 4), .ref (a + 5), .ref (a + 6)])) ∧ h[a + 1]? = some (.inl (.boolean, (10, .inl (S 0 k)))) ∧ h[a + 2]? = some (.inl (.int, (10, .inl (S 1 k)))) ∧ h[a + 3]? = some (.inl (.int, (10, .inl (S 2 k)))) ∧ h[a + 4]? = some (.inl (.int, (10, .inl (S 3 k)))) ∧ h[a + 5]? = some (.inl (.int, (10, .inl (S 4 k)))) ∧ h[a + 6]? = some (.inl (.int, (10, .inl (S 5 k))))
def is_V (h : se_H) (a ka : Nat) (S : st_S) (v : Nat) : Prop :=
  h[a]? = some (.inr (1, [.int (nI v), .ref ka, .int (S 12 v 0), .int (S 13 v 0), .ref (a + 1), .ref (a + 2), .ref (a + 3), .ref (a + 4), .ref (a + 5), .int (S 14 v 0), .int (S 15 v 0), .int (S 16 v 0), .int (S 17 v 0), .int (S 18 v 0), .int (S 19 v 0), .int (S 20 v 0)])) ∧ h[a + 1]? = some (.inl (.int, (10, .inl (S 6 v)))) ∧ h[a + 2]? = some (.inl (.int, (10, .inl (S 7 v)))) ∧ h[a + 3]? = some (.inl (.int, (10, .inl (S 8 v)))) ∧ h[a + 4]? = some (.inl (.int, (10, .inl (S 9 v)))) ∧ h[a + 5]? = some (.inl (.int, (10, .inl (S 10 v))))
/-- the class's object -/
def is_C (o : Nat) (β : Nat → Nat) (S : st_S) (h : se_H) : Prop :=
  h[o]? = some (.inr (2, [.ref (o + 1), .ref (o + 37), .ref (o + 38), .ref (o + 39), .ref (o + 40), .int (S 24 0 0), .int (S 25 0 0), .int (S 26 0 0)])) ∧
  h[o + 1]? = some (.inl (.object "VehicleChecks$Kind", (5, .inr (.inr (.inr (.inr (fun k => if k < 5 then some (st_K o k) else none))))))) ∧
  h[o + 37]? = some (.inl (.object "VehicleChecks$Vehicle", (20, .inr (.inr (.inr (.inr (fun v => if v < st_nv S then some (β v) else none))))))) ∧
  h[o + 38]? = some (.inl (.int, (100, .inl (S 21 0)))) ∧ h[o + 39]? = some (.inl (.int, (100, .inl (S 22 0)))) ∧ h[o + 40]? = some (.inl (.int, (100, .inl (S 23 0)))) ∧
  (∀ k, k < 5 → is_K h (st_K o k) S k) ∧ (∀ v, v < st_nv S → is_V h (β v) (st_K o (st_kd S v)) S v) ∧
  (∀ v, v < st_nv S → o + 41 ≤ β v) ∧ ∀ v w, v < w → w < st_nv S → β v + 6 ≤ β w
/-- what is told of an item -/
def st_wi (S : st_S) (k j : Nat) (x : Int32) : Bool := decide (S 1 k j ≤ x) && decide (x ≤ S 2 k j)
def st_fa (S : st_S) (k v j : Nat) : Bool := !decide (S 0 k j = 0) && (!decide (S 8 v j = -1) && !st_wi S k j (S 7 v j))
def st_sk (S : st_S) (k v j : Nat) (hr : Int32) : Bool := !decide (S 0 k j = 0) && (if S 4 k j = 0 then !decide (S 17 v 0 = S 10 v j) else decide (S 4 k j ≤ hr - (if S 8 v j = -1 then S 13 v 0 else S 8 v j)))
theorem st_eq {h : se_H} {a : Nat} {x e : se_E} (ha : h[a]? = some e) : (h.set a x)[a]? = some x := by
  rw [List.getElem?_set, if_pos rfl, if_pos (List.getElem?_eq_some_iff.mp ha).1]
theorem st_ne {h : se_H} {a b : Nat} {x e : se_E} (hb : h[b]? = some e) (hn : a ≠ b) : (h.set a x)[b]? = some e := by
  rw [List.getElem?_set, if_neg hn]; exact hb
/-- an int as an index: too small, too large, or a natural number below n -/
theorem st_ix (x : Int32) {n : Nat} (hn : n < 2 ^ 31) : (x < 0 ∨ nI n ≤ x) ∨ ∃ j, j < n ∧ x = nI j := by
  rcases pk_ix x hn with h | h | h
  · exact Or.inl (Or.inl h)
  · exact Or.inl (Or.inr h)
  · exact Or.inr h
theorem st_b0 (b : Bool) : st_b b = 0 ↔ b = false := by cases b <;> simp [st_b]
/-- one reason's weight -/
def st_w1 (S : st_S) (k v : Nat) (hr : Int32) : Nat → Int32
  | 0 => 0
  | n + 1 => (if st_sk S k v n hr then (if st_fa S k v n then st_w1 S k v hr n + (S 3 k n - 1) else st_w1 S k v hr n) + (S 3 k n - 1) else (if st_fa S k v n then st_w1 S k v hr n + (S 3 k n - 1) else st_w1 S k v hr n))
/-- an open damage of a vehicle -/
def st_od (S : st_S) (v d : Nat) : Bool := decide (S 21 0 d = nI v) && decide (S 23 0 d = 0)
def st_w2 (S : st_S) (v : Nat) : Nat → Int32
  | 0 => 0
  | n + 1 => if st_od S v n then st_w2 S v n + (S 22 0 n - 1) else st_w2 S v n
def st_n2 (S : st_S) (v : Nat) : Nat → Int32
  | 0 => 0
  | n + 1 => if st_od S v n then st_n2 S v n + 1 else st_n2 S v n
/-- whether a vehicle runs, as the class reckons it -/
def st_ru (S : st_S) (k v : Nat) : Bool := decide (S 14 v 0 = 0) && decide (st_w1 S k v (S 26 0 0) 10 + st_w2 S v (st_nd S) < 2)
/-- the b-th reason among the damages from e on, n of them -/
def st_dr (S : st_S) (v : Nat) : Nat → Nat → Int32 → Int32
  | 0, _, _ => -1
  | n + 1, e, b => if st_od S v e then (if b = 0 then 10000 * S 22 0 e + 1000 + nI e else st_dr S v n (e + 1) (b + (-1))) else st_dr S v n (e + 1) b
/-- the first thing that a vehicle lacks, of n from t on -/
def st_ll (S : st_S) (k v : Nat) : Nat → Nat → Int32
  | 0, _ => -1
  | n + 1, t => if S 6 v t < S 5 k t then nI t else st_ll S k v n (t + 1)
end
section
section LEAF
variable {sc : List (Nat × Nat × (Nat → Int32))} {l : Launch} {d : Nat} {h : se_H}
set_option maxRecDepth 100000 in
theorem c_C_checkItem {i : Int32} (hd : 6 ≤ d) : se_W (vG sc) l d mC_checkItem 0 (se_ent 1 [.int i]) [] h 1 6 (fun o h' => h' = h ∧ ((o = .inl none ∧ (¬ i < 0 ∧ i < 10)) ∨ (o = .inr "java/lang/IllegalArgumentException" ∧ (i < 0 ∨ ¬ i < 10)))) := by
  show se_W (vG sc) l d mC_checkItem 0 [some (.int i)] [] h 1 6 _
  refine se_iload_n (pc := 0) rfl dC_checkItem_0 ?_
  refine se_if_lt (pc := 1) (tgt := 10) dC_checkItem_1 (by decide) (fun q1 => ?_) (fun q1 => ?_)
  · exact vth (pc := 10) (text := "no such item") exIllegalArgumentException rfl rfl (by decide +kernel) dC_checkItem_10 dC_checkItem_13 dC_checkItem_14 dC_checkItem_16 dC_checkItem_19 (Nat.le_of_ble_eq_true rfl) (by omega) (by omega) (by omega) ⟨rfl, by simp [*]⟩
  · refine se_iload_n (pc := 4) rfl dC_checkItem_4 ?_
    refine se_bipush (pc := 5) 10 (by decide) dC_checkItem_5 ?_
    refine se_icmp_lt (pc := 7) (tgt := 20) dC_checkItem_7 (by decide) (fun q2 => ?_) (fun q2 => ?_)
    · exact se_vret (pc := 20) dC_checkItem_20 rfl ⟨rfl, by simp [*]⟩
    · exact vth (pc := 10) (text := "no such item") exIllegalArgumentException rfl rfl (by decide +kernel) dC_checkItem_10 dC_checkItem_13 dC_checkItem_14 dC_checkItem_16 dC_checkItem_19 (Nat.le_of_ble_eq_true rfl) (by omega) (by omega) (by omega) ⟨rfl, by simp [*]⟩
set_option maxRecDepth 100000 in
theorem c_C_checkThing {i : Int32} (hd : 6 ≤ d) : se_W (vG sc) l d mC_checkThing 0 (se_ent 1 [.int i]) [] h 1 6 (fun o h' => h' = h ∧ ((o = .inl none ∧ (¬ i < 0 ∧ i < 10)) ∨ (o = .inr "java/lang/IllegalArgumentException" ∧ (i < 0 ∨ ¬ i < 10)))) := by
  show se_W (vG sc) l d mC_checkThing 0 [some (.int i)] [] h 1 6 _
  refine se_iload_n (pc := 0) rfl dC_checkThing_0 ?_
  refine se_if_lt (pc := 1) (tgt := 10) dC_checkThing_1 (by decide) (fun q1 => ?_) (fun q1 => ?_)
  · exact vth (pc := 10) (text := "no such thing") exIllegalArgumentException rfl rfl (by decide +kernel) dC_checkThing_10 dC_checkThing_13 dC_checkThing_14 dC_checkThing_16 dC_checkThing_19 (Nat.le_of_ble_eq_true rfl) (by omega) (by omega) (by omega) ⟨rfl, by simp [*]⟩
  · refine se_iload_n (pc := 4) rfl dC_checkThing_4 ?_
    refine se_bipush (pc := 5) 10 (by decide) dC_checkThing_5 ?_
    refine se_icmp_lt (pc := 7) (tgt := 20) dC_checkThing_7 (by decide) (fun q2 => ?_) (fun q2 => ?_)
    · exact se_vret (pc := 20) dC_checkThing_20 rfl ⟨rfl, by simp [*]⟩
    · exact vth (pc := 10) (text := "no such thing") exIllegalArgumentException rfl rfl (by decide +kernel) dC_checkThing_10 dC_checkThing_13 dC_checkThing_14 dC_checkThing_16 dC_checkThing_19 (Nat.le_of_ble_eq_true rfl) (by omega) (by omega) (by omega) ⟨rfl, by simp [*]⟩
set_option maxRecDepth 100000 in
theorem c_C_checkPerson {i : Int32} (hd : 6 ≤ d) : se_W (vG sc) l d mC_checkPerson 0 (se_ent 1 [.int i]) [] h 1 6 (fun o h' => h' = h ∧ ((o = .inl none ∧ (¬ i < 0 ∧ i < 40)) ∨ (o = .inr "java/lang/IllegalArgumentException" ∧ (i < 0 ∨ ¬ i < 40)))) := by
  show se_W (vG sc) l d mC_checkPerson 0 [some (.int i)] [] h 1 6 _
  refine se_iload_n (pc := 0) rfl dC_checkPerson_0 ?_
  refine se_if_lt (pc := 1) (tgt := 10) dC_checkPerson_1 (by decide) (fun q1 => ?_) (fun q1 => ?_)
  · exact vth (pc := 10) (text := "no such person") exIllegalArgumentException rfl rfl (by decide +kernel) dC_checkPerson_10 dC_checkPerson_13 dC_checkPerson_14 dC_checkPerson_16 dC_checkPerson_19 (Nat.le_of_ble_eq_true rfl) (by omega) (by omega) (by omega) ⟨rfl, by simp [*]⟩
  · refine se_iload_n (pc := 4) rfl dC_checkPerson_4 ?_
    refine se_bipush (pc := 5) 40 (by decide) dC_checkPerson_5 ?_
    refine se_icmp_lt (pc := 7) (tgt := 20) dC_checkPerson_7 (by decide) (fun q2 => ?_) (fun q2 => ?_)
    · exact se_vret (pc := 20) dC_checkPerson_20 rfl ⟨rfl, by simp [*]⟩
    · exact vth (pc := 10) (text := "no such person") exIllegalArgumentException rfl rfl (by decide +kernel) dC_checkPerson_10 dC_checkPerson_13 dC_checkPerson_14 dC_checkPerson_16 dC_checkPerson_19 (Nat.le_of_ble_eq_true rfl) (by omega) (by omega) (by omega) ⟨rfl, by simp [*]⟩
set_option maxRecDepth 100000 in
theorem c_C_checkRange {x a b : Int32} (hd : 6 ≤ d) : se_W (vG sc) l d mC_checkRange 0 (se_ent 3 [.int x, .int a, .int b]) [] h 1 6 (fun o h' => h' = h ∧ ((o = .inl none ∧ (¬ x < a ∧ x ≤ b)) ∨ (o = .inr "java/lang/IndexOutOfBoundsException" ∧ (x < a ∨ ¬ x ≤ b)))) := by
  show se_W (vG sc) l d mC_checkRange 0 [some (.int x), some (.int a), some (.int b)] [] h 1 6 _
  refine se_iload_n (pc := 0) rfl dC_checkRange_0 ?_
  refine se_iload_n (pc := 1) rfl dC_checkRange_1 ?_
  refine se_icmp_lt (pc := 2) (tgt := 10) dC_checkRange_2 (by decide) (fun q1 => ?_) (fun q1 => ?_)
  · exact vth (pc := 10) (text := "outside of its range") exIndexOutOfBoundsException rfl rfl (by decide +kernel) dC_checkRange_10 dC_checkRange_13 dC_checkRange_14 dC_checkRange_16 dC_checkRange_19 (Nat.le_of_ble_eq_true rfl) (by omega) (by omega) (by omega) ⟨rfl, by simp [*]⟩
  · refine se_iload_n (pc := 5) rfl dC_checkRange_5 ?_
    refine se_iload_n (pc := 6) rfl dC_checkRange_6 ?_
    refine se_icmp_le (pc := 7) (tgt := 20) dC_checkRange_7 (by decide) (fun q2 => ?_) (fun q2 => ?_)
    · exact se_vret (pc := 20) dC_checkRange_20 rfl ⟨rfl, by simp [*]⟩
    · exact vth (pc := 10) (text := "outside of its range") exIndexOutOfBoundsException rfl rfl (by decide +kernel) dC_checkRange_10 dC_checkRange_13 dC_checkRange_14 dC_checkRange_16 dC_checkRange_19 (Nat.le_of_ble_eq_true rfl) (by omega) (by omega) (by omega) ⟨rfl, by simp [*]⟩
set_option maxRecDepth 100000 in
theorem c_C_checkPlace {i : Int32} (hd : 6 ≤ d) : se_W (vG sc) l d mC_checkPlace 0 (se_ent 1 [.int i]) [] h 1 6 (fun o h' => h' = h ∧ ((o = .inl none ∧ 0 ≤ i) ∨ (o = .inr "java/lang/IndexOutOfBoundsException" ∧ ¬ 0 ≤ i))) := by
  show se_W (vG sc) l d mC_checkPlace 0 [some (.int i)] [] h 1 6 _
  refine se_iload_n (pc := 0) rfl dC_checkPlace_0 ?_
  refine se_if_ge (pc := 1) (tgt := 14) dC_checkPlace_1 (by decide) (fun q1 => ?_) (fun q1 => ?_)
  · exact se_vret (pc := 14) dC_checkPlace_14 rfl ⟨rfl, by simp [*]⟩
  · exact vth (pc := 4) (text := "the place is below 0") exIndexOutOfBoundsException rfl rfl (by decide +kernel) dC_checkPlace_4 dC_checkPlace_7 dC_checkPlace_8 dC_checkPlace_10 dC_checkPlace_13 (Nat.le_of_ble_eq_true rfl) (by omega) (by omega) (by omega) ⟨rfl, by simp [*]⟩
set_option maxRecDepth 100000 in
theorem c_C_checkRoom {x y z : Int32} (hd : 6 ≤ d) : se_W (vG sc) l d mC_checkRoom 0 (se_ent 3 [.int x, .int y, .int z]) [] h 1 6 (fun o h' => h' = h ∧ ((o = .inl none ∧ y ≤ z - x) ∨ (o = .inr "java/lang/UnsupportedOperationException" ∧ ¬ y ≤ z - x))) := by
  show se_W (vG sc) l d mC_checkRoom 0 [some (.int x), some (.int y), some (.int z)] [] h 1 6 _
  refine se_iload_n (pc := 0) rfl dC_checkRoom_0 ?_
  refine se_iload_n (pc := 1) rfl dC_checkRoom_1 ?_
  refine se_iload_n (pc := 2) rfl dC_checkRoom_2 ?_
  refine se_isub (pc := 3) dC_checkRoom_3 ?_
  refine se_icmp_le (pc := 4) (tgt := 17) dC_checkRoom_4 (by decide) (fun q1 => ?_) (fun q1 => ?_)
  · exact se_vret (pc := 17) dC_checkRoom_17 rfl ⟨rfl, by simp [*]⟩
  · exact vth (pc := 7) (text := "no room for so much more") exUnsupportedOperationException rfl rfl (by decide +kernel) dC_checkRoom_7 dC_checkRoom_10 dC_checkRoom_11 dC_checkRoom_13 dC_checkRoom_16 (Nat.le_of_ble_eq_true rfl) (by omega) (by omega) (by omega) ⟨rfl, by simp [*]⟩
set_option maxRecDepth 100000 in
theorem c_C_checkListed {a k j : Nat} {S : st_S} (hd : 6 ≤ d) (hK : is_K h a S k) (hj : j < 10) : se_W (vG sc) l d mC_checkListed 0 (se_ent 2 [.ref a, .int (nI j)]) [] h 1 6 (fun o h' => h' = h ∧ ((o = .inl none ∧ ¬ S 0 k j = 0) ∨ (o = .inr "java/lang/IllegalStateException" ∧ S 0 k j = 0))) := by
  show se_W (vG sc) l d mC_checkListed 0 [some (.ref a), some (.int (nI j))] [] h 1 6 _
  refine se_aload_n (pc := 0) rfl dC_checkListed_0 ?_
  refine se_getf (pc := 1) clK 0 dC_checkListed_1 wd_30 rfl (by decide) hK.1 rfl ?_
  refine se_iload_n (pc := 4) rfl dC_checkListed_4 ?_
  refine se_zaldN (pc := 5) 1 dC_checkListed_5 rfl hK.2.1 hj (by decide) ?_
  refine se_if_ne (pc := 6) (tgt := 19) dC_checkListed_6 (by decide) (fun q1 => ?_) (fun q1 => ?_)
  · exact se_vret (pc := 19) dC_checkListed_19 rfl ⟨rfl, by simp [*]⟩
  · exact vth (pc := 9) (text := "the item is not on the list") exIllegalStateException rfl rfl (by decide +kernel) dC_checkListed_9 dC_checkListed_12 dC_checkListed_13 dC_checkListed_15 dC_checkListed_18 (Nat.le_of_ble_eq_true rfl) (by omega) (by omega) (by omega) ⟨rfl, by simp [*]⟩
set_option maxRecDepth 100000 in
theorem c_C_oneOrZero {x : Int32} : se_W (vG sc) l d mC_oneOrZero 0 (se_ent 1 [.int x]) [] h 0 0 (fun o h' => h' = h ∧ o = .inl (some (.int (if x = 0 then 0 else 1)))) := by
  show se_W (vG sc) l d mC_oneOrZero 0 [some (.int x)] [] h 0 0 _
  refine se_iload_n (pc := 0) rfl dC_oneOrZero_0 ?_
  refine se_if_eq (pc := 1) (tgt := 8) dC_oneOrZero_1 (by decide) (fun q1 => ?_) (fun q1 => ?_)
  · refine se_iconst (pc := 8) 0 (by decide) dC_oneOrZero_8 ?_
    exact se_iret (pc := 9) dC_oneOrZero_9 rfl ⟨rfl, by simp [*]⟩
  · refine se_iconst (pc := 4) 1 (by decide) dC_oneOrZero_4 ?_
    refine se_goto (pc := 5) (tgt := 9) dC_oneOrZero_5 (by decide) ?_
    exact se_iret (pc := 9) dC_oneOrZero_9 rfl ⟨rfl, by simp [*]⟩
set_option maxRecDepth 100000 in
theorem c_K_isWithin {a k j : Nat} {S : st_S} {x : Int32} (hK : is_K h a S k) (hj : j < 10) : se_W (vG sc) l d mK_isWithin 0 (se_ent 3 [.ref a, .int (nI j), .int x]) [] h 0 0 (fun o h' => h' = h ∧ o = .inl (some (.int (st_b (st_wi S k j x))))) := by
  show se_W (vG sc) l d mK_isWithin 0 [some (.ref a), some (.int (nI j)), some (.int x)] [] h 0 0 _
  refine se_iload_n (pc := 0) rfl dK_isWithin_0 ?_
  refine se_aload_n (pc := 1) rfl dK_isWithin_1 ?_
  refine se_getf (pc := 2) clK 1 dK_isWithin_2 wd_31 rfl (by decide) hK.1 rfl ?_
  refine se_iload_n (pc := 5) rfl dK_isWithin_5 ?_
  refine se_ialdN (pc := 6) 0 dK_isWithin_6 rfl hK.2.2.1 hj (by decide) ?_
  refine se_icmp_lt (pc := 7) (tgt := 24) dK_isWithin_7 (by decide) (fun q1 => ?_) (fun q1 => ?_)
  · refine se_iconst (pc := 24) 0 (by decide) dK_isWithin_24 ?_
    exact se_zret (pc := 25) dK_isWithin_25 rfl (by decide) ⟨rfl, by first | (simp_all [st_b, st_wi]; done) | (simp_all [st_b, st_wi, Int32.le_iff_toInt_le, Int32.lt_iff_toInt_lt]; omega)⟩
  · refine se_iload_n (pc := 10) rfl dK_isWithin_10 ?_
    refine se_aload_n (pc := 11) rfl dK_isWithin_11 ?_
    refine se_getf (pc := 12) clK 2 dK_isWithin_12 wd_32 rfl (by decide) hK.1 rfl ?_
    refine se_iload_n (pc := 15) rfl dK_isWithin_15 ?_
    refine se_ialdN (pc := 16) 0 dK_isWithin_16 rfl hK.2.2.2.1 hj (by decide) ?_
    refine se_icmp_gt (pc := 17) (tgt := 24) dK_isWithin_17 (by decide) (fun q2 => ?_) (fun q2 => ?_)
    · refine se_iconst (pc := 24) 0 (by decide) dK_isWithin_24 ?_
      exact se_zret (pc := 25) dK_isWithin_25 rfl (by decide) ⟨rfl, by first | (simp_all [st_b, st_wi]; done) | (simp_all [st_b, st_wi, Int32.le_iff_toInt_le, Int32.lt_iff_toInt_lt]; omega)⟩
    · refine se_iconst (pc := 20) 1 (by decide) dK_isWithin_20 ?_
      refine se_goto (pc := 21) (tgt := 25) dK_isWithin_21 (by decide) ?_
      exact se_zret (pc := 25) dK_isWithin_25 rfl (by decide) ⟨rfl, by first | (simp_all [st_b, st_wi]; done) | (simp_all [st_b, st_wi, Int32.le_iff_toInt_le, Int32.lt_iff_toInt_lt]; omega)⟩
end LEAF
end
section
section LEAF2
variable {sc : List (Nat × Nat × (Nat → Int32))} {l : Launch} {d : Nat} {h : se_H}
set_option maxHeartbeats 1000000 in
set_option maxRecDepth 100000 in
theorem c_V_hasFailed {a b k v j : Nat} {S : st_S} (hd : 1 ≤ d) (hV : is_V h a b S v) (hK : is_K h b S k) (hj : j < 10) : se_W (vG sc) l d mV_hasFailed 0 (se_ent 2 [.ref a, .int (nI j)]) [] h 0 0 (fun o h' => h' = h ∧ o = .inl (some (.int (st_b (st_fa S k v j))))) := by
  obtain ⟨d, rfl⟩ : ∃ e, d = e + 1 := ⟨d - 1, by omega⟩
  show se_W (vG sc) l (d + 1) mV_hasFailed 0 [some (.ref a), some (.int (nI j))] [] h 0 0 _
  refine se_aload_n (pc := 0) rfl dV_hasFailed_0 ?_
  refine se_getf (pc := 1) clV 1 dV_hasFailed_1 wd_188 rfl (by decide) hV.1 rfl ?_
  refine se_getf (pc := 4) clK 0 dV_hasFailed_4 wd_29 rfl (by decide) hK.1 rfl ?_
  refine se_iload_n (pc := 7) rfl dV_hasFailed_7 ?_
  refine se_zaldN (pc := 8) 1 dV_hasFailed_8 rfl hK.2.1 hj (by decide) ?_
  refine se_if_eq (pc := 9) (tgt := 43) dV_hasFailed_9 (by decide) (fun q1 => ?_) (fun q1 => ?_)
  · refine se_iconst (pc := 43) 0 (by decide) dV_hasFailed_43 ?_
    exact se_zret (pc := 44) dV_hasFailed_44 rfl (by decide) ⟨rfl, by simp_all [st_b, st_fa]⟩
  · refine se_aload_n (pc := 12) rfl dV_hasFailed_12 ?_
    refine se_getf (pc := 13) clV 6 dV_hasFailed_13 wd_197 rfl (by decide) hV.1 rfl ?_
    refine se_iload_n (pc := 16) rfl dV_hasFailed_16 ?_
    refine se_ialdN (pc := 17) 0 dV_hasFailed_17 rfl hV.2.2.2.1 hj (by decide) ?_
    refine se_iconst (pc := 18) (-1) (by decide) dV_hasFailed_18 ?_
    refine se_icmp_eq (pc := 19) (tgt := 43) dV_hasFailed_19 (by decide) (fun q2 => ?_) (fun q2 => ?_)
    · refine se_iconst (pc := 43) 0 (by decide) dV_hasFailed_43 ?_
      exact se_zret (pc := 44) dV_hasFailed_44 rfl (by decide) ⟨rfl, by simp_all [st_b, st_fa]⟩
    · refine se_aload_n (pc := 22) rfl dV_hasFailed_22 ?_
      refine se_getf (pc := 23) clV 1 dV_hasFailed_23 wd_188 rfl (by decide) hV.1 rfl ?_
      refine se_iload_n (pc := 26) rfl dV_hasFailed_26 ?_
      refine se_aload_n (pc := 27) rfl dV_hasFailed_27 ?_
      refine se_getf (pc := 28) clV 5 dV_hasFailed_28 wd_195 rfl (by decide) hV.1 rfl ?_
      refine se_iload_n (pc := 31) rfl dV_hasFailed_31 ?_
      refine se_ialdN (pc := 32) 0 dV_hasFailed_32 rfl hV.2.2.1 hj (by decide) ?_
      refine se_invV (pc := 33) (as := [.int (nI j), .int (S 7 v j)]) (st := []) (vok sc) kK_isWithin dV_hasFailed_33 ⟨wd_348, wd_331, wd_332, wd_2⟩ rfl hK.1 rfl (Nat.le_of_ble_eq_true rfl) (Nat.le_of_ble_eq_true rfl) (c_K_isWithin hK hj) (C2 := 0) (S2 := 0) (by omega) (by omega) (fun v33 h33 _ q33 => ?_) (fun x hx => absurd hx List.not_mem_nil) (fun v33 h33 _ q33 => ?_)
      rotate_left
      · cases q33.2
      obtain ⟨rfl, q33⟩ := q33
      cases q33
      refine se_if_ne (pc := 36) (tgt := 43) dV_hasFailed_36 (by decide) (fun q3 => ?_) (fun q3 => ?_)
      · refine se_iconst (pc := 43) 0 (by decide) dV_hasFailed_43 ?_
        exact se_zret (pc := 44) dV_hasFailed_44 rfl (by decide) ⟨rfl, by simp_all [st_b, st_fa]⟩
      · refine se_iconst (pc := 39) 1 (by decide) dV_hasFailed_39 ?_
        refine se_goto (pc := 40) (tgt := 44) dV_hasFailed_40 (by decide) ?_
        exact se_zret (pc := 44) dV_hasFailed_44 rfl (by decide) ⟨rfl, by simp_all [st_b, st_fa]⟩
set_option maxHeartbeats 1000000 in
set_option maxRecDepth 100000 in
theorem c_V_hasSkipped {a b k v j : Nat} {S : st_S} {x : Int32} (hV : is_V h a b S v) (hK : is_K h b S k) (hj : j < 10) : se_W (vG sc) l d mV_hasSkipped 0 (se_ent 4 [.ref a, .int (nI j), .int x]) [] h 0 0 (fun o h' => h' = h ∧ o = .inl (some (.int (st_b (st_sk S k v j x))))) := by
  show se_W (vG sc) l d mV_hasSkipped 0 [some (.ref a), some (.int (nI j)), some (.int x), none] [] h 0 0 _
  refine se_aload_n (pc := 0) rfl dV_hasSkipped_0 ?_
  refine se_getf (pc := 1) clV 1 dV_hasSkipped_1 wd_188 rfl (by decide) hV.1 rfl ?_
  refine se_getf (pc := 4) clK 0 dV_hasSkipped_4 wd_29 rfl (by decide) hK.1 rfl ?_
  refine se_iload_n (pc := 7) rfl dV_hasSkipped_7 ?_
  refine se_zaldN (pc := 8) 1 dV_hasSkipped_8 rfl hK.2.1 hj (by decide) ?_
  refine se_if_ne (pc := 9) (tgt := 14) dV_hasSkipped_9 (by decide) (fun q1 => ?_) (fun q1 => ?_)
  · refine se_aload_n (pc := 14) rfl dV_hasSkipped_14 ?_
    refine se_getf (pc := 15) clV 1 dV_hasSkipped_15 wd_188 rfl (by decide) hV.1 rfl ?_
    refine se_getf (pc := 18) clK 4 dV_hasSkipped_18 wd_37 rfl (by decide) hK.1 rfl ?_
    refine se_iload_n (pc := 21) rfl dV_hasSkipped_21 ?_
    refine se_ialdN (pc := 22) 0 dV_hasSkipped_22 rfl hK.2.2.2.2.2.1 hj (by decide) ?_
    refine se_if_ne (pc := 23) (tgt := 45) dV_hasSkipped_23 (by decide) (fun q2 => ?_) (fun q2 => ?_)
    · refine se_aload_n (pc := 45) rfl dV_hasSkipped_45 ?_
      refine se_getf (pc := 46) clV 6 dV_hasSkipped_46 wd_197 rfl (by decide) hV.1 rfl ?_
      refine se_iload_n (pc := 49) rfl dV_hasSkipped_49 ?_
      refine se_ialdN (pc := 50) 0 dV_hasSkipped_50 rfl hV.2.2.2.1 hj (by decide) ?_
      refine se_iconst (pc := 51) (-1) (by decide) dV_hasSkipped_51 ?_
      refine se_icmp_ne (pc := 52) (tgt := 62) dV_hasSkipped_52 (by decide) (fun q3 => ?_) (fun q3 => ?_)
      · refine se_aload_n (pc := 62) rfl dV_hasSkipped_62 ?_
        refine se_getf (pc := 63) clV 6 dV_hasSkipped_63 wd_197 rfl (by decide) hV.1 rfl ?_
        refine se_iload_n (pc := 66) rfl dV_hasSkipped_66 ?_
        refine se_ialdN (pc := 67) 0 dV_hasSkipped_67 rfl hV.2.2.2.1 hj (by decide) ?_
        refine se_istore_n (pc := 68) dV_hasSkipped_68 (by decide) [some (.ref a), some (.int (nI j)), some (.int x), some (.int (S 8 v j))] rfl ?_
        refine se_iload_n (pc := 69) rfl dV_hasSkipped_69 ?_
        refine se_iload_n (pc := 70) rfl dV_hasSkipped_70 ?_
        refine se_isub (pc := 71) dV_hasSkipped_71 ?_
        refine se_aload_n (pc := 72) rfl dV_hasSkipped_72 ?_
        refine se_getf (pc := 73) clV 1 dV_hasSkipped_73 wd_188 rfl (by decide) hV.1 rfl ?_
        refine se_getf (pc := 76) clK 4 dV_hasSkipped_76 wd_37 rfl (by decide) hK.1 rfl ?_
        refine se_iload_n (pc := 79) rfl dV_hasSkipped_79 ?_
        refine se_ialdN (pc := 80) 0 dV_hasSkipped_80 rfl hK.2.2.2.2.2.1 hj (by decide) ?_
        refine se_icmp_lt (pc := 81) (tgt := 88) dV_hasSkipped_81 (by decide) (fun q4 => ?_) (fun q4 => ?_)
        · refine se_iconst (pc := 88) 0 (by decide) dV_hasSkipped_88 ?_
          exact se_zret (pc := 89) dV_hasSkipped_89 rfl (by decide) ⟨rfl, by first | (simp_all [st_b, st_sk]; done) | (simp_all [st_b, st_sk, Int32.le_iff_toInt_le, Int32.lt_iff_toInt_lt]; omega)⟩
        · refine se_iconst (pc := 84) 1 (by decide) dV_hasSkipped_84 ?_
          refine se_goto (pc := 85) (tgt := 89) dV_hasSkipped_85 (by decide) ?_
          exact se_zret (pc := 89) dV_hasSkipped_89 rfl (by decide) ⟨rfl, by first | (simp_all [st_b, st_sk]; done) | (simp_all [st_b, st_sk, Int32.le_iff_toInt_le, Int32.lt_iff_toInt_lt]; omega)⟩
      · refine se_aload_n (pc := 55) rfl dV_hasSkipped_55 ?_
        refine se_getf (pc := 56) clV 3 dV_hasSkipped_56 wd_192 rfl (by decide) hV.1 rfl ?_
        refine se_goto (pc := 59) (tgt := 68) dV_hasSkipped_59 (by decide) ?_
        refine se_istore_n (pc := 68) dV_hasSkipped_68 (by decide) [some (.ref a), some (.int (nI j)), some (.int x), some (.int (S 13 v 0))] rfl ?_
        refine se_iload_n (pc := 69) rfl dV_hasSkipped_69 ?_
        refine se_iload_n (pc := 70) rfl dV_hasSkipped_70 ?_
        refine se_isub (pc := 71) dV_hasSkipped_71 ?_
        refine se_aload_n (pc := 72) rfl dV_hasSkipped_72 ?_
        refine se_getf (pc := 73) clV 1 dV_hasSkipped_73 wd_188 rfl (by decide) hV.1 rfl ?_
        refine se_getf (pc := 76) clK 4 dV_hasSkipped_76 wd_37 rfl (by decide) hK.1 rfl ?_
        refine se_iload_n (pc := 79) rfl dV_hasSkipped_79 ?_
        refine se_ialdN (pc := 80) 0 dV_hasSkipped_80 rfl hK.2.2.2.2.2.1 hj (by decide) ?_
        refine se_icmp_lt (pc := 81) (tgt := 88) dV_hasSkipped_81 (by decide) (fun q5 => ?_) (fun q5 => ?_)
        · refine se_iconst (pc := 88) 0 (by decide) dV_hasSkipped_88 ?_
          exact se_zret (pc := 89) dV_hasSkipped_89 rfl (by decide) ⟨rfl, by first | (simp_all [st_b, st_sk]; done) | (simp_all [st_b, st_sk, Int32.le_iff_toInt_le, Int32.lt_iff_toInt_lt]; omega)⟩
        · refine se_iconst (pc := 84) 1 (by decide) dV_hasSkipped_84 ?_
          refine se_goto (pc := 85) (tgt := 89) dV_hasSkipped_85 (by decide) ?_
          exact se_zret (pc := 89) dV_hasSkipped_89 rfl (by decide) ⟨rfl, by first | (simp_all [st_b, st_sk]; done) | (simp_all [st_b, st_sk, Int32.le_iff_toInt_le, Int32.lt_iff_toInt_lt]; omega)⟩
    · refine se_aload_n (pc := 26) rfl dV_hasSkipped_26 ?_
      refine se_getf (pc := 27) clV 12 dV_hasSkipped_27 wd_207 rfl (by decide) hV.1 rfl ?_
      refine se_aload_n (pc := 30) rfl dV_hasSkipped_30 ?_
      refine se_getf (pc := 31) clV 8 dV_hasSkipped_31 wd_201 rfl (by decide) hV.1 rfl ?_
      refine se_iload_n (pc := 34) rfl dV_hasSkipped_34 ?_
      refine se_ialdN (pc := 35) 0 dV_hasSkipped_35 rfl hV.2.2.2.2.2 hj (by decide) ?_
      refine se_icmp_eq (pc := 36) (tgt := 43) dV_hasSkipped_36 (by decide) (fun q6 => ?_) (fun q6 => ?_)
      · refine se_iconst (pc := 43) 0 (by decide) dV_hasSkipped_43 ?_
        exact se_zret (pc := 44) dV_hasSkipped_44 rfl (by decide) ⟨rfl, by first | (simp_all [st_b, st_sk]; done) | (simp_all [st_b, st_sk, Int32.le_iff_toInt_le, Int32.lt_iff_toInt_lt]; omega)⟩
      · refine se_iconst (pc := 39) 1 (by decide) dV_hasSkipped_39 ?_
        refine se_goto (pc := 40) (tgt := 44) dV_hasSkipped_40 (by decide) ?_
        exact se_zret (pc := 44) dV_hasSkipped_44 rfl (by decide) ⟨rfl, by first | (simp_all [st_b, st_sk]; done) | (simp_all [st_b, st_sk, Int32.le_iff_toInt_le, Int32.lt_iff_toInt_lt]; omega)⟩
  · refine se_iconst (pc := 12) 0 (by decide) dV_hasSkipped_12 ?_
    exact se_zret (pc := 13) dV_hasSkipped_13 rfl (by decide) ⟨rfl, by first | (simp_all [st_b, st_sk]; done) | (simp_all [st_b, st_sk, Int32.le_iff_toInt_le, Int32.lt_iff_toInt_lt]; omega)⟩
set_option maxHeartbeats 1000000 in
set_option maxRecDepth 100000 in
theorem c_K_enter {a k j : Nat} {S : st_S} {x1 x2 x3 x4 : Int32} (hK : is_K h a S k) (hj : j < 10) : se_W (vG sc) l d mK_enter 0 (se_ent 6 [.ref a, .int (nI j), .int x1, .int x2, .int x3, .int x4]) [] h 0 0 (fun o h' => o = .inl none ∧ h' = ((((((h.set (a + 1) (.inl (.boolean, (10, .inl (upd (S 0 k) j 1)))))).set (a + 2) (.inl (.int, (10, .inl (upd (S 1 k) j x1))))).set (a + 3) (.inl (.int, (10, .inl (upd (S 2 k) j x2))))).set (a + 4) (.inl (.int, (10, .inl (upd (S 3 k) j x3))))).set (a + 5) (.inl (.int, (10, .inl (upd (S 4 k) j x4)))))) := by
  show se_W (vG sc) l d mK_enter 0 [some (.ref a), some (.int (nI j)), some (.int x1), some (.int x2), some (.int x3), some (.int x4)] [] h 0 0 _
  refine se_aload_n (pc := 0) rfl dK_enter_0 ?_
  refine se_getf (pc := 1) clK 0 dK_enter_1 wd_28 rfl (by decide) hK.1 rfl ?_
  refine se_iload_n (pc := 4) rfl dK_enter_4 ?_
  refine se_iconst (pc := 5) 1 (by decide) dK_enter_5 ?_
  refine se_zastN (pc := 6) 1 dK_enter_6 rfl hK.2.1 hj (by decide) (Or.inr rfl) ?_
  refine se_aload_n (pc := 7) rfl dK_enter_7 ?_
  refine se_getf (pc := 8) clK 1 dK_enter_8 wd_31 rfl (by decide) (st_ne hK.1 (by omega)) rfl ?_
  refine se_iload_n (pc := 11) rfl dK_enter_11 ?_
  refine se_iload_n (pc := 12) rfl dK_enter_12 ?_
  refine se_iastN (pc := 13) 0 dK_enter_13 rfl (st_ne hK.2.2.1 (by omega)) hj (by decide) ?_
  refine se_aload_n (pc := 14) rfl dK_enter_14 ?_
  refine se_getf (pc := 15) clK 2 dK_enter_15 wd_32 rfl (by decide) (st_ne (st_ne hK.1 (by omega)) (by omega)) rfl ?_
  refine se_iload_n (pc := 18) rfl dK_enter_18 ?_
  refine se_iload_n (pc := 19) rfl dK_enter_19 ?_
  refine se_iastN (pc := 20) 0 dK_enter_20 rfl (st_ne (st_ne hK.2.2.2.1 (by omega)) (by omega)) hj (by decide) ?_
  refine se_aload_n (pc := 21) rfl dK_enter_21 ?_
  refine se_getf (pc := 22) clK 3 dK_enter_22 wd_33 rfl (by decide) (st_ne (st_ne (st_ne hK.1 (by omega)) (by omega)) (by omega)) rfl ?_
  refine se_iload_n (pc := 25) rfl dK_enter_25 ?_
  refine se_iload (pc := 26) rfl dK_enter_26 ?_
  refine se_iastN (pc := 28) 0 dK_enter_28 rfl (st_ne (st_ne (st_ne hK.2.2.2.2.1 (by omega)) (by omega)) (by omega)) hj (by decide) ?_
  refine se_aload_n (pc := 29) rfl dK_enter_29 ?_
  refine se_getf (pc := 30) clK 4 dK_enter_30 wd_36 rfl (by decide) (st_ne (st_ne (st_ne (st_ne hK.1 (by omega)) (by omega)) (by omega)) (by omega)) rfl ?_
  refine se_iload_n (pc := 33) rfl dK_enter_33 ?_
  refine se_iload (pc := 34) rfl dK_enter_34 ?_
  refine se_iastN (pc := 36) 0 dK_enter_36 rfl (st_ne (st_ne (st_ne (st_ne hK.2.2.2.2.2.1 (by omega)) (by omega)) (by omega)) (by omega)) hj (by decide) ?_
  exact se_vret (pc := 37) dK_enter_37 rfl ⟨rfl, rfl⟩
set_option maxHeartbeats 1000000 in
set_option maxRecDepth 100000 in
theorem c_V_keepAnswer {a b v j : Nat} {S : st_S} {x1 x2 x3 : Int32} (hV : is_V h a b S v) (hj : j < 10) : se_W (vG sc) l d mV_keepAnswer 0 (se_ent 5 [.ref a, .int (nI j), .int x1, .int x2, .int x3]) [] h 0 0 (fun o h' => o = .inl none ∧ h' = ((((h.set (a + 2) (.inl (.int, (10, .inl (upd (S 7 v) j x1))))).set (a + 3) (.inl (.int, (10, .inl (upd (S 8 v) j x2))))).set (a + 4) (.inl (.int, (10, .inl (upd (S 9 v) j x3))))).set (a + 5) (.inl (.int, (10, .inl (upd (S 10 v) j (S 17 v 0))))))) := by
  show se_W (vG sc) l d mV_keepAnswer 0 [some (.ref a), some (.int (nI j)), some (.int x1), some (.int x2), some (.int x3)] [] h 0 0 _
  refine se_aload_n (pc := 0) rfl dV_keepAnswer_0 ?_
  refine se_getf (pc := 1) clV 5 dV_keepAnswer_1 wd_195 rfl (by decide) hV.1 rfl ?_
  refine se_iload_n (pc := 4) rfl dV_keepAnswer_4 ?_
  refine se_iload_n (pc := 5) rfl dV_keepAnswer_5 ?_
  refine se_iastN (pc := 6) 0 dV_keepAnswer_6 rfl hV.2.2.1 hj (by decide) ?_
  refine se_aload_n (pc := 7) rfl dV_keepAnswer_7 ?_
  refine se_getf (pc := 8) clV 6 dV_keepAnswer_8 wd_197 rfl (by decide) (st_ne hV.1 (by omega)) rfl ?_
  refine se_iload_n (pc := 11) rfl dV_keepAnswer_11 ?_
  refine se_iload_n (pc := 12) rfl dV_keepAnswer_12 ?_
  refine se_iastN (pc := 13) 0 dV_keepAnswer_13 rfl (st_ne hV.2.2.2.1 (by omega)) hj (by decide) ?_
  refine se_aload_n (pc := 14) rfl dV_keepAnswer_14 ?_
  refine se_getf (pc := 15) clV 7 dV_keepAnswer_15 wd_199 rfl (by decide) (st_ne (st_ne hV.1 (by omega)) (by omega)) rfl ?_
  refine se_iload_n (pc := 18) rfl dV_keepAnswer_18 ?_
  refine se_iload (pc := 19) rfl dV_keepAnswer_19 ?_
  refine se_iastN (pc := 21) 0 dV_keepAnswer_21 rfl (st_ne (st_ne hV.2.2.2.2.1 (by omega)) (by omega)) hj (by decide) ?_
  refine se_aload_n (pc := 22) rfl dV_keepAnswer_22 ?_
  refine se_getf (pc := 23) clV 8 dV_keepAnswer_23 wd_201 rfl (by decide) (st_ne (st_ne (st_ne hV.1 (by omega)) (by omega)) (by omega)) rfl ?_
  refine se_iload_n (pc := 26) rfl dV_keepAnswer_26 ?_
  refine se_aload_n (pc := 27) rfl dV_keepAnswer_27 ?_
  refine se_getf (pc := 28) clV 12 dV_keepAnswer_28 wd_207 rfl (by decide) (st_ne (st_ne (st_ne hV.1 (by omega)) (by omega)) (by omega)) rfl ?_
  refine se_iastN (pc := 31) 0 dV_keepAnswer_31 rfl (st_ne (st_ne (st_ne hV.2.2.2.2.2 (by omega)) (by omega)) (by omega)) hj (by decide) ?_
  exact se_vret (pc := 32) dV_keepAnswer_32 rfl ⟨rfl, rfl⟩
set_option maxHeartbeats 1000000 in
set_option maxRecDepth 100000 in
theorem c_V_keepUse {a b v : Nat} {S : st_S} {x : Int32} (hV : is_V h a b S v) : se_W (vG sc) l d mV_keepUse 0 (se_ent 2 [.ref a, .int x]) [] h 0 0 (fun o h' => (o = .inl (some (.int 0)) ∧ x < S 15 v 0 ∧ h' = h.set a (.inr (1, [.int (nI v), .ref b, .int (S 12 v 0), .int (S 13 v 0), .ref (a + 1), .ref (a + 2), .ref (a + 3), .ref (a + 4), .ref (a + 5), .int (S 14 v 0), .int (S 15 v 0), .int (S 16 v 0 + 1), .int (S 17 v 0 + 1), .int (S 18 v 0), .int (S 19 v 0), .int (S 20 v 0)]))) ∨ (o = .inl (some (.int 1)) ∧ ¬ x < S 15 v 0 ∧ h' = h.set a (.inr (1, [.int (nI v), .ref b, .int (S 12 v 0), .int (S 13 v 0), .ref (a + 1), .ref (a + 2), .ref (a + 3), .ref (a + 4), .ref (a + 5), .int (S 14 v 0), .int x, .int (S 16 v 0), .int (S 17 v 0 + 1), .int (S 18 v 0), .int (S 19 v 0), .int (S 20 v 0)])))) := by
  show se_W (vG sc) l d mV_keepUse 0 [some (.ref a), some (.int x)] [] h 0 0 _
  refine se_aload_n (pc := 0) rfl dV_keepUse_0 ?_
  refine se_dup (pc := 1) rfl dV_keepUse_1 ?_
  refine se_getf (pc := 2) clV 12 dV_keepUse_2 wd_207 rfl (by decide) hV.1 rfl ?_
  refine se_iconst (pc := 5) 1 (by decide) dV_keepUse_5 ?_
  refine se_iadd (pc := 6) dV_keepUse_6 ?_
  refine se_putf (pc := 7) clV 12 dV_keepUse_7 wd_207 rfl (by decide) rfl (fun _ => ⟨rfl, rfl⟩) hV.1 (Nat.le_of_ble_eq_true rfl) ?_
  refine se_iload_n (pc := 10) rfl dV_keepUse_10 ?_
  refine se_aload_n (pc := 11) rfl dV_keepUse_11 ?_
  refine se_getf (pc := 12) clV 10 dV_keepUse_12 wd_203 rfl (by decide) (st_eq hV.1) rfl ?_
  refine se_icmp_ge (pc := 15) (tgt := 30) dV_keepUse_15 (by decide) (fun q1 => ?_) (fun q1 => ?_)
  · refine se_aload_n (pc := 30) rfl dV_keepUse_30 ?_
    refine se_iload_n (pc := 31) rfl dV_keepUse_31 ?_
    refine se_putf (pc := 32) clV 10 dV_keepUse_32 wd_203 rfl (by decide) rfl (fun _ => ⟨rfl, rfl⟩) (st_eq hV.1) (Nat.le_of_ble_eq_true rfl) ?_
    refine se_iconst (pc := 35) 1 (by decide) dV_keepUse_35 ?_
    exact se_zret (pc := 36) dV_keepUse_36 rfl (by decide) (Or.inr ⟨rfl, by simp_all, by simp⟩)
  · refine se_aload_n (pc := 18) rfl dV_keepUse_18 ?_
    refine se_dup (pc := 19) rfl dV_keepUse_19 ?_
    refine se_getf (pc := 20) clV 11 dV_keepUse_20 wd_205 rfl (by decide) (st_eq hV.1) rfl ?_
    refine se_iconst (pc := 23) 1 (by decide) dV_keepUse_23 ?_
    refine se_iadd (pc := 24) dV_keepUse_24 ?_
    refine se_putf (pc := 25) clV 11 dV_keepUse_25 wd_205 rfl (by decide) rfl (fun _ => ⟨rfl, rfl⟩) (st_eq hV.1) (Nat.le_of_ble_eq_true rfl) ?_
    refine se_iconst (pc := 28) 0 (by decide) dV_keepUse_28 ?_
    exact se_zret (pc := 29) dV_keepUse_29 rfl (by decide) (Or.inl ⟨rfl, by simp_all, by simp⟩)
set_option maxHeartbeats 1000000 in
set_option maxRecDepth 100000 in
theorem c_C_knownKind {o : Nat} {β : Nat → Nat} {S : st_S} {x : Int32} (hd : 6 ≤ d) (hC : is_C o β S h) : se_W (vG sc) l d mC_knownKind 0 (se_ent 2 [.ref o, .int x]) [] h 1 6 (fun u h' => h' = h ∧ ((∃ j, j < 5 ∧ x = nI j ∧ u = .inl (some (.ref (st_K o j)))) ∨ (u = .inr "java/lang/IllegalArgumentException" ∧ (x < 0 ∨ nI 5 ≤ x)))) := by
  show se_W (vG sc) l d mC_knownKind 0 [some (.ref o), some (.int x)] [] h 1 6 _
  rcases st_ix x (n := 5) (by decide) with (hx | hx) | ⟨j, hj, rfl⟩
  · refine se_iload_n (pc := 0) rfl dC_knownKind_0 ?_
    refine se_if_lt (pc := 1) (tgt := 18) dC_knownKind_1 (by decide) (fun q1 => ?_) (fun q1 => absurd q1 (fun z => z hx))
    exact vth (pc := 18) (text := "no such kind") exIllegalArgumentException rfl rfl (by decide +kernel) dC_knownKind_18 dC_knownKind_21 dC_knownKind_22 dC_knownKind_24 dC_knownKind_27 (Nat.le_of_ble_eq_true rfl) (by omega) (by omega) (by omega) ⟨rfl, Or.inr ⟨rfl, Or.inl hx⟩⟩
  · refine se_iload_n (pc := 0) rfl dC_knownKind_0 ?_
    refine se_if_lt (pc := 1) (tgt := 18) dC_knownKind_1 (by decide) (fun q1 => ?_) (fun q1 => ?_)
    · exact vth (pc := 18) (text := "no such kind") exIllegalArgumentException rfl rfl (by decide +kernel) dC_knownKind_18 dC_knownKind_21 dC_knownKind_22 dC_knownKind_24 dC_knownKind_27 (Nat.le_of_ble_eq_true rfl) (by omega) (by omega) (by omega) ⟨rfl, Or.inr ⟨rfl, Or.inr hx⟩⟩
    · refine se_iload_n (pc := 4) rfl dC_knownKind_4 ?_
      refine se_iconst (pc := 5) 5 (by decide) dC_knownKind_5 ?_
      refine se_icmp_ge (pc := 6) (tgt := 18) dC_knownKind_6 (by decide) (fun q2 => ?_) (fun q2 => absurd q2 (fun z => z hx))
      exact vth (pc := 18) (text := "no such kind") exIllegalArgumentException rfl rfl (by decide +kernel) dC_knownKind_18 dC_knownKind_21 dC_knownKind_22 dC_knownKind_24 dC_knownKind_27 (Nat.le_of_ble_eq_true rfl) (by omega) (by omega) (by omega) ⟨rfl, Or.inr ⟨rfl, Or.inr hx⟩⟩
  · refine se_iload_n (pc := 0) rfl dC_knownKind_0 ?_
    refine se_if_lt (pc := 1) (tgt := 18) dC_knownKind_1 (by decide) (fun q1 => absurd q1 (nI_pos (by omega))) (fun q1 => ?_)
    refine se_iload_n (pc := 4) rfl dC_knownKind_4 ?_
    refine se_iconst (pc := 5) 5 (by decide) dC_knownKind_5 ?_
    refine se_icmp_ge (pc := 6) (tgt := 18) dC_knownKind_6 (by decide) (fun q2 => absurd q2 (nI_ge (b := 5) (by omega) (by decide))) (fun q2 => ?_)
    refine se_aload_n (pc := 9) rfl dC_knownKind_9 ?_
    refine se_getf (pc := 10) clC 0 dC_knownKind_10 wd_58 rfl (by decide) hC.1 rfl ?_
    refine se_iload_n (pc := 13) rfl dC_knownKind_13 ?_
    refine se_aaldN (pc := 14) 3 dC_knownKind_14 rfl hC.2.1 (by omega) (by decide) (some (st_K o j)) (if_pos hj) ?_
    refine se_ifnonnull (pc := 15) (tgt := 28) dC_knownKind_15 (by decide) ?_
    refine se_aload_n (pc := 28) rfl dC_knownKind_28 ?_
    refine se_getf (pc := 29) clC 0 dC_knownKind_29 wd_58 rfl (by decide) hC.1 rfl ?_
    refine se_iload_n (pc := 32) rfl dC_knownKind_32 ?_
    refine se_aaldN (pc := 33) 3 dC_knownKind_33 rfl hC.2.1 (by omega) (by decide) (some (st_K o j)) (if_pos hj) ?_
    exact se_aret (pc := 34) (r := some (st_K o j)) dC_knownKind_34 rfl ⟨rfl, Or.inl ⟨j, hj, rfl, rfl⟩⟩
set_option maxHeartbeats 1000000 in
set_option maxRecDepth 100000 in
theorem c_C_knownVehicle {o : Nat} {β : Nat → Nat} {S : st_S} {x : Int32} (hd : 6 ≤ d) (hC : is_C o β S h) (hn : st_nv S ≤ 20) : se_W (vG sc) l d mC_knownVehicle 0 (se_ent 2 [.ref o, .int x]) [] h 1 6 (fun u h' => h' = h ∧ ((∃ j, j < st_nv S ∧ x = nI j ∧ u = .inl (some (.ref (β j)))) ∨ (u = .inr "java/lang/IllegalArgumentException" ∧ (x < 0 ∨ nI (st_nv S) ≤ x)))) := by
  show se_W (vG sc) l d mC_knownVehicle 0 [some (.ref o), some (.int x)] [] h 1 6 _
  rcases st_ix x (n := 20) (by decide) with (hx | hx) | ⟨j, hj20, rfl⟩
  · refine se_iload_n (pc := 0) rfl dC_knownVehicle_0 ?_
    refine se_if_lt (pc := 1) (tgt := 19) dC_knownVehicle_1 (by decide) (fun q1 => ?_) (fun q1 => absurd q1 (fun z => z hx))
    exact vth (pc := 19) (text := "no such vehicle") exIllegalArgumentException rfl rfl (by decide +kernel) dC_knownVehicle_19 dC_knownVehicle_22 dC_knownVehicle_23 dC_knownVehicle_25 dC_knownVehicle_28 (Nat.le_of_ble_eq_true rfl) (by omega) (by omega) (by omega) ⟨rfl, Or.inr ⟨rfl, Or.inl hx⟩⟩
  · refine se_iload_n (pc := 0) rfl dC_knownVehicle_0 ?_
    refine se_if_lt (pc := 1) (tgt := 19) dC_knownVehicle_1 (by decide) (fun q1 => ?_) (fun q1 => ?_)
    · exact vth (pc := 19) (text := "no such vehicle") exIllegalArgumentException rfl rfl (by decide +kernel) dC_knownVehicle_19 dC_knownVehicle_22 dC_knownVehicle_23 dC_knownVehicle_25 dC_knownVehicle_28 (Nat.le_of_ble_eq_true rfl) (by omega) (by omega) (by omega) ⟨rfl, Or.inr ⟨rfl, Or.inr (Int32.le_trans (nI_le hn (by decide)) hx)⟩⟩
    · refine se_iload_n (pc := 4) rfl dC_knownVehicle_4 ?_
      refine se_bipush (pc := 5) 20 (by decide) dC_knownVehicle_5 ?_
      refine se_icmp_ge (pc := 7) (tgt := 19) dC_knownVehicle_7 (by decide) (fun q2 => ?_) (fun q2 => absurd q2 (fun z => z hx))
      exact vth (pc := 19) (text := "no such vehicle") exIllegalArgumentException rfl rfl (by decide +kernel) dC_knownVehicle_19 dC_knownVehicle_22 dC_knownVehicle_23 dC_knownVehicle_25 dC_knownVehicle_28 (Nat.le_of_ble_eq_true rfl) (by omega) (by omega) (by omega) ⟨rfl, Or.inr ⟨rfl, Or.inr (Int32.le_trans (nI_le hn (by decide)) hx)⟩⟩
  · by_cases hj : j < st_nv S
    · refine se_iload_n (pc := 0) rfl dC_knownVehicle_0 ?_
      refine se_if_lt (pc := 1) (tgt := 19) dC_knownVehicle_1 (by decide) (fun q1 => absurd q1 (nI_pos (by omega))) (fun q1 => ?_)
      refine se_iload_n (pc := 4) rfl dC_knownVehicle_4 ?_
      refine se_bipush (pc := 5) 20 (by decide) dC_knownVehicle_5 ?_
      refine se_icmp_ge (pc := 7) (tgt := 19) dC_knownVehicle_7 (by decide) (fun q2 => absurd q2 (nI_ge (b := 20) (by omega) (by decide))) (fun q2 => ?_)
      refine se_aload_n (pc := 10) rfl dC_knownVehicle_10 ?_
      refine se_getf (pc := 11) clC 1 dC_knownVehicle_11 wd_59 rfl (by decide) hC.1 rfl ?_
      refine se_iload_n (pc := 14) rfl dC_knownVehicle_14 ?_
      refine se_aaldN (pc := 15) 4 dC_knownVehicle_15 rfl hC.2.2.1 hj20 (by decide) (some (β j)) (if_pos hj) ?_
      refine se_ifnonnull (pc := 16) (tgt := 29) dC_knownVehicle_16 (by decide) ?_
      refine se_aload_n (pc := 29) rfl dC_knownVehicle_29 ?_
      refine se_getf (pc := 30) clC 1 dC_knownVehicle_30 wd_59 rfl (by decide) hC.1 rfl ?_
      refine se_iload_n (pc := 33) rfl dC_knownVehicle_33 ?_
      refine se_aaldN (pc := 34) 4 dC_knownVehicle_34 rfl hC.2.2.1 hj20 (by decide) (some (β j)) (if_pos hj) ?_
      exact se_aret (pc := 35) (r := some (β j)) dC_knownVehicle_35 rfl ⟨rfl, Or.inl ⟨j, hj, rfl, rfl⟩⟩
    · refine se_iload_n (pc := 0) rfl dC_knownVehicle_0 ?_
      refine se_if_lt (pc := 1) (tgt := 19) dC_knownVehicle_1 (by decide) (fun q1 => absurd q1 (nI_pos (by omega))) (fun q1 => ?_)
      refine se_iload_n (pc := 4) rfl dC_knownVehicle_4 ?_
      refine se_bipush (pc := 5) 20 (by decide) dC_knownVehicle_5 ?_
      refine se_icmp_ge (pc := 7) (tgt := 19) dC_knownVehicle_7 (by decide) (fun q2 => absurd q2 (nI_ge (b := 20) (by omega) (by decide))) (fun q2 => ?_)
      refine se_aload_n (pc := 10) rfl dC_knownVehicle_10 ?_
      refine se_getf (pc := 11) clC 1 dC_knownVehicle_11 wd_59 rfl (by decide) hC.1 rfl ?_
      refine se_iload_n (pc := 14) rfl dC_knownVehicle_14 ?_
      refine se_aaldN (pc := 15) 4 dC_knownVehicle_15 rfl hC.2.2.1 hj20 (by decide) none (if_neg hj) ?_
      refine se_ifnonnullN (pc := 16) dC_knownVehicle_16 ?_
      exact vth (pc := 19) (text := "no such vehicle") exIllegalArgumentException rfl rfl (by decide +kernel) dC_knownVehicle_19 dC_knownVehicle_22 dC_knownVehicle_23 dC_knownVehicle_25 dC_knownVehicle_28 (Nat.le_of_ble_eq_true rfl) (by omega) (by omega) (by omega) ⟨rfl, Or.inr ⟨rfl, Or.inr (nI_le (by omega) (by omega))⟩⟩
end LEAF2
end
section
section LOOPS
variable {sc : List (Nat × Nat × (Nat → Int32))} {l : Launch} {d : Nat} {h : se_H}
set_option maxHeartbeats 1000000 in
set_option maxRecDepth 100000 in
theorem lp_V_checksWeight {a b k v : Nat} {S : st_S} {x : Int32} (hd : 1 ≤ d) (hV : is_V h a b S v) (hK : is_K h b S k) : ∀ (n : Nat) (i : Nat) (z : Option Value), i + n = 10 → se_W (vG sc) l (d + 1) mV_checksWeight 4 [some (.ref a), some (.int x), some (.int (st_w1 S k v x i)), some (.int (nI i)), z] [] h 0 0 (fun o h' => h' = h ∧ o = .inl (some (.int (st_w1 S k v x 10)))) := by
  intro n
  induction n with
  | zero =>
    intro i z hi
    obtain rfl : i = 10 := by omega
    refine se_iload_n (pc := 4) rfl dV_checksWeight_4 ?_
    refine se_bipush (pc := 5) 10 (by decide) dV_checksWeight_5 ?_
    refine se_icmp_ge (pc := 7) (tgt := 56) dV_checksWeight_7 (by decide) (fun q1 => ?_) (fun q1 => absurd q1 (fun z => z (Int32.le_refl _)))
    refine se_iload_n (pc := 56) rfl dV_checksWeight_56 ?_
    exact se_iret (pc := 57) dV_checksWeight_57 rfl ⟨rfl, rfl⟩
  | succ n ih =>
    intro i z hi
    have hj : i < 10 := by omega
    refine se_iload_n (pc := 4) rfl dV_checksWeight_4 ?_
    refine se_bipush (pc := 5) 10 (by decide) dV_checksWeight_5 ?_
    refine se_icmp_ge (pc := 7) (tgt := 56) dV_checksWeight_7 (by decide) (fun q1 => absurd q1 (nI_ge (b := 10) hj (by decide))) (fun q1 => ?_)
    refine se_aload_n (pc := 10) rfl dV_checksWeight_10 ?_
    refine se_getf (pc := 11) clV 1 dV_checksWeight_11 wd_188 rfl (by decide) hV.1 rfl ?_
    refine se_getf (pc := 14) clK 3 dV_checksWeight_14 wd_34 rfl (by decide) hK.1 rfl ?_
    refine se_iload_n (pc := 17) rfl dV_checksWeight_17 ?_
    refine se_ialdN (pc := 18) 0 dV_checksWeight_18 rfl hK.2.2.2.2.1 hj (by decide) ?_
    refine se_iconst (pc := 19) 1 (by decide) dV_checksWeight_19 ?_
    refine se_isub (pc := 20) dV_checksWeight_20 ?_
    refine se_istore (pc := 21) dV_checksWeight_21 (by decide) [some (.ref a), some (.int x), some (.int (st_w1 S k v x i)), some (.int (nI i)), some (.int ((S 3 k i) - 1))] rfl ?_
    refine se_aload_n (pc := 23) rfl dV_checksWeight_23 ?_
    refine se_iload_n (pc := 24) rfl dV_checksWeight_24 ?_
    refine se_invV (pc := 25) (as := [.int (nI i)]) (st := []) (vok sc) kV_hasFailed dV_checksWeight_25 ⟨wd_370, wd_345, wd_346, wd_9⟩ rfl hV.1 rfl (Nat.le_of_ble_eq_true rfl) (Nat.le_of_ble_eq_true rfl) (c_V_hasFailed hd hV hK hj) (C2 := 0) (S2 := 0) (by omega) (by omega) (fun v25 h25 _ q25 => ?_) (fun x hx => absurd hx List.not_mem_nil) (fun v25 h25 _ q25 => ?_)
    rotate_left
    · cases q25.2
    obtain ⟨rfl, q25⟩ := q25
    cases q25
    refine se_if_eq (pc := 28) (tgt := 36) dV_checksWeight_28 (by decide) (fun q2 => ?_) (fun q2 => ?_)
    · refine se_aload_n (pc := 36) rfl dV_checksWeight_36 ?_
      refine se_iload_n (pc := 37) rfl dV_checksWeight_37 ?_
      refine se_iload_n (pc := 38) rfl dV_checksWeight_38 ?_
      refine se_invV (pc := 39) (as := [.int (nI i), .int x]) (st := []) (vok sc) kV_hasSkipped dV_checksWeight_39 ⟨wd_371, wd_350, wd_351, wd_9⟩ rfl hV.1 rfl (Nat.le_of_ble_eq_true rfl) (Nat.le_of_ble_eq_true rfl) (c_V_hasSkipped hV hK hj) (C2 := 0) (S2 := 0) (by omega) (by omega) (fun v39 h39 _ q39 => ?_) (fun x hx => absurd hx List.not_mem_nil) (fun v39 h39 _ q39 => ?_)
      rotate_left
      · cases q39.2
      obtain ⟨rfl, q39⟩ := q39
      cases q39
      refine se_if_eq (pc := 42) (tgt := 50) dV_checksWeight_42 (by decide) (fun q3 => ?_) (fun q3 => ?_)
      · refine se_iinc (pc := 50) 1 (by decide) rfl dV_checksWeight_50 [some (.ref a), some (.int x), some (.int (st_w1 S k v x i)), some (.int (nI (i + 1))), some (.int ((S 3 k i) - 1))] (by rw [nI_1]; rfl) ?_
        refine se_goto (pc := 53) (tgt := 4) dV_checksWeight_53 (by decide) ?_
        have e9 : st_w1 S k v x i = st_w1 S k v x (i + 1) := by clear ih hV hK; simp only [st_b0] at *; simp_all [st_w1]
        rw [e9]
        exact ih (i + 1) _ (by omega)
      · refine se_iload_n (pc := 45) rfl dV_checksWeight_45 ?_
        refine se_iload (pc := 46) rfl dV_checksWeight_46 ?_
        refine se_iadd (pc := 48) dV_checksWeight_48 ?_
        refine se_istore_n (pc := 49) dV_checksWeight_49 (by decide) [some (.ref a), some (.int x), some (.int ((st_w1 S k v x i) + ((S 3 k i) - 1))), some (.int (nI i)), some (.int ((S 3 k i) - 1))] rfl ?_
        refine se_iinc (pc := 50) 1 (by decide) rfl dV_checksWeight_50 [some (.ref a), some (.int x), some (.int ((st_w1 S k v x i) + ((S 3 k i) - 1))), some (.int (nI (i + 1))), some (.int ((S 3 k i) - 1))] (by rw [nI_1]; rfl) ?_
        refine se_goto (pc := 53) (tgt := 4) dV_checksWeight_53 (by decide) ?_
        have e9 : (st_w1 S k v x i) + ((S 3 k i) - 1) = st_w1 S k v x (i + 1) := by clear ih hV hK; simp only [st_b0] at *; simp_all [st_w1]
        rw [e9]
        exact ih (i + 1) _ (by omega)
    · refine se_iload_n (pc := 31) rfl dV_checksWeight_31 ?_
      refine se_iload (pc := 32) rfl dV_checksWeight_32 ?_
      refine se_iadd (pc := 34) dV_checksWeight_34 ?_
      refine se_istore_n (pc := 35) dV_checksWeight_35 (by decide) [some (.ref a), some (.int x), some (.int ((st_w1 S k v x i) + ((S 3 k i) - 1))), some (.int (nI i)), some (.int ((S 3 k i) - 1))] rfl ?_
      refine se_aload_n (pc := 36) rfl dV_checksWeight_36 ?_
      refine se_iload_n (pc := 37) rfl dV_checksWeight_37 ?_
      refine se_iload_n (pc := 38) rfl dV_checksWeight_38 ?_
      refine se_invV (pc := 39) (as := [.int (nI i), .int x]) (st := []) (vok sc) kV_hasSkipped dV_checksWeight_39 ⟨wd_371, wd_350, wd_351, wd_9⟩ rfl hV.1 rfl (Nat.le_of_ble_eq_true rfl) (Nat.le_of_ble_eq_true rfl) (c_V_hasSkipped hV hK hj) (C2 := 0) (S2 := 0) (by omega) (by omega) (fun v39 h39 _ q39 => ?_) (fun x hx => absurd hx List.not_mem_nil) (fun v39 h39 _ q39 => ?_)
      rotate_left
      · cases q39.2
      obtain ⟨rfl, q39⟩ := q39
      cases q39
      refine se_if_eq (pc := 42) (tgt := 50) dV_checksWeight_42 (by decide) (fun q4 => ?_) (fun q4 => ?_)
      · refine se_iinc (pc := 50) 1 (by decide) rfl dV_checksWeight_50 [some (.ref a), some (.int x), some (.int ((st_w1 S k v x i) + ((S 3 k i) - 1))), some (.int (nI (i + 1))), some (.int ((S 3 k i) - 1))] (by rw [nI_1]; rfl) ?_
        refine se_goto (pc := 53) (tgt := 4) dV_checksWeight_53 (by decide) ?_
        have e9 : (st_w1 S k v x i) + ((S 3 k i) - 1) = st_w1 S k v x (i + 1) := by clear ih hV hK; simp only [st_b0] at *; simp_all [st_w1]
        rw [e9]
        exact ih (i + 1) _ (by omega)
      · refine se_iload_n (pc := 45) rfl dV_checksWeight_45 ?_
        refine se_iload (pc := 46) rfl dV_checksWeight_46 ?_
        refine se_iadd (pc := 48) dV_checksWeight_48 ?_
        refine se_istore_n (pc := 49) dV_checksWeight_49 (by decide) [some (.ref a), some (.int x), some (.int (((st_w1 S k v x i) + ((S 3 k i) - 1)) + ((S 3 k i) - 1))), some (.int (nI i)), some (.int ((S 3 k i) - 1))] rfl ?_
        refine se_iinc (pc := 50) 1 (by decide) rfl dV_checksWeight_50 [some (.ref a), some (.int x), some (.int (((st_w1 S k v x i) + ((S 3 k i) - 1)) + ((S 3 k i) - 1))), some (.int (nI (i + 1))), some (.int ((S 3 k i) - 1))] (by rw [nI_1]; rfl) ?_
        refine se_goto (pc := 53) (tgt := 4) dV_checksWeight_53 (by decide) ?_
        have e9 : ((st_w1 S k v x i) + ((S 3 k i) - 1)) + ((S 3 k i) - 1) = st_w1 S k v x (i + 1) := by clear ih hV hK; simp only [st_b0] at *; simp_all [st_w1]
        rw [e9]
        exact ih (i + 1) _ (by omega)
set_option maxHeartbeats 1000000 in
set_option maxRecDepth 100000 in
theorem c_V_checksWeight {a b k v : Nat} {S : st_S} {x : Int32} (hd : 2 ≤ d) (hV : is_V h a b S v) (hK : is_K h b S k) : se_W (vG sc) l d mV_checksWeight 0 (se_ent 5 [.ref a, .int x]) [] h 0 0 (fun o h' => h' = h ∧ o = .inl (some (.int (st_w1 S k v x 10)))) := by
  obtain ⟨d, rfl⟩ : ∃ e, d = e + 1 := ⟨d - 1, by omega⟩
  show se_W (vG sc) l (d + 1) mV_checksWeight 0 [some (.ref a), some (.int x), none, none, none] [] h 0 0 _
  refine se_iconst (pc := 0) 0 (by decide) dV_checksWeight_0 ?_
  refine se_istore_n (pc := 1) dV_checksWeight_1 (by decide) [some (.ref a), some (.int x), some (.int 0), none, none] rfl ?_
  refine se_iconst (pc := 2) 0 (by decide) dV_checksWeight_2 ?_
  refine se_istore_n (pc := 3) dV_checksWeight_3 (by decide) [some (.ref a), some (.int x), some (.int 0), some (.int 0), none] rfl ?_
  exact lp_V_checksWeight (by omega) hV hK 10 0 _ rfl
set_option maxHeartbeats 1000000 in
set_option maxRecDepth 100000 in
theorem lp_V_lowestLacking {a b k v : Nat} {S : st_S} (hV : is_V h a b S v) (hK : is_K h b S k) : ∀ (n : Nat) (i : Nat), i + n = 10 → se_W (vG sc) l d mV_lowestLacking 2 [some (.ref a), some (.int (nI i))] [] h 0 0 (fun o h' => h' = h ∧ o = .inl (some (.int (st_ll S k v n i)))) := by
  intro n
  induction n with
  | zero =>
    intro i hi
    obtain rfl : i = 10 := by omega
    refine se_iload_n (pc := 2) rfl dV_lowestLacking_2 ?_
    refine se_bipush (pc := 3) 10 (by decide) dV_lowestLacking_3 ?_
    refine se_icmp_ge (pc := 5) (tgt := 34) dV_lowestLacking_5 (by decide) (fun q1 => ?_) (fun q1 => absurd q1 (fun z => z (Int32.le_refl _)))
    refine se_iconst (pc := 34) (-1) (by decide) dV_lowestLacking_34 ?_
    exact se_iret (pc := 35) dV_lowestLacking_35 rfl ⟨rfl, rfl⟩
  | succ n ih =>
    intro i hi
    have hj : i < 10 := by omega
    refine se_iload_n (pc := 2) rfl dV_lowestLacking_2 ?_
    refine se_bipush (pc := 3) 10 (by decide) dV_lowestLacking_3 ?_
    refine se_icmp_ge (pc := 5) (tgt := 34) dV_lowestLacking_5 (by decide) (fun q1 => absurd q1 (nI_ge (b := 10) hj (by decide))) (fun q1 => ?_)
    refine se_aload_n (pc := 8) rfl dV_lowestLacking_8 ?_
    refine se_getf (pc := 9) clV 4 dV_lowestLacking_9 wd_193 rfl (by decide) hV.1 rfl ?_
    refine se_iload_n (pc := 12) rfl dV_lowestLacking_12 ?_
    refine se_ialdN (pc := 13) 0 dV_lowestLacking_13 rfl hV.2.1 hj (by decide) ?_
    refine se_aload_n (pc := 14) rfl dV_lowestLacking_14 ?_
    refine se_getf (pc := 15) clV 1 dV_lowestLacking_15 wd_188 rfl (by decide) hV.1 rfl ?_
    refine se_getf (pc := 18) clK 5 dV_lowestLacking_18 wd_39 rfl (by decide) hK.1 rfl ?_
    refine se_iload_n (pc := 21) rfl dV_lowestLacking_21 ?_
    refine se_ialdN (pc := 22) 0 dV_lowestLacking_22 rfl hK.2.2.2.2.2.2 hj (by decide) ?_
    refine se_icmp_ge (pc := 23) (tgt := 28) dV_lowestLacking_23 (by decide) (fun q2 => ?_) (fun q2 => ?_)
    · refine se_iinc (pc := 28) 1 (by decide) rfl dV_lowestLacking_28 [some (.ref a), some (.int (nI (i + 1)))] (by rw [nI_1]; rfl) ?_
      refine se_goto (pc := 31) (tgt := 2) dV_lowestLacking_31 (by decide) ?_
      have e9 : st_ll S k v (n + 1) i = st_ll S k v n (i + 1) := by rw [st_ll, if_neg (by rw [Int32.not_lt]; assumption)]
      rw [e9]
      exact ih (i + 1) (by omega)
    · refine se_iload_n (pc := 26) rfl dV_lowestLacking_26 ?_
      exact se_iret (pc := 27) dV_lowestLacking_27 rfl ⟨rfl, by simp_all [st_ll]⟩
set_option maxHeartbeats 1000000 in
set_option maxRecDepth 100000 in
theorem c_V_lowestLacking {a b k v : Nat} {S : st_S} (hV : is_V h a b S v) (hK : is_K h b S k) : se_W (vG sc) l d mV_lowestLacking 0 (se_ent 2 [.ref a]) [] h 0 0 (fun o h' => h' = h ∧ o = .inl (some (.int (st_ll S k v 10 0)))) := by
  show se_W (vG sc) l d mV_lowestLacking 0 [some (.ref a), none] [] h 0 0 _
  refine se_iconst (pc := 0) 0 (by decide) dV_lowestLacking_0 ?_
  refine se_istore_n (pc := 1) dV_lowestLacking_1 (by decide) [some (.ref a), some (.int 0)] rfl ?_
  exact lp_V_lowestLacking hV hK 10 0 rfl
set_option maxHeartbeats 1000000 in
set_option maxRecDepth 100000 in
theorem c_C_isOpenDamage {o a b v e : Nat} {β : Nat → Nat} {S : st_S} (hC : is_C o β S h) (hV : is_V h a b S v) (he : e < 100) : se_W (vG sc) l d mC_isOpenDamage 0 (se_ent 3 [.ref o, .int (nI e), .ref a]) [] h 0 0 (fun o h' => h' = h ∧ o = .inl (some (.int (st_b (st_od S v e))))) := by
  show se_W (vG sc) l d mC_isOpenDamage 0 [some (.ref o), some (.int (nI e)), some (.ref a)] [] h 0 0 _
  refine se_aload_n (pc := 0) rfl dC_isOpenDamage_0 ?_
  refine se_getf (pc := 1) clC 2 dC_isOpenDamage_1 wd_60 rfl (by decide) hC.1 rfl ?_
  refine se_iload_n (pc := 4) rfl dC_isOpenDamage_4 ?_
  refine se_ialdN (pc := 5) 0 dC_isOpenDamage_5 rfl hC.2.2.2.1 he (by decide) ?_
  refine se_aload_n (pc := 6) rfl dC_isOpenDamage_6 ?_
  refine se_getf (pc := 7) clV 0 dC_isOpenDamage_7 wd_187 rfl (by decide) hV.1 rfl ?_
  refine se_icmp_ne (pc := 10) (tgt := 26) dC_isOpenDamage_10 (by decide) (fun q1 => ?_) (fun q1 => ?_)
  · refine se_iconst (pc := 26) 0 (by decide) dC_isOpenDamage_26 ?_
    exact se_zret (pc := 27) dC_isOpenDamage_27 rfl (by decide) ⟨rfl, by first | (simp_all [st_b, st_od]; done) | (simp_all [st_b, st_od, Int32.le_iff_toInt_le, Int32.lt_iff_toInt_lt]; omega)⟩
  · refine se_aload_n (pc := 13) rfl dC_isOpenDamage_13 ?_
    refine se_getf (pc := 14) clC 4 dC_isOpenDamage_14 wd_62 rfl (by decide) hC.1 rfl ?_
    refine se_iload_n (pc := 17) rfl dC_isOpenDamage_17 ?_
    refine se_ialdN (pc := 18) 0 dC_isOpenDamage_18 rfl hC.2.2.2.2.2.1 he (by decide) ?_
    refine se_if_ne (pc := 19) (tgt := 26) dC_isOpenDamage_19 (by decide) (fun q2 => ?_) (fun q2 => ?_)
    · refine se_iconst (pc := 26) 0 (by decide) dC_isOpenDamage_26 ?_
      exact se_zret (pc := 27) dC_isOpenDamage_27 rfl (by decide) ⟨rfl, by first | (simp_all [st_b, st_od]; done) | (simp_all [st_b, st_od, Int32.le_iff_toInt_le, Int32.lt_iff_toInt_lt]; omega)⟩
    · refine se_iconst (pc := 22) 1 (by decide) dC_isOpenDamage_22 ?_
      refine se_goto (pc := 23) (tgt := 27) dC_isOpenDamage_23 (by decide) ?_
      exact se_zret (pc := 27) dC_isOpenDamage_27 rfl (by decide) ⟨rfl, by first | (simp_all [st_b, st_od]; done) | (simp_all [st_b, st_od, Int32.le_iff_toInt_le, Int32.lt_iff_toInt_lt]; omega)⟩
set_option maxHeartbeats 1000000 in
set_option maxRecDepth 100000 in
theorem lp_C_damagesWeight {o a b v : Nat} {β : Nat → Nat} {S : st_S} (hC : is_C o β S h) (hV : is_V h a b S v) (hnd : S 25 0 0 = nI (st_nd S)) (hn : st_nd S ≤ 100) : ∀ (n : Nat) (i : Nat), i + n = st_nd S → se_W (vG sc) l (d + 1) mC_damagesWeight 4 [some (.ref o), some (.ref a), some (.int (st_w2 S v i)), some (.int (nI i))] [] h 0 0 (fun o h' => h' = h ∧ o = .inl (some (.int (st_w2 S v (st_nd S))))) := by
  intro n
  induction n with
  | zero =>
    intro i hi
    obtain rfl : i = st_nd S := by omega
    refine se_iload_n (pc := 4) rfl dC_damagesWeight_4 ?_
    refine se_bipush (pc := 5) 100 (by decide) dC_damagesWeight_5 ?_
    refine se_icmp_ge (pc := 7) (tgt := 44) dC_damagesWeight_7 (by decide) (fun q1 => ?_) (fun q1 => ?_)
    · refine se_iload_n (pc := 44) rfl dC_damagesWeight_44 ?_
      exact se_iret (pc := 45) dC_damagesWeight_45 rfl ⟨rfl, rfl⟩
    · refine se_iload_n (pc := 10) rfl dC_damagesWeight_10 ?_
      refine se_aload_n (pc := 11) rfl dC_damagesWeight_11 ?_
      refine se_getf (pc := 12) clC 6 dC_damagesWeight_12 wd_64 rfl (by decide) hC.1 rfl ?_
      refine se_icmp_ge (pc := 15) (tgt := 44) dC_damagesWeight_15 (by decide) (fun q2 => ?_) (fun q2 => absurd q2 (fun z => z (by rw [hnd]; exact Int32.le_refl _)))
      refine se_iload_n (pc := 44) rfl dC_damagesWeight_44 ?_
      exact se_iret (pc := 45) dC_damagesWeight_45 rfl ⟨rfl, rfl⟩
  | succ n ih =>
    intro i hi
    have hlt : i < st_nd S := by omega
    have hj : i < 100 := by omega
    refine se_iload_n (pc := 4) rfl dC_damagesWeight_4 ?_
    refine se_bipush (pc := 5) 100 (by decide) dC_damagesWeight_5 ?_
    refine se_icmp_ge (pc := 7) (tgt := 44) dC_damagesWeight_7 (by decide) (fun q1 => absurd q1 (nI_ge (b := 100) hj (by decide))) (fun q1 => ?_)
    refine se_iload_n (pc := 10) rfl dC_damagesWeight_10 ?_
    refine se_aload_n (pc := 11) rfl dC_damagesWeight_11 ?_
    refine se_getf (pc := 12) clC 6 dC_damagesWeight_12 wd_64 rfl (by decide) hC.1 rfl ?_
    refine se_icmp_ge (pc := 15) (tgt := 44) dC_damagesWeight_15 (by decide) (fun q2 => absurd q2 (by rw [hnd]; exact nI_ge hlt (by omega))) (fun q2 => ?_)
    refine se_aload_n (pc := 18) rfl dC_damagesWeight_18 ?_
    refine se_iload_n (pc := 19) rfl dC_damagesWeight_19 ?_
    refine se_aload_n (pc := 20) rfl dC_damagesWeight_20 ?_
    refine se_invV (pc := 21) (as := [.int (nI i), .ref a]) (st := []) (vok sc) kC_isOpenDamage dC_damagesWeight_21 ⟨wd_376, wd_378, sl_5, wd_1⟩ rfl hC.1 rfl (Nat.le_of_ble_eq_true rfl) (Nat.le_of_ble_eq_true rfl) (c_C_isOpenDamage hC hV hj) (C2 := 0) (S2 := 0) (by omega) (by omega) (fun v21 h21 _ q21 => ?_) (fun x hx => absurd hx List.not_mem_nil) (fun v21 h21 _ q21 => ?_)
    rotate_left
    · cases q21.2
    obtain ⟨rfl, q21⟩ := q21
    cases q21
    refine se_if_eq (pc := 24) (tgt := 38) dC_damagesWeight_24 (by decide) (fun q3 => ?_) (fun q3 => ?_)
    · refine se_iinc (pc := 38) 1 (by decide) rfl dC_damagesWeight_38 [some (.ref o), some (.ref a), some (.int (st_w2 S v i)), some (.int (nI (i + 1)))] (by rw [nI_1]; rfl) ?_
      refine se_goto (pc := 41) (tgt := 4) dC_damagesWeight_41 (by decide) ?_
      have e9 : st_w2 S v i = st_w2 S v (i + 1) := by clear ih hC hV; simp only [st_b0] at *; simp_all [st_w2]
      rw [e9]
      exact ih (i + 1) (by omega)
    · refine se_iload_n (pc := 27) rfl dC_damagesWeight_27 ?_
      refine se_aload_n (pc := 28) rfl dC_damagesWeight_28 ?_
      refine se_getf (pc := 29) clC 3 dC_damagesWeight_29 wd_61 rfl (by decide) hC.1 rfl ?_
      refine se_iload_n (pc := 32) rfl dC_damagesWeight_32 ?_
      refine se_ialdN (pc := 33) 0 dC_damagesWeight_33 rfl hC.2.2.2.2.1 hj (by decide) ?_
      refine se_iconst (pc := 34) 1 (by decide) dC_damagesWeight_34 ?_
      refine se_isub (pc := 35) dC_damagesWeight_35 ?_
      refine se_iadd (pc := 36) dC_damagesWeight_36 ?_
      refine se_istore_n (pc := 37) dC_damagesWeight_37 (by decide) [some (.ref o), some (.ref a), some (.int ((st_w2 S v i) + ((S 22 0 i) - 1))), some (.int (nI i))] rfl ?_
      refine se_iinc (pc := 38) 1 (by decide) rfl dC_damagesWeight_38 [some (.ref o), some (.ref a), some (.int ((st_w2 S v i) + ((S 22 0 i) - 1))), some (.int (nI (i + 1)))] (by rw [nI_1]; rfl) ?_
      refine se_goto (pc := 41) (tgt := 4) dC_damagesWeight_41 (by decide) ?_
      have e9 : (st_w2 S v i) + ((S 22 0 i) - 1) = st_w2 S v (i + 1) := by clear ih hC hV; simp only [st_b0] at *; simp_all [st_w2]
      rw [e9]
      exact ih (i + 1) (by omega)
set_option maxHeartbeats 1000000 in
set_option maxRecDepth 100000 in
theorem c_C_damagesWeight {o a b v : Nat} {β : Nat → Nat} {S : st_S} (hd : 1 ≤ d) (hC : is_C o β S h) (hV : is_V h a b S v) (hnd : S 25 0 0 = nI (st_nd S)) (hn : st_nd S ≤ 100) : se_W (vG sc) l d mC_damagesWeight 0 (se_ent 4 [.ref o, .ref a]) [] h 0 0 (fun o h' => h' = h ∧ o = .inl (some (.int (st_w2 S v (st_nd S))))) := by
  obtain ⟨d, rfl⟩ : ∃ e, d = e + 1 := ⟨d - 1, by omega⟩
  show se_W (vG sc) l (d + 1) mC_damagesWeight 0 [some (.ref o), some (.ref a), none, none] [] h 0 0 _
  refine se_iconst (pc := 0) 0 (by decide) dC_damagesWeight_0 ?_
  refine se_istore_n (pc := 1) dC_damagesWeight_1 (by decide) [some (.ref o), some (.ref a), some (.int 0), none] rfl ?_
  refine se_iconst (pc := 2) 0 (by decide) dC_damagesWeight_2 ?_
  refine se_istore_n (pc := 3) dC_damagesWeight_3 (by decide) [some (.ref o), some (.ref a), some (.int 0), some (.int 0)] rfl ?_
  exact lp_C_damagesWeight hC hV hnd hn (st_nd S) 0 (by omega)
set_option maxHeartbeats 1000000 in
set_option maxRecDepth 100000 in
theorem lp_C_openDamages {o a b v : Nat} {β : Nat → Nat} {S : st_S} (hC : is_C o β S h) (hV : is_V h a b S v) (hnd : S 25 0 0 = nI (st_nd S)) (hn : st_nd S ≤ 100) : ∀ (n : Nat) (i : Nat), i + n = st_nd S → se_W (vG sc) l (d + 1) mC_openDamages 4 [some (.ref o), some (.ref a), some (.int (st_n2 S v i)), some (.int (nI i))] [] h 0 0 (fun o h' => h' = h ∧ o = .inl (some (.int (st_n2 S v (st_nd S))))) := by
  intro n
  induction n with
  | zero =>
    intro i hi
    obtain rfl : i = st_nd S := by omega
    refine se_iload_n (pc := 4) rfl dC_openDamages_4 ?_
    refine se_bipush (pc := 5) 100 (by decide) dC_openDamages_5 ?_
    refine se_icmp_ge (pc := 7) (tgt := 36) dC_openDamages_7 (by decide) (fun q1 => ?_) (fun q1 => ?_)
    · refine se_iload_n (pc := 36) rfl dC_openDamages_36 ?_
      exact se_iret (pc := 37) dC_openDamages_37 rfl ⟨rfl, rfl⟩
    · refine se_iload_n (pc := 10) rfl dC_openDamages_10 ?_
      refine se_aload_n (pc := 11) rfl dC_openDamages_11 ?_
      refine se_getf (pc := 12) clC 6 dC_openDamages_12 wd_64 rfl (by decide) hC.1 rfl ?_
      refine se_icmp_ge (pc := 15) (tgt := 36) dC_openDamages_15 (by decide) (fun q2 => ?_) (fun q2 => absurd q2 (fun z => z (by rw [hnd]; exact Int32.le_refl _)))
      refine se_iload_n (pc := 36) rfl dC_openDamages_36 ?_
      exact se_iret (pc := 37) dC_openDamages_37 rfl ⟨rfl, rfl⟩
  | succ n ih =>
    intro i hi
    have hlt : i < st_nd S := by omega
    have hj : i < 100 := by omega
    refine se_iload_n (pc := 4) rfl dC_openDamages_4 ?_
    refine se_bipush (pc := 5) 100 (by decide) dC_openDamages_5 ?_
    refine se_icmp_ge (pc := 7) (tgt := 36) dC_openDamages_7 (by decide) (fun q1 => absurd q1 (nI_ge (b := 100) hj (by decide))) (fun q1 => ?_)
    refine se_iload_n (pc := 10) rfl dC_openDamages_10 ?_
    refine se_aload_n (pc := 11) rfl dC_openDamages_11 ?_
    refine se_getf (pc := 12) clC 6 dC_openDamages_12 wd_64 rfl (by decide) hC.1 rfl ?_
    refine se_icmp_ge (pc := 15) (tgt := 36) dC_openDamages_15 (by decide) (fun q2 => absurd q2 (by rw [hnd]; exact nI_ge hlt (by omega))) (fun q2 => ?_)
    refine se_aload_n (pc := 18) rfl dC_openDamages_18 ?_
    refine se_iload_n (pc := 19) rfl dC_openDamages_19 ?_
    refine se_aload_n (pc := 20) rfl dC_openDamages_20 ?_
    refine se_invV (pc := 21) (as := [.int (nI i), .ref a]) (st := []) (vok sc) kC_isOpenDamage dC_openDamages_21 ⟨wd_376, wd_378, sl_5, wd_1⟩ rfl hC.1 rfl (Nat.le_of_ble_eq_true rfl) (Nat.le_of_ble_eq_true rfl) (c_C_isOpenDamage hC hV hj) (C2 := 0) (S2 := 0) (by omega) (by omega) (fun v21 h21 _ q21 => ?_) (fun x hx => absurd hx List.not_mem_nil) (fun v21 h21 _ q21 => ?_)
    rotate_left
    · cases q21.2
    obtain ⟨rfl, q21⟩ := q21
    cases q21
    refine se_if_eq (pc := 24) (tgt := 30) dC_openDamages_24 (by decide) (fun q3 => ?_) (fun q3 => ?_)
    · refine se_iinc (pc := 30) 1 (by decide) rfl dC_openDamages_30 [some (.ref o), some (.ref a), some (.int (st_n2 S v i)), some (.int (nI (i + 1)))] (by rw [nI_1]; rfl) ?_
      refine se_goto (pc := 33) (tgt := 4) dC_openDamages_33 (by decide) ?_
      have e9 : st_n2 S v i = st_n2 S v (i + 1) := by clear ih hC hV; simp only [st_b0] at *; simp_all [st_n2]
      rw [e9]
      exact ih (i + 1) (by omega)
    · refine se_iinc (pc := 27) 1 (by decide) rfl dC_openDamages_27 [some (.ref o), some (.ref a), some (.int ((st_n2 S v i) + 1)), some (.int (nI i))] rfl ?_
      refine se_iinc (pc := 30) 1 (by decide) rfl dC_openDamages_30 [some (.ref o), some (.ref a), some (.int ((st_n2 S v i) + 1)), some (.int (nI (i + 1)))] (by rw [nI_1]; rfl) ?_
      refine se_goto (pc := 33) (tgt := 4) dC_openDamages_33 (by decide) ?_
      have e9 : (st_n2 S v i) + 1 = st_n2 S v (i + 1) := by clear ih hC hV; simp only [st_b0] at *; simp_all [st_n2]
      rw [e9]
      exact ih (i + 1) (by omega)
set_option maxHeartbeats 1000000 in
set_option maxRecDepth 100000 in
theorem c_C_openDamages {o a b v : Nat} {β : Nat → Nat} {S : st_S} (hd : 1 ≤ d) (hC : is_C o β S h) (hV : is_V h a b S v) (hnd : S 25 0 0 = nI (st_nd S)) (hn : st_nd S ≤ 100) : se_W (vG sc) l d mC_openDamages 0 (se_ent 4 [.ref o, .ref a]) [] h 0 0 (fun o h' => h' = h ∧ o = .inl (some (.int (st_n2 S v (st_nd S))))) := by
  obtain ⟨d, rfl⟩ : ∃ e, d = e + 1 := ⟨d - 1, by omega⟩
  show se_W (vG sc) l (d + 1) mC_openDamages 0 [some (.ref o), some (.ref a), none, none] [] h 0 0 _
  refine se_iconst (pc := 0) 0 (by decide) dC_openDamages_0 ?_
  refine se_istore_n (pc := 1) dC_openDamages_1 (by decide) [some (.ref o), some (.ref a), some (.int 0), none] rfl ?_
  refine se_iconst (pc := 2) 0 (by decide) dC_openDamages_2 ?_
  refine se_istore_n (pc := 3) dC_openDamages_3 (by decide) [some (.ref o), some (.ref a), some (.int 0), some (.int 0)] rfl ?_
  exact lp_C_openDamages hC hV hnd hn (st_nd S) 0 (by omega)
set_option maxHeartbeats 1000000 in
set_option maxRecDepth 100000 in
theorem c_C_canRun {o a b k v : Nat} {β : Nat → Nat} {S : st_S} (hd : 3 ≤ d) (hC : is_C o β S h) (hV : is_V h a b S v) (hK : is_K h b S k) (hnd : S 25 0 0 = nI (st_nd S)) (hn : st_nd S ≤ 100) : se_W (vG sc) l d mC_canRun 0 (se_ent 2 [.ref o, .ref a]) [] h 0 0 (fun o h' => h' = h ∧ o = .inl (some (.int (st_b (st_ru S k v))))) := by
  obtain ⟨d, rfl⟩ : ∃ e, d = e + 1 := ⟨d - 1, by omega⟩
  show se_W (vG sc) l (d + 1) mC_canRun 0 [some (.ref o), some (.ref a)] [] h 0 0 _
  refine se_aload_n (pc := 0) rfl dC_canRun_0 ?_
  refine se_getf (pc := 1) clV 9 dC_canRun_1 wd_202 rfl (by decide) hV.1 rfl ?_
  refine se_if_ne (pc := 4) (tgt := 29) dC_canRun_4 (by decide) (fun q1 => ?_) (fun q1 => ?_)
  · refine se_iconst (pc := 29) 0 (by decide) dC_canRun_29 ?_
    exact se_zret (pc := 30) dC_canRun_30 rfl (by decide) ⟨rfl, by first | (simp_all [st_b, st_ru]; done) | (simp_all [st_b, st_ru, Int32.le_iff_toInt_le, Int32.lt_iff_toInt_lt]; omega)⟩
  · refine se_aload_n (pc := 7) rfl dC_canRun_7 ?_
    refine se_aload_n (pc := 8) rfl dC_canRun_8 ?_
    refine se_getf (pc := 9) clC 7 dC_canRun_9 wd_65 rfl (by decide) hC.1 rfl ?_
    refine se_invV (pc := 12) (as := [.int (S 26 0 0)]) (st := []) (vok sc) kV_checksWeight dC_canRun_12 ⟨wd_366, wd_367, wd_368, wd_9⟩ rfl hV.1 rfl (Nat.le_of_ble_eq_true rfl) (Nat.le_of_ble_eq_true rfl) (c_V_checksWeight (by omega) hV hK) (C2 := 0) (S2 := 0) (by omega) (by omega) (fun v12 h12 _ q12 => ?_) (fun x hx => absurd hx List.not_mem_nil) (fun v12 h12 _ q12 => ?_)
    rotate_left
    · cases q12.2
    obtain ⟨rfl, q12⟩ := q12
    cases q12
    refine se_aload_n (pc := 15) rfl dC_canRun_15 ?_
    refine se_aload_n (pc := 16) rfl dC_canRun_16 ?_
    refine se_invV (pc := 17) (as := [.ref a]) (st := [.int (st_w1 S k v (S 26 0 0) 10)]) (vok sc) kC_damagesWeight dC_canRun_17 ⟨wd_372, wd_374, sl_4, wd_1⟩ rfl hC.1 rfl (Nat.le_of_ble_eq_true rfl) (Nat.le_of_ble_eq_true rfl) (c_C_damagesWeight (by omega) hC hV hnd hn) (C2 := 0) (S2 := 0) (by omega) (by omega) (fun v17 h17 _ q17 => ?_) (fun x hx => absurd hx List.not_mem_nil) (fun v17 h17 _ q17 => ?_)
    rotate_left
    · cases q17.2
    obtain ⟨rfl, q17⟩ := q17
    cases q17
    refine se_iadd (pc := 20) dC_canRun_20 ?_
    refine se_iconst (pc := 21) 2 (by decide) dC_canRun_21 ?_
    refine se_icmp_ge (pc := 22) (tgt := 29) dC_canRun_22 (by decide) (fun q2 => ?_) (fun q2 => ?_)
    · refine se_iconst (pc := 29) 0 (by decide) dC_canRun_29 ?_
      exact se_zret (pc := 30) dC_canRun_30 rfl (by decide) ⟨rfl, by first | (simp_all [st_b, st_ru]; done) | (simp_all [st_b, st_ru, Int32.le_iff_toInt_le, Int32.lt_iff_toInt_lt]; omega)⟩
    · refine se_iconst (pc := 25) 1 (by decide) dC_canRun_25 ?_
      refine se_goto (pc := 26) (tgt := 30) dC_canRun_26 (by decide) ?_
      exact se_zret (pc := 30) dC_canRun_30 rfl (by decide) ⟨rfl, by first | (simp_all [st_b, st_ru]; done) | (simp_all [st_b, st_ru, Int32.le_iff_toInt_le, Int32.lt_iff_toInt_lt]; omega)⟩
set_option maxHeartbeats 1000000 in
set_option maxRecDepth 100000 in
theorem lp_C_damageReason {o a b v : Nat} {β : Nat → Nat} {S : st_S} {x : Int32} (hC : is_C o β S h) (hV : is_V h a b S v) (hnd : S 25 0 0 = nI (st_nd S)) (hn : st_nd S ≤ 100) : ∀ (n : Nat) (i : Nat) (y : Int32), i + n = st_nd S → se_W (vG sc) l (d + 1) mC_damageReason 5 [some (.ref o), some (.ref a), some (.int x), some (.int y), some (.int (nI i))] [] h 0 0 (fun o h' => h' = h ∧ o = .inl (some (.int (st_dr S v n i y)))) := by
  intro n
  induction n with
  | zero =>
    intro i y hi
    obtain rfl : i = st_nd S := by omega
    refine se_iload (pc := 5) rfl dC_damageReason_5 ?_
    refine se_bipush (pc := 7) 100 (by decide) dC_damageReason_7 ?_
    refine se_icmp_ge (pc := 9) (tgt := 63) dC_damageReason_9 (by decide) (fun q1 => ?_) (fun q1 => ?_)
    · refine se_iconst (pc := 63) (-1) (by decide) dC_damageReason_63 ?_
      exact se_iret (pc := 64) dC_damageReason_64 rfl ⟨rfl, rfl⟩
    · refine se_iload (pc := 12) rfl dC_damageReason_12 ?_
      refine se_aload_n (pc := 14) rfl dC_damageReason_14 ?_
      refine se_getf (pc := 15) clC 6 dC_damageReason_15 wd_64 rfl (by decide) hC.1 rfl ?_
      refine se_icmp_ge (pc := 18) (tgt := 63) dC_damageReason_18 (by decide) (fun q2 => ?_) (fun q2 => absurd q2 (fun z => z (by rw [hnd]; exact Int32.le_refl _)))
      refine se_iconst (pc := 63) (-1) (by decide) dC_damageReason_63 ?_
      exact se_iret (pc := 64) dC_damageReason_64 rfl ⟨rfl, rfl⟩
  | succ n ih =>
    intro i y hi
    have hlt : i < st_nd S := by omega
    have hj : i < 100 := by omega
    refine se_iload (pc := 5) rfl dC_damageReason_5 ?_
    refine se_bipush (pc := 7) 100 (by decide) dC_damageReason_7 ?_
    refine se_icmp_ge (pc := 9) (tgt := 63) dC_damageReason_9 (by decide) (fun q1 => absurd q1 (nI_ge (b := 100) hj (by decide))) (fun q1 => ?_)
    refine se_iload (pc := 12) rfl dC_damageReason_12 ?_
    refine se_aload_n (pc := 14) rfl dC_damageReason_14 ?_
    refine se_getf (pc := 15) clC 6 dC_damageReason_15 wd_64 rfl (by decide) hC.1 rfl ?_
    refine se_icmp_ge (pc := 18) (tgt := 63) dC_damageReason_18 (by decide) (fun q2 => absurd q2 (by rw [hnd]; exact nI_ge hlt (by omega))) (fun q2 => ?_)
    refine se_aload_n (pc := 21) rfl dC_damageReason_21 ?_
    refine se_iload (pc := 22) rfl dC_damageReason_22 ?_
    refine se_aload_n (pc := 24) rfl dC_damageReason_24 ?_
    refine se_invV (pc := 25) (as := [.int (nI i), .ref a]) (st := []) (vok sc) kC_isOpenDamage dC_damageReason_25 ⟨wd_376, wd_378, sl_5, wd_1⟩ rfl hC.1 rfl (Nat.le_of_ble_eq_true rfl) (Nat.le_of_ble_eq_true rfl) (c_C_isOpenDamage hC hV hj) (C2 := 0) (S2 := 0) (by omega) (by omega) (fun v25 h25 _ q25 => ?_) (fun x hx => absurd hx List.not_mem_nil) (fun v25 h25 _ q25 => ?_)
    rotate_left
    · cases q25.2
    obtain ⟨rfl, q25⟩ := q25
    cases q25
    refine se_if_eq (pc := 28) (tgt := 57) dC_damageReason_28 (by decide) (fun q3 => ?_) (fun q3 => ?_)
    · refine se_iinc (pc := 57) 1 (by decide) rfl dC_damageReason_57 [some (.ref o), some (.ref a), some (.int x), some (.int y), some (.int (nI (i + 1)))] (by rw [nI_1]; rfl) ?_
      refine se_goto (pc := 60) (tgt := 5) dC_damageReason_60 (by decide) ?_
      have e9 : st_dr S v (n + 1) i y = st_dr S v n (i + 1) (y) := by clear ih hC hV; simp only [st_b0] at *; simp_all [st_dr]
      rw [e9]
      exact ih (i + 1) _ (by omega)
    · refine se_iload_n (pc := 31) rfl dC_damageReason_31 ?_
      refine se_if_ne (pc := 32) (tgt := 54) dC_damageReason_32 (by decide) (fun q4 => ?_) (fun q4 => ?_)
      · refine se_iinc (pc := 54) (-1) (by decide) rfl dC_damageReason_54 [some (.ref o), some (.ref a), some (.int x), some (.int (y + (-1))), some (.int (nI i))] rfl ?_
        refine se_iinc (pc := 57) 1 (by decide) rfl dC_damageReason_57 [some (.ref o), some (.ref a), some (.int x), some (.int (y + (-1))), some (.int (nI (i + 1)))] (by rw [nI_1]; rfl) ?_
        refine se_goto (pc := 60) (tgt := 5) dC_damageReason_60 (by decide) ?_
        have e9 : st_dr S v (n + 1) i y = st_dr S v n (i + 1) (y + (-1)) := by clear ih hC hV; simp only [st_b0] at *; simp_all [st_dr]
        rw [e9]
        exact ih (i + 1) _ (by omega)
      · refine se_sipush (pc := 35) 10000 (by decide) dC_damageReason_35 ?_
        refine se_aload_n (pc := 38) rfl dC_damageReason_38 ?_
        refine se_getf (pc := 39) clC 3 dC_damageReason_39 wd_61 rfl (by decide) hC.1 rfl ?_
        refine se_iload (pc := 42) rfl dC_damageReason_42 ?_
        refine se_ialdN (pc := 44) 0 dC_damageReason_44 rfl hC.2.2.2.2.1 hj (by decide) ?_
        refine se_imul (pc := 45) dC_damageReason_45 ?_
        refine se_sipush (pc := 46) 1000 (by decide) dC_damageReason_46 ?_
        refine se_iadd (pc := 49) dC_damageReason_49 ?_
        refine se_iload (pc := 50) rfl dC_damageReason_50 ?_
        refine se_iadd (pc := 52) dC_damageReason_52 ?_
        exact se_iret (pc := 53) dC_damageReason_53 rfl ⟨rfl, by simp only [st_b0] at *; simp_all [st_dr]⟩
set_option maxHeartbeats 1000000 in
set_option maxRecDepth 100000 in
theorem c_C_damageReason {o a b v : Nat} {β : Nat → Nat} {S : st_S} {x : Int32} (hd : 1 ≤ d) (hC : is_C o β S h) (hV : is_V h a b S v) (hnd : S 25 0 0 = nI (st_nd S)) (hn : st_nd S ≤ 100) : se_W (vG sc) l d mC_damageReason 0 (se_ent 5 [.ref o, .ref a, .int x]) [] h 0 0 (fun o h' => h' = h ∧ o = .inl (some (.int (st_dr S v (st_nd S) 0 x)))) := by
  obtain ⟨d, rfl⟩ : ∃ e, d = e + 1 := ⟨d - 1, by omega⟩
  show se_W (vG sc) l (d + 1) mC_damageReason 0 [some (.ref o), some (.ref a), some (.int x), none, none] [] h 0 0 _
  refine se_iload_n (pc := 0) rfl dC_damageReason_0 ?_
  refine se_istore_n (pc := 1) dC_damageReason_1 (by decide) [some (.ref o), some (.ref a), some (.int x), some (.int x), none] rfl ?_
  refine se_iconst (pc := 2) 0 (by decide) dC_damageReason_2 ?_
  refine se_istore (pc := 3) dC_damageReason_3 (by decide) [some (.ref o), some (.ref a), some (.int x), some (.int x), some (.int 0)] rfl ?_
  exact lp_C_damageReason hC hV hnd hn (st_nd S) 0 _ (by omega)
end LOOPS
end
section
/-! what holds of every state; spare vehicles -/
def st_I (S : st_S) : Prop := S 24 0 0 = nI (st_nv S) ∧ st_nv S ≤ 20 ∧ S 25 0 0 = nI (st_nd S) ∧ st_nd S ≤ 100 ∧ ∀ v, v < st_nv S → st_kd S v < 5
theorem st_K_inj {o a b : Nat} : st_K o a = st_K o b ↔ a = b := by simp only [st_K]; omega
def st_sp (S : st_S) (w v : Nat) : Bool := !decide (nI w = nI v) && (decide (st_kd S w = st_kd S v) && (!decide (S 12 w 0 = 0) && st_ru S (st_kd S w) w))
/-- the best spare vehicle among n from i on, r so far -/
def st_bs (S : st_S) (v : Nat) : Nat → Nat → Option Nat → Option Nat
  | 0, _, r => r
  | n + 1, i, r => st_bs S v n (i + 1) (if st_sp S i v then (match r with | none => some i | some w => if S 15 i 0 < S 15 w 0 then some i else some w) else r)
theorem st_cV {o : Nat} {β : Nat → Nat} {S : st_S} {h : se_H} (hC : is_C o β S h) {v : Nat} (hv : v < st_nv S) : is_V h (β v) (st_K o (st_kd S v)) S v := hC.2.2.2.2.2.2.2.1 v hv
theorem st_cK {o : Nat} {β : Nat → Nat} {S : st_S} {h : se_H} (hC : is_C o β S h) {k : Nat} (hk : k < 5) : is_K h (st_K o k) S k := hC.2.2.2.2.2.2.1 k hk
end
section
section SPARE
variable {sc : List (Nat × Nat × (Nat → Int32))} {l : Launch} {d : Nat} {h : se_H} {o : Nat} {β : Nat → Nat} {S : st_S}
set_option maxHeartbeats 1000000 in
set_option maxRecDepth 100000 in
theorem c_C_isSpareFor {w v : Nat} (hd : 4 ≤ d) (hC : is_C o β S h) (hI : st_I S) (hw : w < st_nv S) (hv : v < st_nv S) : se_W (vG sc) l d mC_isSpareFor 0 (se_ent 3 [.ref o, .ref (β w), .ref (β v)]) [] h 0 0 (fun o h' => h' = h ∧ o = .inl (some (.int (st_b (st_sp S w v))))) := by
  obtain ⟨d, rfl⟩ : ∃ e, d = e + 1 := ⟨d - 1, by omega⟩
  show se_W (vG sc) l (d + 1) mC_isSpareFor 0 [some (.ref o), some (.ref (β w)), some (.ref (β v))] [] h 0 0 _
  have hW := st_cV hC hw
  have hV := st_cV hC hv
  have hKw := st_cK hC (hI.2.2.2.2 w hw)
  refine se_aload_n (pc := 0) rfl dC_isSpareFor_0 ?_
  refine se_getf (pc := 1) clV 0 dC_isSpareFor_1 wd_187 rfl (by decide) hW.1 rfl ?_
  refine se_aload_n (pc := 4) rfl dC_isSpareFor_4 ?_
  refine se_getf (pc := 5) clV 0 dC_isSpareFor_5 wd_187 rfl (by decide) hV.1 rfl ?_
  refine se_icmp_eq (pc := 8) (tgt := 41) dC_isSpareFor_8 (by decide) (fun q1 => ?_) (fun q1 => ?_)
  · refine se_iconst (pc := 41) 0 (by decide) dC_isSpareFor_41 ?_
    exact se_zret (pc := 42) dC_isSpareFor_42 rfl (by decide) ⟨rfl, by (try simp only [Option.some.injEq, st_K_inj, st_b0] at *); simp_all [st_b, st_sp]⟩
  · refine se_aload_n (pc := 11) rfl dC_isSpareFor_11 ?_
    refine se_getf (pc := 12) clV 1 dC_isSpareFor_12 wd_189 rfl (by decide) hW.1 rfl ?_
    refine se_aload_n (pc := 15) rfl dC_isSpareFor_15 ?_
    refine se_getf (pc := 16) clV 1 dC_isSpareFor_16 wd_189 rfl (by decide) hV.1 rfl ?_
    refine se_acmp_ne (pc := 19) (rx := (some (st_K o (st_kd S w)))) (ry := (some (st_K o (st_kd S v)))) (tgt := 41) dC_isSpareFor_19 (by decide) (fun q2 => ?_) (fun q2 => ?_)
    · refine se_iconst (pc := 41) 0 (by decide) dC_isSpareFor_41 ?_
      exact se_zret (pc := 42) dC_isSpareFor_42 rfl (by decide) ⟨rfl, by (try simp only [Option.some.injEq, st_K_inj, st_b0] at *); simp_all [st_b, st_sp]⟩
    · refine se_aload_n (pc := 22) rfl dC_isSpareFor_22 ?_
      refine se_getf (pc := 23) clV 2 dC_isSpareFor_23 wd_191 rfl (by decide) hW.1 rfl ?_
      refine se_if_eq (pc := 26) (tgt := 41) dC_isSpareFor_26 (by decide) (fun q3 => ?_) (fun q3 => ?_)
      · refine se_iconst (pc := 41) 0 (by decide) dC_isSpareFor_41 ?_
        exact se_zret (pc := 42) dC_isSpareFor_42 rfl (by decide) ⟨rfl, by (try simp only [Option.some.injEq, st_K_inj, st_b0] at *); simp_all [st_b, st_sp]⟩
      · refine se_aload_n (pc := 29) rfl dC_isSpareFor_29 ?_
        refine se_aload_n (pc := 30) rfl dC_isSpareFor_30 ?_
        refine se_invV (pc := 31) (as := [.ref (β w)]) (st := []) (vok sc) kC_canRun dC_isSpareFor_31 ⟨wd_362, wd_364, sl_3, wd_1⟩ rfl hC.1 rfl (Nat.le_of_ble_eq_true rfl) (Nat.le_of_ble_eq_true rfl) (c_C_canRun (by omega) hC hW hKw hI.2.2.1 hI.2.2.2.1) (C2 := 0) (S2 := 0) (by omega) (by omega) (fun v31 h31 _ q31 => ?_) (fun x hx => absurd hx List.not_mem_nil) (fun v31 h31 _ q31 => ?_)
        rotate_left
        · cases q31.2
        obtain ⟨rfl, q31⟩ := q31
        cases q31
        refine se_if_eq (pc := 34) (tgt := 41) dC_isSpareFor_34 (by decide) (fun q4 => ?_) (fun q4 => ?_)
        · refine se_iconst (pc := 41) 0 (by decide) dC_isSpareFor_41 ?_
          exact se_zret (pc := 42) dC_isSpareFor_42 rfl (by decide) ⟨rfl, by (try simp only [Option.some.injEq, st_K_inj, st_b0] at *); simp_all [st_b, st_sp]⟩
        · refine se_iconst (pc := 37) 1 (by decide) dC_isSpareFor_37 ?_
          refine se_goto (pc := 38) (tgt := 42) dC_isSpareFor_38 (by decide) ?_
          exact se_zret (pc := 42) dC_isSpareFor_42 rfl (by decide) ⟨rfl, by (try simp only [Option.some.injEq, st_K_inj, st_b0] at *); simp_all [st_b, st_sp]⟩
set_option maxHeartbeats 1000000 in
set_option maxRecDepth 100000 in
theorem lp_C_bestSpare {v : Nat} (hd : 4 ≤ d) (hC : is_C o β S h) (hI : st_I S) (hv : v < st_nv S) : ∀ (n i : Nat) (r : Option Nat) (z : Option Value), i + n = st_nv S → (∀ w, r = some w → w < st_nv S) → se_W (vG sc) l (d + 1) mC_bestSpare 4 [some (.ref o), some (.ref (β v)), some (va_rf (r.map β)), some (.int (nI i)), z] [] h 0 0 (fun u h' => h' = h ∧ u = .inl (some (va_rf ((st_bs S v n i r).map β)))) := by
  intro n
  induction n with
  | zero =>
    intro i r z hi hr
    obtain rfl : i = st_nv S := by omega
    cases r with
    | none =>
      by_cases h20 : st_nv S = 20
      · refine se_iload_n (pc := 4) rfl dC_bestSpare_4 ?_
        refine se_bipush (pc := 5) 20 (by decide) dC_bestSpare_5 ?_
        refine se_icmp_ge (pc := 7) (tgt := 62) dC_bestSpare_7 (by decide) (fun q1 => ?_) (fun q1 => absurd q1 (fun z => z (by rw [h20]; exact Int32.le_refl _)))
        refine se_aload_nN (pc := 62) rfl dC_bestSpare_62 ?_
        exact se_aret (pc := 63) (r := none) dC_bestSpare_63 rfl ⟨rfl, rfl⟩
      · refine se_iload_n (pc := 4) rfl dC_bestSpare_4 ?_
        refine se_bipush (pc := 5) 20 (by decide) dC_bestSpare_5 ?_
        refine se_icmp_ge (pc := 7) (tgt := 62) dC_bestSpare_7 (by decide) (fun q1 => absurd q1 (nI_ge (b := 20) (by have := hI.2.1; omega) (by decide))) (fun q1 => ?_)
        refine se_aload_n (pc := 10) rfl dC_bestSpare_10 ?_
        refine se_getf (pc := 11) clC 1 dC_bestSpare_11 wd_59 rfl (by decide) hC.1 rfl ?_
        refine se_iload_n (pc := 14) rfl dC_bestSpare_14 ?_
        refine se_aaldN (pc := 15) 4 dC_bestSpare_15 rfl hC.2.2.1 (by have := hI.2.1; omega) (by decide) none (if_neg (Nat.lt_irrefl _)) ?_
        refine se_ifnullN (pc := 16) (tgt := 62) dC_bestSpare_16 (by decide) ?_
        refine se_aload_nN (pc := 62) rfl dC_bestSpare_62 ?_
        exact se_aret (pc := 63) (r := none) dC_bestSpare_63 rfl ⟨rfl, rfl⟩
    | some w =>
      by_cases h20 : st_nv S = 20
      · refine se_iload_n (pc := 4) rfl dC_bestSpare_4 ?_
        refine se_bipush (pc := 5) 20 (by decide) dC_bestSpare_5 ?_
        refine se_icmp_ge (pc := 7) (tgt := 62) dC_bestSpare_7 (by decide) (fun q1 => ?_) (fun q1 => absurd q1 (fun z => z (by rw [h20]; exact Int32.le_refl _)))
        refine se_aload_n (pc := 62) rfl dC_bestSpare_62 ?_
        exact se_aret (pc := 63) (r := some (β w)) dC_bestSpare_63 rfl ⟨rfl, rfl⟩
      · refine se_iload_n (pc := 4) rfl dC_bestSpare_4 ?_
        refine se_bipush (pc := 5) 20 (by decide) dC_bestSpare_5 ?_
        refine se_icmp_ge (pc := 7) (tgt := 62) dC_bestSpare_7 (by decide) (fun q1 => absurd q1 (nI_ge (b := 20) (by have := hI.2.1; omega) (by decide))) (fun q1 => ?_)
        refine se_aload_n (pc := 10) rfl dC_bestSpare_10 ?_
        refine se_getf (pc := 11) clC 1 dC_bestSpare_11 wd_59 rfl (by decide) hC.1 rfl ?_
        refine se_iload_n (pc := 14) rfl dC_bestSpare_14 ?_
        refine se_aaldN (pc := 15) 4 dC_bestSpare_15 rfl hC.2.2.1 (by have := hI.2.1; omega) (by decide) none (if_neg (Nat.lt_irrefl _)) ?_
        refine se_ifnullN (pc := 16) (tgt := 62) dC_bestSpare_16 (by decide) ?_
        refine se_aload_n (pc := 62) rfl dC_bestSpare_62 ?_
        exact se_aret (pc := 63) (r := some (β w)) dC_bestSpare_63 rfl ⟨rfl, rfl⟩
  | succ n ih =>
    intro i r z hi hr
    have hi2 : i < st_nv S := by omega
    have hj : i < 20 := by have := hI.2.1; omega
    have hVi := st_cV hC hi2
    cases r with
    | none =>
      refine se_iload_n (pc := 4) rfl dC_bestSpare_4 ?_
      refine se_bipush (pc := 5) 20 (by decide) dC_bestSpare_5 ?_
      refine se_icmp_ge (pc := 7) (tgt := 62) dC_bestSpare_7 (by decide) (fun q1 => absurd q1 (nI_ge (b := 20) hj (by decide))) (fun q1 => ?_)
      refine se_aload_n (pc := 10) rfl dC_bestSpare_10 ?_
      refine se_getf (pc := 11) clC 1 dC_bestSpare_11 wd_59 rfl (by decide) hC.1 rfl ?_
      refine se_iload_n (pc := 14) rfl dC_bestSpare_14 ?_
      refine se_aaldN (pc := 15) 4 dC_bestSpare_15 rfl hC.2.2.1 hj (by decide) (some (β i)) (if_pos hi2) ?_
      refine se_ifnull (pc := 16) dC_bestSpare_16 ?_
      refine se_aload_n (pc := 19) rfl dC_bestSpare_19 ?_
      refine se_getf (pc := 20) clC 1 dC_bestSpare_20 wd_59 rfl (by decide) hC.1 rfl ?_
      refine se_iload_n (pc := 23) rfl dC_bestSpare_23 ?_
      refine se_aaldN (pc := 24) 4 dC_bestSpare_24 rfl hC.2.2.1 hj (by decide) (some (β i)) (if_pos hi2) ?_
      refine se_astore (pc := 25) dC_bestSpare_25 (by decide) [some (.ref o), some (.ref (β v)), some (.null), some (.int (nI i)), some (.ref (β i))] rfl ?_
      refine se_aload_n (pc := 27) rfl dC_bestSpare_27 ?_
      refine se_aload (pc := 28) rfl dC_bestSpare_28 ?_
      refine se_aload_n (pc := 30) rfl dC_bestSpare_30 ?_
      refine se_invV (pc := 31) (as := [.ref (β i), .ref (β v)]) (st := []) (vok sc) kC_isSpareFor dC_bestSpare_31 ⟨wd_475, wd_477, sl_8, wd_1⟩ rfl hC.1 rfl (Nat.le_of_ble_eq_true rfl) (Nat.le_of_ble_eq_true rfl) (c_C_isSpareFor (by omega) hC hI hi2 hv) (C2 := 0) (S2 := 0) (by omega) (by omega) (fun v31 h31 _ q31 => ?_) (fun x hx => absurd hx List.not_mem_nil) (fun v31 h31 _ q31 => ?_)
      rotate_left
      · cases q31.2
      obtain ⟨rfl, q31⟩ := q31
      cases q31
      refine se_if_eq (pc := 34) (tgt := 56) dC_bestSpare_34 (by decide) (fun q2 => ?_) (fun q2 => ?_)
      · refine se_iinc (pc := 56) 1 (by decide) rfl dC_bestSpare_56 [some (.ref o), some (.ref (β v)), some (.null), some (.int (nI (i + 1))), some (.ref (β i))] (by rw [nI_1]; rfl) ?_
        refine se_goto (pc := 59) (tgt := 4) dC_bestSpare_59 (by decide) ?_
        have e9 : st_bs S v (n + 1) i (none) = st_bs S v n (i + 1) none := by clear ih hC; (try simp only [st_b0, Int32.not_lt] at *); first | (simp_all [st_bs]; done) | (simp_all [st_bs]; rw [if_neg (by rw [Int32.not_lt]; assumption)])
        rw [e9]
        exact ih (i + 1) none _ (by omega) (fun w9 h9 => by cases h9 <;> first | exact hi2 | exact hr _ rfl)
      · refine se_aload_nN (pc := 37) rfl dC_bestSpare_37 ?_
        refine se_ifnullN (pc := 38) (tgt := 53) dC_bestSpare_38 (by decide) ?_
        refine se_aload (pc := 53) rfl dC_bestSpare_53 ?_
        refine se_astore_n (pc := 55) dC_bestSpare_55 (by decide) [some (.ref o), some (.ref (β v)), some (.ref (β i)), some (.int (nI i)), some (.ref (β i))] rfl ?_
        refine se_iinc (pc := 56) 1 (by decide) rfl dC_bestSpare_56 [some (.ref o), some (.ref (β v)), some (.ref (β i)), some (.int (nI (i + 1))), some (.ref (β i))] (by rw [nI_1]; rfl) ?_
        refine se_goto (pc := 59) (tgt := 4) dC_bestSpare_59 (by decide) ?_
        have e9 : st_bs S v (n + 1) i (none) = st_bs S v n (i + 1) (some i) := by clear ih hC; (try simp only [st_b0, Int32.not_lt] at *); first | (simp_all [st_bs]; done) | (simp_all [st_bs]; rw [if_neg (by rw [Int32.not_lt]; assumption)])
        rw [e9]
        exact ih (i + 1) (some i) _ (by omega) (fun w9 h9 => by cases h9 <;> first | exact hi2 | exact hr _ rfl)
    | some w =>
      have hW := st_cV hC (hr w rfl)
      refine se_iload_n (pc := 4) rfl dC_bestSpare_4 ?_
      refine se_bipush (pc := 5) 20 (by decide) dC_bestSpare_5 ?_
      refine se_icmp_ge (pc := 7) (tgt := 62) dC_bestSpare_7 (by decide) (fun q1 => absurd q1 (nI_ge (b := 20) hj (by decide))) (fun q1 => ?_)
      refine se_aload_n (pc := 10) rfl dC_bestSpare_10 ?_
      refine se_getf (pc := 11) clC 1 dC_bestSpare_11 wd_59 rfl (by decide) hC.1 rfl ?_
      refine se_iload_n (pc := 14) rfl dC_bestSpare_14 ?_
      refine se_aaldN (pc := 15) 4 dC_bestSpare_15 rfl hC.2.2.1 hj (by decide) (some (β i)) (if_pos hi2) ?_
      refine se_ifnull (pc := 16) dC_bestSpare_16 ?_
      refine se_aload_n (pc := 19) rfl dC_bestSpare_19 ?_
      refine se_getf (pc := 20) clC 1 dC_bestSpare_20 wd_59 rfl (by decide) hC.1 rfl ?_
      refine se_iload_n (pc := 23) rfl dC_bestSpare_23 ?_
      refine se_aaldN (pc := 24) 4 dC_bestSpare_24 rfl hC.2.2.1 hj (by decide) (some (β i)) (if_pos hi2) ?_
      refine se_astore (pc := 25) dC_bestSpare_25 (by decide) [some (.ref o), some (.ref (β v)), some (.ref (β w)), some (.int (nI i)), some (.ref (β i))] rfl ?_
      refine se_aload_n (pc := 27) rfl dC_bestSpare_27 ?_
      refine se_aload (pc := 28) rfl dC_bestSpare_28 ?_
      refine se_aload_n (pc := 30) rfl dC_bestSpare_30 ?_
      refine se_invV (pc := 31) (as := [.ref (β i), .ref (β v)]) (st := []) (vok sc) kC_isSpareFor dC_bestSpare_31 ⟨wd_475, wd_477, sl_8, wd_1⟩ rfl hC.1 rfl (Nat.le_of_ble_eq_true rfl) (Nat.le_of_ble_eq_true rfl) (c_C_isSpareFor (by omega) hC hI hi2 hv) (C2 := 0) (S2 := 0) (by omega) (by omega) (fun v31 h31 _ q31 => ?_) (fun x hx => absurd hx List.not_mem_nil) (fun v31 h31 _ q31 => ?_)
      rotate_left
      · cases q31.2
      obtain ⟨rfl, q31⟩ := q31
      cases q31
      refine se_if_eq (pc := 34) (tgt := 56) dC_bestSpare_34 (by decide) (fun q2 => ?_) (fun q2 => ?_)
      · refine se_iinc (pc := 56) 1 (by decide) rfl dC_bestSpare_56 [some (.ref o), some (.ref (β v)), some (.ref (β w)), some (.int (nI (i + 1))), some (.ref (β i))] (by rw [nI_1]; rfl) ?_
        refine se_goto (pc := 59) (tgt := 4) dC_bestSpare_59 (by decide) ?_
        have e9 : st_bs S v (n + 1) i (some w) = st_bs S v n (i + 1) (some w) := by clear ih hC; (try simp only [st_b0, Int32.not_lt] at *); first | (simp_all [st_bs]; done) | (simp_all [st_bs]; rw [if_neg (by rw [Int32.not_lt]; assumption)])
        rw [e9]
        exact ih (i + 1) (some w) _ (by omega) (fun w9 h9 => by cases h9 <;> first | exact hi2 | exact hr _ rfl)
      · refine se_aload_n (pc := 37) rfl dC_bestSpare_37 ?_
        refine se_ifnull (pc := 38) dC_bestSpare_38 ?_
        refine se_aload (pc := 41) rfl dC_bestSpare_41 ?_
        refine se_getf (pc := 43) clV 10 dC_bestSpare_43 wd_204 rfl (by decide) hVi.1 rfl ?_
        refine se_aload_n (pc := 46) rfl dC_bestSpare_46 ?_
        refine se_getf (pc := 47) clV 10 dC_bestSpare_47 wd_204 rfl (by decide) hW.1 rfl ?_
        refine se_icmp_ge (pc := 50) (tgt := 56) dC_bestSpare_50 (by decide) (fun q3 => ?_) (fun q3 => ?_)
        · refine se_iinc (pc := 56) 1 (by decide) rfl dC_bestSpare_56 [some (.ref o), some (.ref (β v)), some (.ref (β w)), some (.int (nI (i + 1))), some (.ref (β i))] (by rw [nI_1]; rfl) ?_
          refine se_goto (pc := 59) (tgt := 4) dC_bestSpare_59 (by decide) ?_
          have e9 : st_bs S v (n + 1) i (some w) = st_bs S v n (i + 1) (some w) := by clear ih hC; (try simp only [st_b0, Int32.not_lt] at *); first | (simp_all [st_bs]; done) | (simp_all [st_bs]; rw [if_neg (by rw [Int32.not_lt]; assumption)])
          rw [e9]
          exact ih (i + 1) (some w) _ (by omega) (fun w9 h9 => by cases h9 <;> first | exact hi2 | exact hr _ rfl)
        · refine se_aload (pc := 53) rfl dC_bestSpare_53 ?_
          refine se_astore_n (pc := 55) dC_bestSpare_55 (by decide) [some (.ref o), some (.ref (β v)), some (.ref (β i)), some (.int (nI i)), some (.ref (β i))] rfl ?_
          refine se_iinc (pc := 56) 1 (by decide) rfl dC_bestSpare_56 [some (.ref o), some (.ref (β v)), some (.ref (β i)), some (.int (nI (i + 1))), some (.ref (β i))] (by rw [nI_1]; rfl) ?_
          refine se_goto (pc := 59) (tgt := 4) dC_bestSpare_59 (by decide) ?_
          have e9 : st_bs S v (n + 1) i (some w) = st_bs S v n (i + 1) (some i) := by clear ih hC; (try simp only [st_b0, Int32.not_lt] at *); first | (simp_all [st_bs]; done) | (simp_all [st_bs]; rw [if_neg (by rw [Int32.not_lt]; assumption)])
          rw [e9]
          exact ih (i + 1) (some i) _ (by omega) (fun w9 h9 => by cases h9 <;> first | exact hi2 | exact hr _ rfl)
set_option maxHeartbeats 1000000 in
set_option maxRecDepth 100000 in
theorem c_C_bestSpare {v : Nat} (hd : 5 ≤ d) (hC : is_C o β S h) (hI : st_I S) (hv : v < st_nv S) : se_W (vG sc) l d mC_bestSpare 0 (se_ent 5 [.ref o, .ref (β v)]) [] h 0 0 (fun u h' => h' = h ∧ u = .inl (some (va_rf ((st_bs S v (st_nv S) 0 none).map β)))) := by
  obtain ⟨d, rfl⟩ : ∃ e, d = e + 1 := ⟨d - 1, by omega⟩
  show se_W (vG sc) l (d + 1) mC_bestSpare 0 [some (.ref o), some (.ref (β v)), none, none, none] [] h 0 0 _
  refine se_null (pc := 0) dC_bestSpare_0 ?_
  refine se_astore_nN (pc := 1) dC_bestSpare_1 (by decide) [some (.ref o), some (.ref (β v)), some (.null), none, none] rfl ?_
  refine se_iconst (pc := 2) 0 (by decide) dC_bestSpare_2 ?_
  refine se_istore_n (pc := 3) dC_bestSpare_3 (by decide) [some (.ref o), some (.ref (β v)), some (.null), some (.int 0), none] rfl ?_
  exact lp_C_bestSpare (by omega) hC hI hv (st_nv S) 0 none _ (by omega) (fun w h9 => by cases h9)
end SPARE
end
section
/-! the greatest common divisor -/
def st_gc : Nat → Nat → Nat → Nat
  | 0, x, _ => x
  | n + 1, x, y => if y = 0 then x else st_gc n y (x % y)
theorem st_lc0 {y : Nat} (hy : y < 2 ^ 62) : lg_cmp (lN y) 0 = 0 ↔ y = 0 := by
  have e : (0 : Int64) = lN 0 := rfl
  rw [e]
  by_cases h : y = 0
  · subst h; simp [lg_cmp]
  · have h1 : lN 0 < lN y := (pk_lLT (by omega) (by omega)).mpr (by omega)
    simp [lg_cmp, h1, h]
section GCD
variable {sc : List (Nat × Nat × (Nat → Int32))} {l : Launch} {d : Nat} {h : se_H}
set_option maxHeartbeats 1000000 in
set_option maxRecDepth 100000 in
theorem lp_C_commonDivisor {A B : Int64} (hd : 1 ≤ d) : ∀ (n i x y : Nat) (z1 z2 : Option Value), i + n = 200 → x < 2 ^ 62 → y < 2 ^ 62 → se_W (vG sc) l d mC_commonDivisor 9 [some (.long A), none, some (.long B), none, some (.long (lN x)), none, some (.long (lN y)), none, some (.int (nI i)), z1, z2] [] h 0 0 (fun o h' => h' = h ∧ o = .inl (some (.long (if lN (st_gc n x y) < 1 then 1 else lN (st_gc n x y))))) := by
  intro n
  induction n with
  | zero =>
    intro i x y z1 z2 hi hx hy
    obtain rfl : i = 200 := by omega
    refine se_iload (pc := 9) rfl dC_commonDivisor_9 ?_
    refine se_sipush (pc := 11) 200 (by decide) dC_commonDivisor_11 ?_
    refine se_icmp_ge (pc := 14) (tgt := 45) dC_commonDivisor_14 (by decide) (fun q1 => ?_) (fun q1 => absurd q1 (fun z => z (Int32.le_refl _)))
    refine se_lconst (pc := 45) 1 (by decide) dC_commonDivisor_45 ?_
    refine se_lload (pc := 46) rfl dC_commonDivisor_46 ?_
    refine se_maxL (pc := 48) (by omega) dC_commonDivisor_48 ⟨wd_503, wd_504, wd_12, wd_505⟩ (Nat.le_of_ble_eq_true rfl) ?_
    exact se_lret (pc := 51) dC_commonDivisor_51 rfl ⟨rfl, rfl⟩
  | succ n ih =>
    intro i x y z1 z2 hi hx hy
    by_cases h0 : y = 0
    · refine se_iload (pc := 9) rfl dC_commonDivisor_9 ?_
      refine se_sipush (pc := 11) 200 (by decide) dC_commonDivisor_11 ?_
      refine se_icmp_ge (pc := 14) (tgt := 45) dC_commonDivisor_14 (by decide) (fun q1 => absurd q1 (nI_ge (b := 200) (by omega) (by decide))) (fun q1 => ?_)
      refine se_lload (pc := 17) rfl dC_commonDivisor_17 ?_
      refine se_lconst (pc := 19) 0 (by decide) dC_commonDivisor_19 ?_
      refine se_lcmp (pc := 20) dC_commonDivisor_20 ?_
      refine se_if_eq (pc := 21) (tgt := 45) dC_commonDivisor_21 (by decide) (fun q2 => ?_) (fun q2 => absurd q2 (fun z => z ((st_lc0 hy).mpr h0)))
      refine se_lconst (pc := 45) 1 (by decide) dC_commonDivisor_45 ?_
      refine se_lload (pc := 46) rfl dC_commonDivisor_46 ?_
      refine se_maxL (pc := 48) (by omega) dC_commonDivisor_48 ⟨wd_503, wd_504, wd_12, wd_505⟩ (Nat.le_of_ble_eq_true rfl) ?_
      exact se_lret (pc := 51) dC_commonDivisor_51 rfl ⟨rfl, by rw [st_gc, if_pos h0]⟩
    · refine se_iload (pc := 9) rfl dC_commonDivisor_9 ?_
      refine se_sipush (pc := 11) 200 (by decide) dC_commonDivisor_11 ?_
      refine se_icmp_ge (pc := 14) (tgt := 45) dC_commonDivisor_14 (by decide) (fun q1 => absurd q1 (nI_ge (b := 200) (by omega) (by decide))) (fun q1 => ?_)
      refine se_lload (pc := 17) rfl dC_commonDivisor_17 ?_
      refine se_lconst (pc := 19) 0 (by decide) dC_commonDivisor_19 ?_
      refine se_lcmp (pc := 20) dC_commonDivisor_20 ?_
      refine se_if_eq (pc := 21) (tgt := 45) dC_commonDivisor_21 (by decide) (fun q2 => absurd q2 (fun z => h0 ((st_lc0 hy).mp z))) (fun q2 => ?_)
      refine se_lload (pc := 24) rfl dC_commonDivisor_24 ?_
      refine se_lload (pc := 26) rfl dC_commonDivisor_26 ?_
      refine se_lrem (pc := 28) (fun z => h0 ((pk_lEQ (b := 0) (by omega) (by decide)).mp z)) dC_commonDivisor_28 ?_
      rw [pk_lRem (by omega) (by omega) (by omega)]
      refine se_lstore (pc := 29) dC_commonDivisor_29 (by decide) [some (.long A), none, some (.long B), none, some (.long (lN x)), none, some (.long (lN y)), none, some (.int (nI i)), some (.long (lN (x % y))), none] rfl ?_
      refine se_lload (pc := 31) rfl dC_commonDivisor_31 ?_
      refine se_lstore (pc := 33) dC_commonDivisor_33 (by decide) [some (.long A), none, some (.long B), none, some (.long (lN y)), none, some (.long (lN y)), none, some (.int (nI i)), some (.long (lN (x % y))), none] rfl ?_
      refine se_lload (pc := 35) rfl dC_commonDivisor_35 ?_
      refine se_lstore (pc := 37) dC_commonDivisor_37 (by decide) [some (.long A), none, some (.long B), none, some (.long (lN y)), none, some (.long (lN (x % y))), none, some (.int (nI i)), some (.long (lN (x % y))), none] rfl ?_
      refine se_iinc (pc := 39) 1 (by decide) rfl dC_commonDivisor_39 [some (.long A), none, some (.long B), none, some (.long (lN y)), none, some (.long (lN (x % y))), none, some (.int (nI (i + 1))), some (.long (lN (x % y))), none] (by rw [nI_1]; rfl) ?_
      refine se_goto (pc := 42) (tgt := 9) dC_commonDivisor_42 (by decide) ?_
      rw [show st_gc (n + 1) x y = st_gc n y (x % y) by rw [st_gc, if_neg h0]]
      exact ih (i + 1) y (x % y) _ _ (by omega) hy (Nat.lt_of_lt_of_le (Nat.mod_lt _ (by omega)) (by omega))
set_option maxHeartbeats 1000000 in
set_option maxRecDepth 100000 in
theorem c_C_commonDivisor {x y : Nat} (hd : 1 ≤ d) (hx : x < 2 ^ 62) (hy : y < 2 ^ 62) : se_W (vG sc) l d mC_commonDivisor 0 (se_ent 11 [.long (lN x), .long (lN y)]) [] h 0 0 (fun o h' => h' = h ∧ o = .inl (some (.long (if lN (st_gc 200 x y) < 1 then 1 else lN (st_gc 200 x y))))) := by
  show se_W (vG sc) l d mC_commonDivisor 0 [some (.long (lN x)), none, some (.long (lN y)), none, none, none, none, none, none, none, none] [] h 0 0 _
  refine se_lload_n (pc := 0) rfl dC_commonDivisor_0 ?_
  refine se_lstore (pc := 1) dC_commonDivisor_1 (by decide) [some (.long (lN x)), none, some (.long (lN y)), none, some (.long (lN x)), none, none, none, none, none, none] rfl ?_
  refine se_lload_n (pc := 3) rfl dC_commonDivisor_3 ?_
  refine se_lstore (pc := 4) dC_commonDivisor_4 (by decide) [some (.long (lN x)), none, some (.long (lN y)), none, some (.long (lN x)), none, some (.long (lN y)), none, none, none, none] rfl ?_
  refine se_iconst (pc := 6) 0 (by decide) dC_commonDivisor_6 ?_
  refine se_istore (pc := 7) dC_commonDivisor_7 (by decide) [some (.long (lN x)), none, some (.long (lN y)), none, some (.long (lN x)), none, some (.long (lN y)), none, some (.int 0), none, none] rfl ?_
  exact lp_C_commonDivisor hd 200 0 x y _ _ rfl hx hy
end GCD
theorem st_gcd : ∀ (k n x y : Nat), y < 2 ^ k → 2 * k + 1 ≤ n → st_gc n x y = Nat.gcd x y := by
  intro k
  induction k with
  | zero =>
    intro n x y hy hn
    obtain ⟨m, rfl⟩ : ∃ m, n = m + 1 := ⟨n - 1, by omega⟩
    have h0 : y = 0 := by omega
    subst h0
    simp [st_gc]
  | succ k ih =>
    intro n x y hy hn
    obtain ⟨m, rfl⟩ : ∃ m, n = m + 2 := ⟨n - 2, by omega⟩
    by_cases h0 : y = 0
    · subst h0; simp [st_gc]
    · rw [st_gc, if_neg h0]
      by_cases h1 : x % y = 0
      · rw [st_gc, if_pos h1, Nat.gcd_comm x y, Nat.gcd_rec y x, h1]
        simp
      · have h2 : x % y < y := Nat.mod_lt _ (by omega)
        have h3 : y % (x % y) < 2 ^ k := by
          have h4 : y % (x % y) < x % y := Nat.mod_lt _ (by omega)
          have h5 : y % (x % y) + (x % y) ≤ y := by
            have h6 := Nat.mod_add_div y (x % y)
            have h7 : 1 ≤ y / (x % y) := Nat.div_pos (Nat.le_of_lt h2) (by omega)
            have h8 : (x % y) * 1 ≤ (x % y) * (y / (x % y)) := Nat.mul_le_mul_left _ h7
            omega
          have h9 : 2 ^ (k + 1) = 2 * 2 ^ k := by rw [Nat.pow_succ]; omega
          omega
        rw [st_gc, if_neg h1, ih m _ _ h3 (by omega), Nat.gcd_comm (x % y), ← Nat.gcd_rec, ← Nat.gcd_rec, Nat.gcd_comm]
end
