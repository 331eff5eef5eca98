/-! cells that come: the heap's length by a name -/
theorem st_la {h : se_H} {n : Nat} {x : se_E} (hn : h.length = n) : (h ++ [x]).length = n + 1 := by rw [List.length_append, hn]; rfl
theorem st_lt9 {h : se_H} {n a : Nat} {x : se_E} (hn : h.length = n) : (h.set a x).length = n := by rw [List.length_set, hn]
theorem st_ap {h : se_H} {b : Nat} {x e : se_E} (hb : h[b]? = some e) : (h ++ [x])[b]? = some e := by
  rw [List.getElem?_append_left (List.getElem?_eq_some_iff.mp hb).1]; exact hb
theorem st_al {h : se_H} {n : Nat} {x : se_E} (hn : h.length = n) : (h ++ [x])[n]? = some x := by
  subst hn; simp
theorem st_frs {h H : se_H} {n a c : Nat} {x : se_E} (hf : ∀ b, b < n → b ≠ a → H[b]? = h[b]?) (hc : c = a ∨ n ≤ c) : ∀ b, b < n → b ≠ a → (H.set c x)[b]? = h[b]? := fun b h1 h2 => by
  rw [List.getElem?_set, if_neg (by omega)]; exact hf b h1 h2
theorem st_fra {h H : se_H} {n a m : Nat} {x : se_E} (hf : ∀ b, b < n → b ≠ a → H[b]? = h[b]?) (hm : ∀ k : Nat, n ≤ n + k) (hl : H.length = m) (hg : n ≤ m := by omega) : ∀ b, b < n → b ≠ a → (H ++ [x])[b]? = h[b]? := fun b h1 h2 => by
  rw [List.getElem?_append_left (by omega)]; exact hf b h1 h2
section GROW
variable {G : se_G} {l : Launch} {d : Nat} {M : se_M} {pc : Nat} {L : List (Option Value)} {st : List Value} {h : se_H} {C S : Nat} {Φ : se_O → se_H → Prop}
theorem se_newN {C0 : String} {T : u_T} {N ci index a : Nat} {ty : Nat → FieldType} {C' S' : Nat} (ha : h.length = a) (hc : se_cls G ci C0 T N ty) (fs : List Value) (hg : decode M.2.1 pc = .ok (.new index, 3)) (hl : Cond.classLink M.1.cls index C0 ∈ G.2.1) (hin : Cond.instantiable C0 N ∈ G.2.1) (hini : Cond.initialized C0 ∈ G.2.1) (hfs : ∀ j, j < N → defaultValue (ty j) = vp_V fs j) (hnr : fs.all se_nr = true) (hC : C' + 1 ≤ C) (hS : S' + N ≤ S)
    (kk : se_W G l d M (pc + 3) L (.ref a :: st) (h ++ [.inr (ci, fs)]) C' S' Φ) : se_W G l d M pc L st h C S Φ := by
  subst ha
  exact se_new hc fs hg hl hin hini hfs hnr hC hS kk
theorem se_newaN {atype : ArrayType} {ty : FieldType} {a : Nat} (t0 : Nat) {n : Int32} {N C' S' : Nat} (ha : h.length = a) (hg : decode M.2.1 pc = .ok (.newarray atype, 2)) (hty : newarray.typeOf atype = ty) (hp : ty = .int ∨ ty = .long ∨ ty = .boolean) (ht : G.2.2.1[t0]? = some ty) (hl : Cond.arrayClass ty ∈ G.2.1) (hn : ¬ n < 0) (hN : n.toNatClampNeg = N) (hb : N ≤ 1000000) (hC : C' + 1 ≤ C) (hS : S' + N ≤ S)
    (kk : se_W G l d M (pc + 2) L (.ref a :: st) (h ++ [.inl (ty, se_a0 ty N)]) C' S' Φ) : se_W G l d M pc L (.int n :: st) h C S Φ := by
  subst ha
  exact se_newa t0 hg hty hp ht hl hn hN hb hC hS kk
theorem se_newqN {C0 : String} {index a : Nat} (t0 : Nat) {n : Int32} {N C' S' : Nat} (ha : h.length = a) (hg : decode M.2.1 pc = .ok (.anewarray index, 3)) (ht : G.2.2.1[t0]? = some (.object C0)) (hl : Cond.classLink M.1.cls index C0 ∈ G.2.1) (ho : Cond.arrayOver (.object C0) ∈ G.2.2.2.2.1) (hn : ¬ n < 0) (hN : n.toNatClampNeg = N) (hb : N ≤ 1000000) (hC : C' + 1 ≤ C) (hS : S' + N ≤ S)
    (kk : se_W G l d M (pc + 3) L (.ref a :: st) (h ++ [.inl (.object C0, (N, .inr (.inr (.inr (.inr (fun _ => none))))))]) C' S' Φ) : se_W G l d M pc L (.int n :: st) h C S Φ := by
  subst ha
  exact se_newq t0 hg ht hl ho hn hN hb hC hS kk
end GROW
