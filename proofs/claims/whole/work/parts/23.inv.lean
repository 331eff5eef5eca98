/-! what holds of every state; spare vehicles -/
def st_I (S : st_S) : Prop := S 24 0 0 = nI (st_nv S) ∧ st_nv S ≤ 20 ∧ S 25 0 0 = nI (st_nd S) ∧ st_nd S ≤ 100 ∧ ∀ v, v < st_nv S → st_kd S v < 5
theorem st_K_inj {o a b : Nat} : st_K o a = st_K o b ↔ a = b := by simp only [st_K]; omega
def st_sp (S : st_S) (w v : Nat) : Bool := !decide (nI w = nI v) && (decide (st_kd S w = st_kd S v) && (!decide (S 12 w 0 = 0) && st_ru S (st_kd S w) w))
/-- the best spare vehicle among n from i on, r so far -/
def st_bs (S : st_S) (v : Nat) : Nat → Nat → Option Nat → Option Nat
  | 0, _, r => r
  | n + 1, i, r => st_bs S v n (i + 1) (if st_sp S i v then (match r with | none => some i | some w => if S 15 i 0 < S 15 w 0 then some i else some w) else r)
theorem st_cV {o : Nat} {β : Nat → Nat} {S : st_S} {h : se_H} (hC : is_C o β S h) {v : Nat} (hv : v < st_nv S) : is_V h (β v) (st_K o (st_kd S v)) S v := hC.2.2.2.2.2.2.2.1 v hv
theorem st_cK {o : Nat} {β : Nat → Nat} {S : st_S} {h : se_H} (hC : is_C o β S h) {k : Nat} (hk : k < 5) : is_K h (st_K o k) S k := hC.2.2.2.2.2.2.1 k hk
