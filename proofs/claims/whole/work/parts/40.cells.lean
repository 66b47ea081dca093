/-! the class's cells by its state: rows of longs as rows of natural numbers -/
abbrev xj (g : xw_G) (N : Nat) (f : Nat → Nat) : va_E := .inl (xg_J g, N, .inr (.inl (fun j => lN (f j))))
def hC (g : xw_G) (n t : Nat) (co se ke : Nat → Nat) (dn : Int32) (f1 f2 e1 e2 : Nat → Nat) (op : Int32) (x1 x2 fa we sh : Nat → Nat) (ms ps md tk bl : Int32) (pr ch sm : Nat) : List va_E :=
  [.inr (0, [.int (nI n), .int (nI t), .ref 1, .ref 5, .ref 10]),
   .inr (1, [.int (nI n), .int (nI t), .ref 2, .ref 3, .ref 4, .int dn]), xj g t co, xj g (n + 1) se, xj g (n + 1) ke,
   .inr (2, [.ref 6, .ref 7, .ref 8, .ref 9, .int op]), xj g (n + 1) f1, xj g (n + 1) f2, xj g (n + 1) e1, xj g (n + 1) e2,
   .inr (3, [.int (nI n), .ref 11, .ref 12, .ref 13, .ref 14, .ref 15, .int ms, .int ps, .int md, .int tk, .int bl, .long (lN pr), .long (lN ch), .long (lN sm)]),
   xj g (n + 1) x1, xj g (n + 1) x2, xj g (n + 1) fa, xj g (n + 1) we, xj g (n + 1) sh]
theorem lN_up (f : Nat → Nat) (k v : Nat) : vp_updL (fun j => lN (f j)) k (lN v) = fun j => lN (va_up f k v j) := by
  funext j
  unfold vp_updL va_up
  by_cases h : j = k <;> simp [h]
section XN
variable {g : xw_G} {ro : Bool} {cc : ByteArray} {nL : Nat} {own : String} {p : Program} {l : Launch} {e : Env} {R : Room} {s : State} {m : MethodId} {args : Array Value} {below : List Frame} {meth : Method} {c : Code} {cells slots : Nat} {Q : State → Prop}
variable {pc : Nat} {lv : List (Option Value)} {st : List Value} {hp : List va_E}
theorem xa_laloadN (C : xw_C g cc nL own p s m args c) {i N j : Nat} {f : Nat → Nat} (hdg : decode cc pc = .ok (.laload, 1)) (ho : hp[i]? = some (xj g N f)) (hj : j < N) (hN : N < 2 ^ 31) (k : xw_At g ro nL p l e R s m args below meth c cells slots Q (pc + 1) lv (.long (lN (f j)) :: st) hp) :
    xw_At g ro nL p l e R s m args below meth c cells slots Q pc lv (.int (nI j) :: .ref i :: st) hp := by
  refine xa_laload C hdg ho (vp_in_nI hj hN) ?_
  rw [nI_clamp (Nat.lt_trans hj hN)]
  exact k
theorem xa_lastoreN (C : xw_C g cc nL own p s m args c) {i N j v : Nat} {f : Nat → Nat} (hdg : decode cc pc = .ok (.lastore, 1)) (ho : hp[i]? = some (xj g N f)) (hj : j < N) (hN : N < 2 ^ 31) (k : xw_At g false nL p l e R s m args below meth c cells slots Q (pc + 1) lv st (hp.set i (xj g N (va_up f j v)))) :
    xw_At g ro nL p l e R s m args below meth c cells slots Q pc lv (.long (lN v) :: .int (nI j) :: .ref i :: st) hp := by
  refine xa_lastore C hdg ho (vp_in_nI hj hN) ?_
  rw [nI_clamp (Nat.lt_trans hj hN), lN_up]
  exact k
end XN
theorem xi_in {j n : Nat} (h : j ≤ n) (hn : n ≤ 6) : vp_in (nI j) (n + 1) := vp_in_nI (by omega) (by omega)
theorem xi_cl {j n : Nat} (h : j ≤ n) (hn : n ≤ 6) : (nI j).toNatClampNeg = j := nI_clamp (by omega)

