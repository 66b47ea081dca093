/-! the law: its end and its loop -/
def R_law : String := "ThresholdSealLaw"
def lw_P (b : Addr) (xs : List Int32) (args : Array Value) (s : State) : Prop := args = #[.ref b] ∧ s.IntsAt b xs ∧ xs.length ≤ 3586 ∧ (Jvm.Cond.and given_1 narrow_1).before args s = true
def lw_Q (_ : Array Value) (s : State) (o : Outcome) (t : State) : Prop := o = .returned (some (.int 1)) ∧ Framed s o t [] 601024 7293000
def lw_Z (below : List Frame) (a : Array Value) (s : State) : State → Prop := fun t => ∃ o, t.status = .running ∧ Ended t below o ∧ lw_Q a s o t
/-- the law's own end, with 1 on the stack, nothing written that was there before, its room as the claim has it -/
theorem lw_ret {p : Program} {l : Launch} {e : Env} {s : State} {m : MethodId} {below : List Frame} {meth : Method} {c : Code} {b : Nat} (hx : p.tables.exec = Jvm.exec) (hb : c.code = code) (hr : meth.sig.returnType = ret) (hlocks : meth.locks = false) {pc : Nat} {H : Heap} {ls : Array Slot} (hdg : decode code pc = .ok (.ireturn, 1)) : W p l e room_1 s m #[Value.ref b] below meth c H [] 601024 7293000 (lw_Z below #[Value.ref b] s) (F0 m pc ls [.int 1]) := by
  intro T hT X
  obtain ⟨fs, hret, hrun, hended, hW, hframe⟩ := X.leave (v := some (.int 1)) (hlocks := hlocks) (fun h => by rw [hr] at h; cases h)
  have hmeth' : T.vm.method? m = some meth := X.method'
  refine ⟨T.setFrames fs, ?_, .returned (some (.int 1)), hrun, hended, rfl, ⟨_, rfl⟩, hW, hframe⟩
  jvm_step X.here [X.here.top, hx, hb, hdg, hmeth', hr, ret, narrow_b1]
  (try refine ⟨rfl, ?_⟩); (try refine ⟨rfl, ?_⟩)
  first | (intro acts; rw [hret _ acts rfl rfl rfl]) | rw [hret _ _ rfl rfl rfl]
  exact Steps.refl _
/-- what holds at the law's entry: the machine, the code, the tables' words (any of lw_tbl by 'hts w (by decide +kernel)'), the script of L ints xs at the cell b, what the Statement gives of the start (any of its parts by flat_of_before) -/
def lw_At (p : Program) (s : State) (m : MethodId) (meth : Method) (c : Code) (b L : Nat) (xs : Nat → Int32) : Prop :=
  p.tables.exec = Jvm.exec ∧ c.code = code ∧ meth.sig.returnType = ret ∧ c.maxLocals = 8 ∧ s.vm.findClass R_law = some m.cls ∧ (∀ w ∈ lw_tbl, w.before #[Value.ref b] s = true) ∧ va_X b L xs s s.heap ∧ b < s.heap.size ∧ meth.locks = false ∧ (Jvm.Cond.and given_1 narrow_1).before #[Value.ref b] s = true
section XW
variable {g : xw_G} {p : Program} {l : Launch} {e : Env} {s : State} {m : MethodId} {b : Nat} {below : List Frame} {meth : Method} {c : Code}
theorem w_end (C : xw_C g cL_law 8 "ThresholdSealLaw" p s m #[Value.ref b] c) (hr : meth.sig.returnType = ret) (hlk : meth.locks = false) (hA : ∀ q, xg_A g q → s.heap.size ≤ q) {cells slots : Nat} {lv : List (Option Value)} {hp : List va_E} (h1 : cells ≤ 601024) (h2 : slots ≤ 7293000) :
    xw_At g false 8 p l e room_1 s m #[Value.ref b] below meth c cells slots (lw_Z below #[Value.ref b] s) 1278 lv [] hp := by
  refine xa_icN C 1 dL_law_1278 ?_
  intro ls H locs hl hP hn hS
  exact W.widen h1 h2 (va_forget (fun q hq => hA _ (hS.1.2.2 q hq)) (lw_ret C.1 C.2.1 hr hlk dL_law_1279))
theorem w_lt {L q : Nat} (hL : L ≤ 3586) (hq : q ≤ L + 7) (h : ¬ Int32.ofNat L - nI 7 < nI q) : q + 7 ≤ L := by
  rcases Nat.lt_or_ge L 7 with h7 | h7
  · exact absurd (Int32.lt_of_lt_of_le (pk_sneg (a := L) (b := 7) (by decide) h7) (nI_le (a := 0) (b := q) (Nat.zero_le _) (by omega))) h
  · rcases Nat.lt_or_ge L (q + 7) with h8 | h8
    · refine absurd ?_ h
      rw [show Int32.ofNat L - nI 7 = nI (L - 7) from pk_sub h7]
      exact nI_lt (by omega) (by omega)
    · exact h8

set_option maxHeartbeats 4000000 in
set_option maxRecDepth 100000 in
theorem w_loop (C : xw_C g cL_law 8 "ThresholdSealLaw" p s m #[Value.ref b] c) (htr : xw_tr l) (hr : meth.sig.returnType = ret) (hlk : meth.locks = false) (hA : ∀ q, xg_A g q → s.heap.size ≤ q) {n t : Nat} (hn : n ≤ 6) (ht : t ≤ 6) (hL : xg_L g ≤ 3586) :
    ∀ (k q cells slots : Nat) (z : Sg) (o5 o6 o7 : Option Value), xg_L g + 7 ≤ q + k → q ≤ xg_L g + 7 → cells ≤ 100 + q → slots ≤ 1000 + 6 * q → Iv n t z → xw_At g false 8 p l e room_1 s m #[Value.ref b] below meth c (cells) (slots) (lw_Z below #[Value.ref b] s) 43 [some (.ref xw_sp), some (.ref 0), some (.ref 16), some (.ref 32), some (.int (nI (q))), o5, o6, o7] [] (hT g n t z) := by
  intro k
  induction k with
  | zero =>
    intro q cells slots z o5 o6 o7 hk hq hc hs hI
    refine xa_iload C dL_law_43 rfl ?_
    refine xa_aload_n C dL_law_45 rfl ?_
    refine xa_alen C dL_law_46 ?_
    refine xa_bpN C 7 dL_law_47 (by decide) ?_
    refine xa_isub C dL_law_49 ?_
    refine xa_icmp_gt C dL_law_50 (tgt := 1278) rfl (fun h50 => ?_) (fun h50 => ?_)
    · exact w_end C hr hlk hA (by omega) (by omega)
    · have := w_lt hL hq h50
      omega
  | succ k ih =>
    intro q cells slots z o5 o6 o7 hk hq hc hs hI
    refine xa_iload C dL_law_43 rfl ?_
    refine xa_aload_n C dL_law_45 rfl ?_
    refine xa_alen C dL_law_46 ?_
    refine xa_bpN C 7 dL_law_47 (by decide) ?_
    refine xa_isub C dL_law_49 ?_
    refine xa_icmp_gt C dL_law_50 (tgt := 1278) rfl (fun h50 => ?_) (fun h50 => ?_)
    · exact w_end C hr hlk hA (by omega) (by omega)
    · have hq7 := w_lt hL hq h50
      have K : ∀ (z : Sg) (o5 o6 o7 : Option Value), Iv n t z → xw_At g false 8 p l e room_1 s m #[Value.ref b] below meth c (cells + 1) (slots + 6) (lw_Z below #[Value.ref b] s) 1272 [some (.ref xw_sp), some (.ref 0), some (.ref 16), some (.ref 32), some (.int (nI (q))), o5, o6, o7] [] (hT g n t z) := by
        intro z o5 o6 o7 hI
        refine xa_iinc C dL_law_1272 rfl (by decide) ?_
        rw [show nI q + Int32.ofInt 7 = nI (q + 7) from nI_add q 7]
        refine xa_goto C dL_law_1275 (tgt := 43) rfl ?_
        exact ih (q + 7) _ _ z _ _ _ (by omega) (by omega) (by omega) (by omega) hI
      have hcA : cells ≤ room_1.cells ∧ slots ≤ room_1.slots := ⟨by show cells ≤ 601024; omega, by show slots ≤ 7293000; omega⟩
      have hcB : cells + 1 ≤ room_1.cells ∧ slots + 6 ≤ room_1.slots := ⟨by show cells + 1 ≤ 601024; omega, by show slots + 6 ≤ 7293000; omega⟩
      refine xa_aload_n C dL_law_53 rfl ?_
      refine xa_iload C dL_law_54 rfl ?_
      refine xa_ialoadN C dL_law_56 (by omega) (by omega) ?_
      refine xa_bpN C 31 dL_law_57 (by decide) ?_
      refine xa_iand C dL_law_59 ?_
      obtain ⟨j, hj, hje⟩ := pk_andE (xg_x g q) (m := nI 31) 5 (by decide)
      rw [hje]
      by_cases hj18 : 18 < j
      · refine xa_tabOut (tgt := 1272) C dL_law_60 (Or.inr (by rw [nI_toInt (by omega)]; omega)) (by decide) ?_
        exact xa_widen (k := cells + 1) (n := slots + 6) (by omega) (by omega) (K z _ _ _ hI)
      · rcases (by omega : j = 0 ∨ j = 1 ∨ j = 2 ∨ j = 3 ∨ j = 4 ∨ j = 5 ∨ j = 6 ∨ j = 7 ∨ j = 8 ∨ j = 9 ∨ j = 10 ∨ j = 11 ∨ j = 12 ∨ j = 13 ∨ j = 14 ∨ j = 15 ∨ j = 16 ∨ j = 17 ∨ j = 18) with rfl | rfl | rfl | rfl | rfl | rfl | rfl | rfl | rfl | rfl | rfl | rfl | rfl | rfl | rfl | rfl | rfl | rfl | rfl
        · exact xa_tabIn (off := 92) (tgt := 152) C dL_law_60 (by decide) (by decide) (by decide) (by decide) (w_0 C htr hn ht hq7 hL hcA hcB hcB K z hI _ _ _)
        · exact xa_tabIn (off := 150) (tgt := 210) C dL_law_60 (by decide) (by decide) (by decide) (by decide) (w_1 C htr hn ht hq7 hL hcA hcB hcB K z hI _ _ _)
        · exact xa_tabIn (off := 249) (tgt := 309) C dL_law_60 (by decide) (by decide) (by decide) (by decide) (w_2 C htr hn ht hq7 hL hcA hcB hcB K z hI _ _ _)
        · exact xa_tabIn (off := 348) (tgt := 408) C dL_law_60 (by decide) (by decide) (by decide) (by decide) (w_3 C htr hn ht hq7 hL hcA hcB hcB K z hI _ _ _)
        · exact xa_tabIn (off := 403) (tgt := 463) C dL_law_60 (by decide) (by decide) (by decide) (by decide) (w_4 C htr hn ht hq7 hL hcA hcB hcB K z hI _ _ _)
        · exact xa_tabIn (off := 510) (tgt := 570) C dL_law_60 (by decide) (by decide) (by decide) (by decide) (w_5 C htr hn ht hq7 hL hcA hcB hcB K z hI _ _ _)
        · exact xa_tabIn (off := 617) (tgt := 677) C dL_law_60 (by decide) (by decide) (by decide) (by decide) (w_6 C htr hn ht hq7 hL hcA hcB hcB K z hI _ _ _)
        · exact xa_tabIn (off := 660) (tgt := 720) C dL_law_60 (by decide) (by decide) (by decide) (by decide) (w_7 C htr hn ht hq7 hL hcA hcB hcB K z hI _ _ _)
        · exact xa_tabIn (off := 807) (tgt := 867) C dL_law_60 (by decide) (by decide) (by decide) (by decide) (w_8 C htr hn ht hq7 hL hcA hcB hcB K z hI _ _ _)
        · exact xa_tabIn (off := 946) (tgt := 1006) C dL_law_60 (by decide) (by decide) (by decide) (by decide) (w_9 C htr hn ht hq7 hL hcA hcB hcB K z hI _ _ _)
        · exact xa_tabIn (off := 1001) (tgt := 1061) C dL_law_60 (by decide) (by decide) (by decide) (by decide) (w_10 C htr hn ht hq7 hL hcA hcB hcB K z hI _ _ _)
        · exact xa_tabIn (off := 1027) (tgt := 1087) C dL_law_60 (by decide) (by decide) (by decide) (by decide) (w_11 C htr hn ht hq7 hL hcA hcB hcB K z hI _ _ _)
        · exact xa_tabIn (off := 1053) (tgt := 1113) C dL_law_60 (by decide) (by decide) (by decide) (by decide) (w_12 C htr hn ht hq7 hL hcA hcB hcB K z hI _ _ _)
        · exact xa_tabIn (off := 1107) (tgt := 1167) C dL_law_60 (by decide) (by decide) (by decide) (by decide) (w_13 C htr hn ht hq7 hL hcA hcB hcB K z hI _ _ _)
        · exact xa_tabIn (off := 1133) (tgt := 1193) C dL_law_60 (by decide) (by decide) (by decide) (by decide) (w_14 C htr hn ht hq7 hL hcA hcB hcB K z hI _ _ _)
        · exact xa_tabIn (off := 1159) (tgt := 1219) C dL_law_60 (by decide) (by decide) (by decide) (by decide) (w_15 C htr hn ht hq7 hL hcA hcB hcB K z hI _ _ _)
        · exact xa_tabIn (off := 1173) (tgt := 1233) C dL_law_60 (by decide) (by decide) (by decide) (by decide) (w_16 C htr hn ht hq7 hL hcA hcB hcB K z hI _ _ _)
        · exact xa_tabIn (off := 1186) (tgt := 1246) C dL_law_60 (by decide) (by decide) (by decide) (by decide) (w_17 C htr hn ht hq7 hL hcA hcB hcB K z hI _ _ _)
        · exact xa_tabIn (off := 1199) (tgt := 1259) C dL_law_60 (by decide) (by decide) (by decide) (by decide) (w_18 C htr hn ht hq7 hL hcA hcB hcB K z hI _ _ _)
end XW
