/-! the law's helpers: a call, its answer in out[0], or the number of what it threw -/
abbrev m_L_commit : xw_M := (yL_commit, cL_commit, 6, (some .int), 8, 134)
abbrev hh_L_commit : List (Nat × Nat × Nat × Nat) := [(0, 10, 13, 13), (0, 10, 17, 15)]
abbrev m_L_begin : xw_M := (yL_begin, cL_begin, 6, (some .int), 8, 134)
abbrev hh_L_begin : List (Nat × Nat × Nat × Nat) := [(0, 10, 13, 13), (0, 10, 17, 15)]
abbrev m_L_sign : xw_M := (yL_sign, cL_sign, 4, (some .int), 8, 132)
abbrev hh_L_sign : List (Nat × Nat × Nat × Nat) := [(0, 8, 11, 13), (0, 8, 14, 15)]
abbrev m_L_submit : xw_M := (yL_submit, cL_submit, 6, (some .int), 8, 145)
abbrev hh_L_submit : List (Nat × Nat × Nat × Nat) := [(0, 18, 21, 13), (0, 18, 25, 15)]
abbrev m_L_relay : xw_M := (yL_relay, cL_relay, 6, (some .int), 8, 145)
abbrev hh_L_relay : List (Nat × Nat × Nat × Nat) := [(0, 18, 21, 13), (0, 18, 25, 15)]
abbrev m_L_seal : xw_M := (yL_seal, cL_seal, 3, (some .int), 8, 130)
abbrev hh_L_seal : List (Nat × Nat × Nat × Nat) := [(0, 7, 10, 15)]
abbrev m_L_holds : xw_M := (yL_holds, cL_holds, 7, (some .int), 8, 136)
abbrev hh_L_holds : List (Nat × Nat × Nat × Nat) := [(0, 18, 21, 13), (0, 18, 25, 15)]
abbrev m_L_recover : xw_M := (yL_recover, cL_recover, 4, (some .int), 8, 137)
abbrev hh_L_recover : List (Nat × Nat × Nat × Nat) := [(0, 8, 11, 13), (0, 8, 14, 15)]
set_option maxHeartbeats 4000000 in
set_option maxRecDepth 100000 in
theorem r_L_commit_0 (g : xw_G) {l : Launch} {n t : Nat} {co se ke f1 f2 e1 e2 x1 x2 fa we sh : Nat → Nat} {dn op ms ps md tk bl : Int32} {pr ch sm : Nat} {d0 d1 d2 d3 d4 d5 d6 d7 d8 d9 d10 d11 d12 d13 d14 d15 : va_E} {ou : Nat → Nat} {rest : List va_E} (hn : n ≤ 6) (ht : t ≤ 6) {i : Nat} (h1 : 1 ≤ i) (hi : i ≤ n) (hd : ¬ dn = 0) (w : Int64) : xh_R g l m_L_commit hh_L_commit [.ref 0, .int (nI i), .long w, .ref 32] (hC g n t co se ke dn f1 f2 e1 e2 op x1 x2 fa we sh ms ps md tk bl pr ch sm ++ hQ d0 d1 d2 d3 d4 d5 d6 d7 d8 d9 d10 d11 d12 d13 d14 d15 (xj g 1 ou :: rest)) (some (.int (nI 0))) (hC g n t co se ke dn (va_up f1 i (pd_ 2 w i)) (va_up f2 i (pd_ 3 w i)) (va_up e1 i (4 ^ pd_ 2 w i % 2147483579)) (va_up e2 i (4 ^ pd_ 3 w i % 2147483579)) (op ||| on_ i) x1 x2 fa we sh ms (ps &&& (on_ i ^^^ (-1))) md tk bl pr ch sm ++ hQ d0 d1 d2 d3 d4 d5 d6 d7 d8 d9 d10 d11 d12 d13 d14 d15 (xj g 1 (va_up ou 0 (4 ^ pd_ 2 w i % 2147483579)) :: rest)) := by
  refine xh_of [some (.ref 0), some (.int (nI i)), some (.long w), none, some (.ref 32), none] rfl (Nat.le_of_ble_eq_true rfl) rfl ?_
  intro p e s m args below meth c C hr hk htab hnc
  refine xa_aload C dL_commit_0 rfl ?_
  refine xa_icN C 0 dL_commit_2 ?_
  refine xa_aload_n C dL_commit_3 rfl ?_
  refine xa_iload_n C dL_commit_4 rfl ?_
  refine xa_lload_n C dL_commit_5 rfl ?_
  refine xa_callV1 C (p_S_commit g l hn ht h1 hi hd w) b_L_7 (xw_in wi_S_commit rfl) e_S_commit dL_commit_6 rfl rfl rfl rfl (Nat.le_of_ble_eq_true rfl) ⟨Nat.le_of_ble_eq_true rfl, Nat.le_of_ble_eq_true rfl⟩ ⟨Nat.zero_le _, Nat.zero_le _⟩ ?_
  refine xa_lastoreN C dL_commit_9 rfl ?_ (by omega) ?_
  · omega
  refine xa_goto C dL_commit_10 (tgt := 21) rfl ?_
  refine xa_icN C 0 dL_commit_21 ?_
  refine xa_widen (k := 1) (n := 6) (by omega) (by omega) ?_
  exact xa_eq rfl rfl rfl (xa_iret C hr hk dL_commit_22)
set_option maxHeartbeats 4000000 in
set_option maxRecDepth 100000 in
theorem r_L_commit_1 (g : xw_G) {l : Launch} (htr : xw_tr l) {n t : Nat} {co se ke f1 f2 e1 e2 x1 x2 fa we sh : Nat → Nat} {dn op ms ps md tk bl : Int32} {pr ch sm : Nat} {d0 d1 d2 d3 d4 d5 d6 d7 d8 d9 d10 d11 d12 d13 d14 d15 : va_E} {ou : Nat → Nat} {rest : List va_E} (x : Int32) (hx : ¬ sg n x) (w : Int64) : xh_R g l m_L_commit hh_L_commit [.ref 0, .int x, .long w, .ref 32] (hC g n t co se ke dn f1 f2 e1 e2 op x1 x2 fa we sh ms ps md tk bl pr ch sm ++ hQ d0 d1 d2 d3 d4 d5 d6 d7 d8 d9 d10 d11 d12 d13 d14 d15 (xj g 1 ou :: rest)) (some (.int (nI 1))) (hC g n t co se ke dn f1 f2 e1 e2 op x1 x2 fa we sh ms ps md tk bl pr ch sm ++ hQ d0 d1 d2 d3 d4 d5 d6 d7 d8 d9 d10 d11 d12 d13 d14 d15 (xj g 1 ou :: rest)) := by
  refine xh_of [some (.ref 0), some (.int x), some (.long w), none, some (.ref 32), none] rfl (Nat.le_of_ble_eq_true rfl) rfl ?_
  intro p e s m args below meth c C hr hk htab hnc
  refine xa_aload C dL_commit_0 rfl ?_
  refine xa_icN C 0 dL_commit_2 ?_
  refine xa_aload_n C dL_commit_3 rfl ?_
  refine xa_iload_n C dL_commit_4 rfl ?_
  refine xa_lload_n C dL_commit_5 rfl ?_
  exact xa_catchA C hr hk (q_S_commit_a g htr x hx w) b_L_7 (xw_in wi_S_commit rfl) e_S_commit dL_commit_6 rfl rfl rfl rfl (Nat.le_of_ble_eq_true rfl) ⟨Nat.le_of_ble_eq_true rfl, Nat.le_of_ble_eq_true rfl⟩ ⟨Nat.le_of_ble_eq_true rfl, Nat.le_of_ble_eq_true rfl⟩ htab (by decide) (by decide) (xw_in wl_L_13 rfl) (v := 1) (by decide) dL_commit_13 dL_commit_15 dL_commit_16
set_option maxHeartbeats 4000000 in
set_option maxRecDepth 100000 in
theorem r_L_commit_2 (g : xw_G) {l : Launch} (htr : xw_tr l) {n t : Nat} {co se ke f1 f2 e1 e2 x1 x2 fa we sh : Nat → Nat} {dn op ms ps md tk bl : Int32} {pr ch sm : Nat} {d0 d1 d2 d3 d4 d5 d6 d7 d8 d9 d10 d11 d12 d13 d14 d15 : va_E} {ou : Nat → Nat} {rest : List va_E} (hn : n ≤ 6) {i : Nat} (h1 : 1 ≤ i) (hi : i ≤ n) (hd : dn = 0) (w : Int64) : xh_R g l m_L_commit hh_L_commit [.ref 0, .int (nI i), .long w, .ref 32] (hC g n t co se ke dn f1 f2 e1 e2 op x1 x2 fa we sh ms ps md tk bl pr ch sm ++ hQ d0 d1 d2 d3 d4 d5 d6 d7 d8 d9 d10 d11 d12 d13 d14 d15 (xj g 1 ou :: rest)) (some (.int (nI 2))) (hC g n t co se ke dn f1 f2 e1 e2 op x1 x2 fa we sh ms ps md tk bl pr ch sm ++ hQ d0 d1 d2 d3 d4 d5 d6 d7 d8 d9 d10 d11 d12 d13 d14 d15 (xj g 1 ou :: rest)) := by
  refine xh_of [some (.ref 0), some (.int (nI i)), some (.long w), none, some (.ref 32), none] rfl (Nat.le_of_ble_eq_true rfl) rfl ?_
  intro p e s m args below meth c C hr hk htab hnc
  refine xa_aload C dL_commit_0 rfl ?_
  refine xa_icN C 0 dL_commit_2 ?_
  refine xa_aload_n C dL_commit_3 rfl ?_
  refine xa_iload_n C dL_commit_4 rfl ?_
  refine xa_lload_n C dL_commit_5 rfl ?_
  exact xa_catchB C hr hk (q_S_commit_b g htr hn h1 hi hd w) b_L_7 (xw_in wi_S_commit rfl) e_S_commit dL_commit_6 rfl rfl rfl rfl (Nat.le_of_ble_eq_true rfl) ⟨Nat.le_of_ble_eq_true rfl, Nat.le_of_ble_eq_true rfl⟩ ⟨Nat.le_of_ble_eq_true rfl, Nat.le_of_ble_eq_true rfl⟩ htab (by decide) (by decide) (by decide) (by decide) (xw_in wl_L_13 rfl) (xw_in wl_L_15 rfl) hnc (v := 2) (by decide) dL_commit_17 dL_commit_19 dL_commit_20
set_option maxHeartbeats 4000000 in
set_option maxRecDepth 100000 in
theorem r_L_begin_0 (g : xw_G) {l : Launch} {n t : Nat} {co se ke f1 f2 e1 e2 x1 x2 fa we sh : Nat → Nat} {dn op ms ps md tk bl : Int32} {pr ch sm : Nat} {d0 d1 d2 d3 d4 d5 d6 d7 d8 d9 d10 d11 d12 d13 d14 d15 : va_E} {ou : Nat → Nat} {rest : List va_E} (hn : n ≤ 6) (ht : t ≤ 6) (x : Int32) (hx : en n t x) (hd : ¬ dn = 0) (ho : x &&& (op ^^^ (-1)) = 0) (he1 : ∀ j, e1 j < 2 ^ 31) (he2 : ∀ j, e2 j < 2 ^ 31) (hx1 : ∀ j, x1 j < 2 ^ 31) (hx2 : ∀ j, x2 j < 2 ^ 31) (hfa : ∀ j, fa j < 2 ^ 30) (w : Int64) : xh_R g l m_L_begin hh_L_begin [.ref 0, .int x, .long w, .ref 32] (hC g n t co se ke dn f1 f2 e1 e2 op x1 x2 fa we sh ms ps md tk bl pr ch sm ++ hQ d0 d1 d2 d3 d4 d5 d6 d7 d8 d9 d10 d11 d12 d13 d14 d15 (xj g 1 ou :: rest)) (some (.int (nI 0))) (hC g n t co se ke dn f1 f2 e1 e2 op (sl_ al_ e1 x1 n) (sl_ al_ e2 x2 n) (sl_ (hs x) (ff_ x (sl_ al_ e1 x1 n) (sl_ al_ e2 x2 n) n w (ke 0)) fa n) (sl_ (hs x) (wt_ x n) we n) sh x x 0 0 0 (pp_ x (sl_ al_ e1 x1 n) (sl_ al_ e2 x2 n) (ff_ x (sl_ al_ e1 x1 n) (sl_ al_ e2 x2 n) n w (ke 0)) n) (cs_ (pp_ x (sl_ al_ e1 x1 n) (sl_ al_ e2 x2 n) (ff_ x (sl_ al_ e1 x1 n) (sl_ al_ e2 x2 n) n w (ke 0)) n) (ke 0) w) 0 ++ hQ d0 d1 d2 d3 d4 d5 d6 d7 d8 d9 d10 d11 d12 d13 d14 d15 (xj g 1 (va_up ou 0 (pp_ x (sl_ al_ e1 x1 n) (sl_ al_ e2 x2 n) (ff_ x (sl_ al_ e1 x1 n) (sl_ al_ e2 x2 n) n w (ke 0)) n)) :: rest)) := by
  refine xh_of [some (.ref 0), some (.int x), some (.long w), none, some (.ref 32), none] rfl (Nat.le_of_ble_eq_true rfl) rfl ?_
  intro p e s m args below meth c C hr hk htab hnc
  refine xa_aload C dL_begin_0 rfl ?_
  refine xa_icN C 0 dL_begin_2 ?_
  refine xa_aload_n C dL_begin_3 rfl ?_
  refine xa_iload_n C dL_begin_4 rfl ?_
  refine xa_lload_n C dL_begin_5 rfl ?_
  refine xa_callV1 C (p_S_begin g l hn ht x hx hd ho he1 he2 hx1 hx2 hfa w) b_L_17 (xw_in wi_S_begin rfl) e_S_begin dL_begin_6 rfl rfl rfl rfl (Nat.le_of_ble_eq_true rfl) ⟨Nat.le_of_ble_eq_true rfl, Nat.le_of_ble_eq_true rfl⟩ ⟨Nat.zero_le _, Nat.zero_le _⟩ ?_
  refine xa_lastoreN C dL_begin_9 rfl ?_ (by omega) ?_
  · omega
  refine xa_goto C dL_begin_10 (tgt := 21) rfl ?_
  refine xa_icN C 0 dL_begin_21 ?_
  refine xa_widen (k := 1) (n := 6) (by omega) (by omega) ?_
  exact xa_eq rfl rfl rfl (xa_iret C hr hk dL_begin_22)
set_option maxHeartbeats 4000000 in
set_option maxRecDepth 100000 in
theorem r_L_begin_1 (g : xw_G) {l : Launch} (htr : xw_tr l) {n t : Nat} {co se ke f1 f2 e1 e2 x1 x2 fa we sh : Nat → Nat} {dn op ms ps md tk bl : Int32} {pr ch sm : Nat} {d0 d1 d2 d3 d4 d5 d6 d7 d8 d9 d10 d11 d12 d13 d14 d15 : va_E} {ou : Nat → Nat} {rest : List va_E} (x : Int32) (hx : ¬ en n t x) (w : Int64) : xh_R g l m_L_begin hh_L_begin [.ref 0, .int x, .long w, .ref 32] (hC g n t co se ke dn f1 f2 e1 e2 op x1 x2 fa we sh ms ps md tk bl pr ch sm ++ hQ d0 d1 d2 d3 d4 d5 d6 d7 d8 d9 d10 d11 d12 d13 d14 d15 (xj g 1 ou :: rest)) (some (.int (nI 1))) (hC g n t co se ke dn f1 f2 e1 e2 op x1 x2 fa we sh ms ps md tk bl pr ch sm ++ hQ d0 d1 d2 d3 d4 d5 d6 d7 d8 d9 d10 d11 d12 d13 d14 d15 (xj g 1 ou :: rest)) := by
  refine xh_of [some (.ref 0), some (.int x), some (.long w), none, some (.ref 32), none] rfl (Nat.le_of_ble_eq_true rfl) rfl ?_
  intro p e s m args below meth c C hr hk htab hnc
  refine xa_aload C dL_begin_0 rfl ?_
  refine xa_icN C 0 dL_begin_2 ?_
  refine xa_aload_n C dL_begin_3 rfl ?_
  refine xa_iload_n C dL_begin_4 rfl ?_
  refine xa_lload_n C dL_begin_5 rfl ?_
  exact xa_catchA C hr hk (q_S_begin_a g htr x hx w) b_L_17 (xw_in wi_S_begin rfl) e_S_begin dL_begin_6 rfl rfl rfl rfl (Nat.le_of_ble_eq_true rfl) ⟨Nat.le_of_ble_eq_true rfl, Nat.le_of_ble_eq_true rfl⟩ ⟨Nat.le_of_ble_eq_true rfl, Nat.le_of_ble_eq_true rfl⟩ htab (by decide) (by decide) (xw_in wl_L_13 rfl) (v := 1) (by decide) dL_begin_13 dL_begin_15 dL_begin_16
set_option maxHeartbeats 4000000 in
set_option maxRecDepth 100000 in
theorem r_L_begin_2a (g : xw_G) {l : Launch} (htr : xw_tr l) {n t : Nat} {co se ke f1 f2 e1 e2 x1 x2 fa we sh : Nat → Nat} {dn op ms ps md tk bl : Int32} {pr ch sm : Nat} {d0 d1 d2 d3 d4 d5 d6 d7 d8 d9 d10 d11 d12 d13 d14 d15 : va_E} {ou : Nat → Nat} {rest : List va_E} (x : Int32) (hx : en n t x) (hd : dn = 0) (w : Int64) : xh_R g l m_L_begin hh_L_begin [.ref 0, .int x, .long w, .ref 32] (hC g n t co se ke dn f1 f2 e1 e2 op x1 x2 fa we sh ms ps md tk bl pr ch sm ++ hQ d0 d1 d2 d3 d4 d5 d6 d7 d8 d9 d10 d11 d12 d13 d14 d15 (xj g 1 ou :: rest)) (some (.int (nI 2))) (hC g n t co se ke dn f1 f2 e1 e2 op x1 x2 fa we sh ms ps md tk bl pr ch sm ++ hQ d0 d1 d2 d3 d4 d5 d6 d7 d8 d9 d10 d11 d12 d13 d14 d15 (xj g 1 ou :: rest)) := by
  refine xh_of [some (.ref 0), some (.int x), some (.long w), none, some (.ref 32), none] rfl (Nat.le_of_ble_eq_true rfl) rfl ?_
  intro p e s m args below meth c C hr hk htab hnc
  refine xa_aload C dL_begin_0 rfl ?_
  refine xa_icN C 0 dL_begin_2 ?_
  refine xa_aload_n C dL_begin_3 rfl ?_
  refine xa_iload_n C dL_begin_4 rfl ?_
  refine xa_lload_n C dL_begin_5 rfl ?_
  exact xa_catchB C hr hk (q_S_begin_b g htr x hx hd w) b_L_17 (xw_in wi_S_begin rfl) e_S_begin dL_begin_6 rfl rfl rfl rfl (Nat.le_of_ble_eq_true rfl) ⟨Nat.le_of_ble_eq_true rfl, Nat.le_of_ble_eq_true rfl⟩ ⟨Nat.le_of_ble_eq_true rfl, Nat.le_of_ble_eq_true rfl⟩ htab (by decide) (by decide) (by decide) (by decide) (xw_in wl_L_13 rfl) (xw_in wl_L_15 rfl) hnc (v := 2) (by decide) dL_begin_17 dL_begin_19 dL_begin_20
set_option maxHeartbeats 4000000 in
set_option maxRecDepth 100000 in
theorem r_L_begin_2b (g : xw_G) {l : Launch} (htr : xw_tr l) {n t : Nat} {co se ke f1 f2 e1 e2 x1 x2 fa we sh : Nat → Nat} {dn op ms ps md tk bl : Int32} {pr ch sm : Nat} {d0 d1 d2 d3 d4 d5 d6 d7 d8 d9 d10 d11 d12 d13 d14 d15 : va_E} {ou : Nat → Nat} {rest : List va_E} (hn : n ≤ 6) (ht : t ≤ 6) (x : Int32) (hx : en n t x) (hd : ¬ dn = 0) (ho : ¬ x &&& (op ^^^ (-1)) = 0) (w : Int64) : xh_R g l m_L_begin hh_L_begin [.ref 0, .int x, .long w, .ref 32] (hC g n t co se ke dn f1 f2 e1 e2 op x1 x2 fa we sh ms ps md tk bl pr ch sm ++ hQ d0 d1 d2 d3 d4 d5 d6 d7 d8 d9 d10 d11 d12 d13 d14 d15 (xj g 1 ou :: rest)) (some (.int (nI 2))) (hC g n t co se ke dn f1 f2 e1 e2 op x1 x2 fa we sh ms ps md tk bl pr ch sm ++ hQ d0 d1 d2 d3 d4 d5 d6 d7 d8 d9 d10 d11 d12 d13 d14 d15 (xj g 1 ou :: rest)) := by
  refine xh_of [some (.ref 0), some (.int x), some (.long w), none, some (.ref 32), none] rfl (Nat.le_of_ble_eq_true rfl) rfl ?_
  intro p e s m args below meth c C hr hk htab hnc
  refine xa_aload C dL_begin_0 rfl ?_
  refine xa_icN C 0 dL_begin_2 ?_
  refine xa_aload_n C dL_begin_3 rfl ?_
  refine xa_iload_n C dL_begin_4 rfl ?_
  refine xa_lload_n C dL_begin_5 rfl ?_
  exact xa_catchB C hr hk (q_S_begin_c g htr hn ht x hx hd ho w) b_L_17 (xw_in wi_S_begin rfl) e_S_begin dL_begin_6 rfl rfl rfl rfl (Nat.le_of_ble_eq_true rfl) ⟨Nat.le_of_ble_eq_true rfl, Nat.le_of_ble_eq_true rfl⟩ ⟨Nat.le_of_ble_eq_true rfl, Nat.le_of_ble_eq_true rfl⟩ htab (by decide) (by decide) (by decide) (by decide) (xw_in wl_L_13 rfl) (xw_in wl_L_15 rfl) hnc (v := 2) (by decide) dL_begin_17 dL_begin_19 dL_begin_20
set_option maxHeartbeats 4000000 in
set_option maxRecDepth 100000 in
theorem r_L_sign_0 (g : xw_G) {l : Launch} {n t : Nat} {co se ke f1 f2 e1 e2 x1 x2 fa we sh : Nat → Nat} {dn op ms ps md tk bl : Int32} {pr ch sm : Nat} {d0 d1 d2 d3 d4 d5 d6 d7 d8 d9 d10 d11 d12 d13 d14 d15 : va_E} {ou : Nat → Nat} {rest : List va_E} (hn : n ≤ 6) (ht : t ≤ 6) {i : Nat} (h1 : 1 ≤ i) (hi : i ≤ n) (hco : ∀ j, co j < 2 ^ 31) (hse : ∀ j, se j < 2 ^ 31) (hke : ∀ j, ke j < 2 ^ 31) (hf1 : ∀ j, f1 j < 2 ^ 31) (hf2 : ∀ j, f2 j < 2 ^ 31) (he1 : ∀ j, e1 j < 2 ^ 31) (he2 : ∀ j, e2 j < 2 ^ 31) (hx1 : ∀ j, x1 j < 2 ^ 31) (hx2 : ∀ j, x2 j < 2 ^ 31) (hfa : ∀ j, fa j < 2 ^ 30) (hwe : ∀ j, we j < 2 ^ 31) (hch : ch < 2 ^ 31) (hsh : ∀ j, sh j < 2 ^ 31) (hpr : pr < 2 ^ 31) (hsm : sm < 2 ^ 31) (hp9 : hs ps i = true) : xh_R g l m_L_sign hh_L_sign [.ref 0, .int (nI i), .ref 32] (hC g n t co se ke dn f1 f2 e1 e2 op x1 x2 fa we sh ms ps md tk bl pr ch sm ++ hQ d0 d1 d2 d3 d4 d5 d6 d7 d8 d9 d10 d11 d12 d13 d14 d15 (xj g 1 ou :: rest)) (some (.int (nI 0))) (hC g n t co se ke dn f1 f2 e1 e2 (op &&& (on_ i ^^^ (-1))) x1 x2 fa we (va_up sh i (((f1 i + f2 i * fa i % 1073741789) % 1073741789 + ch * we i % 1073741789 * se i % 1073741789) % 1073741789)) ms (ps &&& (on_ i ^^^ (-1))) (md ||| on_ i) tk bl pr ch sm ++ hQ d0 d1 d2 d3 d4 d5 d6 d7 d8 d9 d10 d11 d12 d13 d14 d15 (xj g 1 (va_up ou 0 (((f1 i + f2 i * fa i % 1073741789) % 1073741789 + ch * we i % 1073741789 * se i % 1073741789) % 1073741789)) :: rest)) := by
  refine xh_of [some (.ref 0), some (.int (nI i)), some (.ref 32), none] rfl (Nat.le_of_ble_eq_true rfl) rfl ?_
  intro p e s m args below meth c C hr hk htab hnc
  refine xa_aload_n C dL_sign_0 rfl ?_
  refine xa_icN C 0 dL_sign_1 ?_
  refine xa_aload_n C dL_sign_2 rfl ?_
  refine xa_iload_n C dL_sign_3 rfl ?_
  refine xa_callV1 C (p_S_sign g l hn ht h1 hi hco hse hke hf1 hf2 he1 he2 hx1 hx2 hfa hwe hch hsh hpr hsm hp9) b_L_20 (xw_in wi_S_sign rfl) e_S_sign dL_sign_4 rfl rfl rfl rfl (Nat.le_of_ble_eq_true rfl) ⟨Nat.le_of_ble_eq_true rfl, Nat.le_of_ble_eq_true rfl⟩ ⟨Nat.zero_le _, Nat.zero_le _⟩ ?_
  refine xa_lastoreN C dL_sign_7 rfl ?_ (by omega) ?_
  · omega
  refine xa_goto C dL_sign_8 (tgt := 17) rfl ?_
  refine xa_icN C 0 dL_sign_17 ?_
  refine xa_widen (k := 1) (n := 6) (by omega) (by omega) ?_
  exact xa_eq rfl rfl rfl (xa_iret C hr hk dL_sign_18)
set_option maxHeartbeats 4000000 in
set_option maxRecDepth 100000 in
theorem r_L_sign_1 (g : xw_G) {l : Launch} (htr : xw_tr l) {n t : Nat} {co se ke f1 f2 e1 e2 x1 x2 fa we sh : Nat → Nat} {dn op ms ps md tk bl : Int32} {pr ch sm : Nat} {d0 d1 d2 d3 d4 d5 d6 d7 d8 d9 d10 d11 d12 d13 d14 d15 : va_E} {ou : Nat → Nat} {rest : List va_E} (x : Int32) (hx : ¬ sg n x) : xh_R g l m_L_sign hh_L_sign [.ref 0, .int x, .ref 32] (hC g n t co se ke dn f1 f2 e1 e2 op x1 x2 fa we sh ms ps md tk bl pr ch sm ++ hQ d0 d1 d2 d3 d4 d5 d6 d7 d8 d9 d10 d11 d12 d13 d14 d15 (xj g 1 ou :: rest)) (some (.int (nI 1))) (hC g n t co se ke dn f1 f2 e1 e2 op x1 x2 fa we sh ms ps md tk bl pr ch sm ++ hQ d0 d1 d2 d3 d4 d5 d6 d7 d8 d9 d10 d11 d12 d13 d14 d15 (xj g 1 ou :: rest)) := by
  refine xh_of [some (.ref 0), some (.int x), some (.ref 32), none] rfl (Nat.le_of_ble_eq_true rfl) rfl ?_
  intro p e s m args below meth c C hr hk htab hnc
  refine xa_aload_n C dL_sign_0 rfl ?_
  refine xa_icN C 0 dL_sign_1 ?_
  refine xa_aload_n C dL_sign_2 rfl ?_
  refine xa_iload_n C dL_sign_3 rfl ?_
  exact xa_catchAn C hr hk (q_S_sign_a g htr x hx) b_L_20 (xw_in wi_S_sign rfl) e_S_sign dL_sign_4 rfl rfl rfl rfl (Nat.le_of_ble_eq_true rfl) ⟨Nat.le_of_ble_eq_true rfl, Nat.le_of_ble_eq_true rfl⟩ ⟨Nat.le_of_ble_eq_true rfl, Nat.le_of_ble_eq_true rfl⟩ htab (by decide) (by decide) (xw_in wl_L_13 rfl) (v := 1) (by decide) dL_sign_11 dL_sign_12 dL_sign_13
set_option maxHeartbeats 4000000 in
set_option maxRecDepth 100000 in
theorem r_L_sign_2 (g : xw_G) {l : Launch} (htr : xw_tr l) {n t : Nat} {co se ke f1 f2 e1 e2 x1 x2 fa we sh : Nat → Nat} {dn op ms ps md tk bl : Int32} {pr ch sm : Nat} {d0 d1 d2 d3 d4 d5 d6 d7 d8 d9 d10 d11 d12 d13 d14 d15 : va_E} {ou : Nat → Nat} {rest : List va_E} (hn : n ≤ 6) {i : Nat} (h1 : 1 ≤ i) (hi : i ≤ n) (hp9 : hs ps i = false) : xh_R g l m_L_sign hh_L_sign [.ref 0, .int (nI i), .ref 32] (hC g n t co se ke dn f1 f2 e1 e2 op x1 x2 fa we sh ms ps md tk bl pr ch sm ++ hQ d0 d1 d2 d3 d4 d5 d6 d7 d8 d9 d10 d11 d12 d13 d14 d15 (xj g 1 ou :: rest)) (some (.int (nI 2))) (hC g n t co se ke dn f1 f2 e1 e2 op x1 x2 fa we sh ms ps md tk bl pr ch sm ++ hQ d0 d1 d2 d3 d4 d5 d6 d7 d8 d9 d10 d11 d12 d13 d14 d15 (xj g 1 ou :: rest)) := by
  refine xh_of [some (.ref 0), some (.int (nI i)), some (.ref 32), none] rfl (Nat.le_of_ble_eq_true rfl) rfl ?_
  intro p e s m args below meth c C hr hk htab hnc
  refine xa_aload_n C dL_sign_0 rfl ?_
  refine xa_icN C 0 dL_sign_1 ?_
  refine xa_aload_n C dL_sign_2 rfl ?_
  refine xa_iload_n C dL_sign_3 rfl ?_
  exact xa_catchBn C hr hk (q_S_sign_b g htr hn h1 hi hp9) b_L_20 (xw_in wi_S_sign rfl) e_S_sign dL_sign_4 rfl rfl rfl rfl (Nat.le_of_ble_eq_true rfl) ⟨Nat.le_of_ble_eq_true rfl, Nat.le_of_ble_eq_true rfl⟩ ⟨Nat.le_of_ble_eq_true rfl, Nat.le_of_ble_eq_true rfl⟩ htab (by decide) (by decide) (by decide) (by decide) (xw_in wl_L_13 rfl) (xw_in wl_L_15 rfl) hnc (v := 2) (by decide) dL_sign_14 dL_sign_15 dL_sign_16
set_option maxHeartbeats 4000000 in
set_option maxRecDepth 100000 in
theorem r_L_submit_0t (g : xw_G) {l : Launch} {n t : Nat} {co se ke f1 f2 e1 e2 x1 x2 fa we sh : Nat → Nat} {dn op ms ps md tk bl : Int32} {pr ch sm : Nat} {d0 d1 d2 d3 d4 d5 d6 d7 d8 d9 d10 d11 d12 d13 d14 d15 : va_E} {ou : Nat → Nat} {rest : List va_E} (hn : n ≤ 6) (ht : t ≤ 6) {i : Nat} (h1 : 1 ≤ i) (hi : i ≤ n) (hco : ∀ j, co j < 2 ^ 31) (hse : ∀ j, se j < 2 ^ 31) (hke : ∀ j, ke j < 2 ^ 31) (hf1 : ∀ j, f1 j < 2 ^ 31) (hf2 : ∀ j, f2 j < 2 ^ 31) (he1 : ∀ j, e1 j < 2 ^ 31) (he2 : ∀ j, e2 j < 2 ^ 31) (hx1 : ∀ j, x1 j < 2 ^ 31) (hx2 : ∀ j, x2 j < 2 ^ 31) (hfa : ∀ j, fa j < 2 ^ 30) (hwe : ∀ j, we j < 2 ^ 31) (hch : ch < 2 ^ 31) (hsh : ∀ j, sh j < 2 ^ 31) (hpr : pr < 2 ^ 31) (hsm : sm < 2 ^ 31) {z : Nat} (hz : z < 1073741789) (hm : hs ms i = true) (hk9 : hs tk i = false) (hR : 4 ^ z % 2147483579 = (x1 i * (x2 i ^ fa i % 2147483579) % 2147483579) * (ke i ^ (ch * we i % 1073741789) % 2147483579) % 2147483579) : xh_R g l m_L_submit hh_L_submit [.ref 0, .int (nI i), .long (lN z), .ref 32] (hC g n t co se ke dn f1 f2 e1 e2 op x1 x2 fa we sh ms ps md tk bl pr ch sm ++ hQ d0 d1 d2 d3 d4 d5 d6 d7 d8 d9 d10 d11 d12 d13 d14 d15 (xj g 1 ou :: rest)) (some (.int (nI 0))) (hC g n t co se ke dn f1 f2 e1 e2 op x1 x2 fa we sh ms ps md (tk ||| on_ i) bl pr ch ((sm + z) % 1073741789) ++ hQ d0 d1 d2 d3 d4 d5 d6 d7 d8 d9 d10 d11 d12 d13 d14 d15 (xj g 1 (va_up ou 0 1) :: rest)) := by
  refine xh_of [some (.ref 0), some (.int (nI i)), some (.long (lN z)), none, some (.ref 32), none] rfl (Nat.le_of_ble_eq_true rfl) rfl ?_
  intro p e s m args below meth c C hr hk htab hnc
  refine xa_aload C dL_submit_0 rfl ?_
  refine xa_icN C 0 dL_submit_2 ?_
  refine xa_aload_n C dL_submit_3 rfl ?_
  refine xa_iload_n C dL_submit_4 rfl ?_
  refine xa_lload_n C dL_submit_5 rfl ?_
  refine xa_callV1 C (p_S_submit_t g l hn ht h1 hi hco hse hke hf1 hf2 he1 he2 hx1 hx2 hfa hwe hch hsh hpr hsm hz hm hk9 hR) b_L_24 (xw_in wi_S_submit rfl) e_S_submit dL_submit_6 rfl rfl rfl rfl (Nat.le_of_ble_eq_true rfl) ⟨Nat.le_of_ble_eq_true rfl, Nat.le_of_ble_eq_true rfl⟩ ⟨Nat.zero_le _, Nat.zero_le _⟩ ?_
  refine xa_if_eq C dL_submit_9 (tgt := 16) rfl (fun h9 => ?_) (fun h9 => ?_)
  · exact absurd h9 (by decide)
  · refine xa_lcN C 1 dL_submit_12 ?_
    refine xa_goto C dL_submit_13 (tgt := 17) rfl ?_
    refine xa_lastoreN C dL_submit_17 rfl ?_ (by omega) ?_
    · omega
    refine xa_goto C dL_submit_18 (tgt := 29) rfl ?_
    refine xa_icN C 0 dL_submit_29 ?_
    refine xa_widen (k := 1) (n := 6) (by omega) (by omega) ?_
    exact xa_eq rfl rfl rfl (xa_iret C hr hk dL_submit_30)
set_option maxHeartbeats 4000000 in
set_option maxRecDepth 100000 in
theorem r_L_submit_0f (g : xw_G) {l : Launch} {n t : Nat} {co se ke f1 f2 e1 e2 x1 x2 fa we sh : Nat → Nat} {dn op ms ps md tk bl : Int32} {pr ch sm : Nat} {d0 d1 d2 d3 d4 d5 d6 d7 d8 d9 d10 d11 d12 d13 d14 d15 : va_E} {ou : Nat → Nat} {rest : List va_E} (hn : n ≤ 6) (ht : t ≤ 6) {i : Nat} (h1 : 1 ≤ i) (hi : i ≤ n) (hco : ∀ j, co j < 2 ^ 31) (hse : ∀ j, se j < 2 ^ 31) (hke : ∀ j, ke j < 2 ^ 31) (hf1 : ∀ j, f1 j < 2 ^ 31) (hf2 : ∀ j, f2 j < 2 ^ 31) (he1 : ∀ j, e1 j < 2 ^ 31) (he2 : ∀ j, e2 j < 2 ^ 31) (hx1 : ∀ j, x1 j < 2 ^ 31) (hx2 : ∀ j, x2 j < 2 ^ 31) (hfa : ∀ j, fa j < 2 ^ 30) (hwe : ∀ j, we j < 2 ^ 31) (hch : ch < 2 ^ 31) (hsh : ∀ j, sh j < 2 ^ 31) (hpr : pr < 2 ^ 31) (hsm : sm < 2 ^ 31) {z : Nat} (hz : z < 1073741789) (hm : hs ms i = true) (hk9 : hs tk i = false) (hR : ¬ 4 ^ z % 2147483579 = (x1 i * (x2 i ^ fa i % 2147483579) % 2147483579) * (ke i ^ (ch * we i % 1073741789) % 2147483579) % 2147483579) : xh_R g l m_L_submit hh_L_submit [.ref 0, .int (nI i), .long (lN z), .ref 32] (hC g n t co se ke dn f1 f2 e1 e2 op x1 x2 fa we sh ms ps md tk bl pr ch sm ++ hQ d0 d1 d2 d3 d4 d5 d6 d7 d8 d9 d10 d11 d12 d13 d14 d15 (xj g 1 ou :: rest)) (some (.int (nI 0))) (hC g n t co se ke dn f1 f2 e1 e2 op x1 x2 fa we sh ms ps md tk (bl ||| on_ i) pr ch sm ++ hQ d0 d1 d2 d3 d4 d5 d6 d7 d8 d9 d10 d11 d12 d13 d14 d15 (xj g 1 (va_up ou 0 0) :: rest)) := by
  refine xh_of [some (.ref 0), some (.int (nI i)), some (.long (lN z)), none, some (.ref 32), none] rfl (Nat.le_of_ble_eq_true rfl) rfl ?_
  intro p e s m args below meth c C hr hk htab hnc
  refine xa_aload C dL_submit_0 rfl ?_
  refine xa_icN C 0 dL_submit_2 ?_
  refine xa_aload_n C dL_submit_3 rfl ?_
  refine xa_iload_n C dL_submit_4 rfl ?_
  refine xa_lload_n C dL_submit_5 rfl ?_
  refine xa_callV1 C (p_S_submit_f g l hn ht h1 hi hco hse hke hf1 hf2 he1 he2 hx1 hx2 hfa hwe hch hsh hpr hsm hz hm hk9 hR) b_L_24 (xw_in wi_S_submit rfl) e_S_submit dL_submit_6 rfl rfl rfl rfl (Nat.le_of_ble_eq_true rfl) ⟨Nat.le_of_ble_eq_true rfl, Nat.le_of_ble_eq_true rfl⟩ ⟨Nat.zero_le _, Nat.zero_le _⟩ ?_
  refine xa_if_eq C dL_submit_9 (tgt := 16) rfl (fun h9 => ?_) (fun h9 => ?_)
  · refine xa_lcN C 0 dL_submit_16 ?_
    refine xa_lastoreN C dL_submit_17 rfl ?_ (by omega) ?_
    · omega
    refine xa_goto C dL_submit_18 (tgt := 29) rfl ?_
    refine xa_icN C 0 dL_submit_29 ?_
    refine xa_widen (k := 1) (n := 6) (by omega) (by omega) ?_
    exact xa_eq rfl rfl rfl (xa_iret C hr hk dL_submit_30)
  · exact absurd rfl h9
set_option maxHeartbeats 4000000 in
set_option maxRecDepth 100000 in
theorem r_L_submit_1a (g : xw_G) {l : Launch} (htr : xw_tr l) {n t : Nat} {co se ke f1 f2 e1 e2 x1 x2 fa we sh : Nat → Nat} {dn op ms ps md tk bl : Int32} {pr ch sm : Nat} {d0 d1 d2 d3 d4 d5 d6 d7 d8 d9 d10 d11 d12 d13 d14 d15 : va_E} {ou : Nat → Nat} {rest : List va_E} (x : Int32) (hx : ¬ sg n x) (w : Int64) : xh_R g l m_L_submit hh_L_submit [.ref 0, .int x, .long w, .ref 32] (hC g n t co se ke dn f1 f2 e1 e2 op x1 x2 fa we sh ms ps md tk bl pr ch sm ++ hQ d0 d1 d2 d3 d4 d5 d6 d7 d8 d9 d10 d11 d12 d13 d14 d15 (xj g 1 ou :: rest)) (some (.int (nI 1))) (hC g n t co se ke dn f1 f2 e1 e2 op x1 x2 fa we sh ms ps md tk bl pr ch sm ++ hQ d0 d1 d2 d3 d4 d5 d6 d7 d8 d9 d10 d11 d12 d13 d14 d15 (xj g 1 ou :: rest)) := by
  refine xh_of [some (.ref 0), some (.int x), some (.long w), none, some (.ref 32), none] rfl (Nat.le_of_ble_eq_true rfl) rfl ?_
  intro p e s m args below meth c C hr hk htab hnc
  refine xa_aload C dL_submit_0 rfl ?_
  refine xa_icN C 0 dL_submit_2 ?_
  refine xa_aload_n C dL_submit_3 rfl ?_
  refine xa_iload_n C dL_submit_4 rfl ?_
  refine xa_lload_n C dL_submit_5 rfl ?_
  exact xa_catchA C hr hk (q_S_submit_a g htr x hx w) b_L_24 (xw_in wi_S_submit rfl) e_S_submit dL_submit_6 rfl rfl rfl rfl (Nat.le_of_ble_eq_true rfl) ⟨Nat.le_of_ble_eq_true rfl, Nat.le_of_ble_eq_true rfl⟩ ⟨Nat.le_of_ble_eq_true rfl, Nat.le_of_ble_eq_true rfl⟩ htab (by decide) (by decide) (xw_in wl_L_13 rfl) (v := 1) (by decide) dL_submit_21 dL_submit_23 dL_submit_24
set_option maxHeartbeats 4000000 in
set_option maxRecDepth 100000 in
theorem r_L_submit_1b (g : xw_G) {l : Launch} (htr : xw_tr l) {n t : Nat} {co se ke f1 f2 e1 e2 x1 x2 fa we sh : Nat → Nat} {dn op ms ps md tk bl : Int32} {pr ch sm : Nat} {d0 d1 d2 d3 d4 d5 d6 d7 d8 d9 d10 d11 d12 d13 d14 d15 : va_E} {ou : Nat → Nat} {rest : List va_E} (hn : n ≤ 6) {i : Nat} (h1 : 1 ≤ i) (hi : i ≤ n) (w : Int64) (hw : ¬ (0 ≤ w ∧ w < 1073741789)) : xh_R g l m_L_submit hh_L_submit [.ref 0, .int (nI i), .long w, .ref 32] (hC g n t co se ke dn f1 f2 e1 e2 op x1 x2 fa we sh ms ps md tk bl pr ch sm ++ hQ d0 d1 d2 d3 d4 d5 d6 d7 d8 d9 d10 d11 d12 d13 d14 d15 (xj g 1 ou :: rest)) (some (.int (nI 1))) (hC g n t co se ke dn f1 f2 e1 e2 op x1 x2 fa we sh ms ps md tk bl pr ch sm ++ hQ d0 d1 d2 d3 d4 d5 d6 d7 d8 d9 d10 d11 d12 d13 d14 d15 (xj g 1 ou :: rest)) := by
  refine xh_of [some (.ref 0), some (.int (nI i)), some (.long w), none, some (.ref 32), none] rfl (Nat.le_of_ble_eq_true rfl) rfl ?_
  intro p e s m args below meth c C hr hk htab hnc
  refine xa_aload C dL_submit_0 rfl ?_
  refine xa_icN C 0 dL_submit_2 ?_
  refine xa_aload_n C dL_submit_3 rfl ?_
  refine xa_iload_n C dL_submit_4 rfl ?_
  refine xa_lload_n C dL_submit_5 rfl ?_
  exact xa_catchA C hr hk (q_S_submit_b g htr hn h1 hi w hw) b_L_24 (xw_in wi_S_submit rfl) e_S_submit dL_submit_6 rfl rfl rfl rfl (Nat.le_of_ble_eq_true rfl) ⟨Nat.le_of_ble_eq_true rfl, Nat.le_of_ble_eq_true rfl⟩ ⟨Nat.le_of_ble_eq_true rfl, Nat.le_of_ble_eq_true rfl⟩ htab (by decide) (by decide) (xw_in wl_L_13 rfl) (v := 1) (by decide) dL_submit_21 dL_submit_23 dL_submit_24
set_option maxHeartbeats 4000000 in
set_option maxRecDepth 100000 in
theorem r_L_submit_2 (g : xw_G) {l : Launch} (htr : xw_tr l) {n t : Nat} {co se ke f1 f2 e1 e2 x1 x2 fa we sh : Nat → Nat} {dn op ms ps md tk bl : Int32} {pr ch sm : Nat} {d0 d1 d2 d3 d4 d5 d6 d7 d8 d9 d10 d11 d12 d13 d14 d15 : va_E} {ou : Nat → Nat} {rest : List va_E} (hn : n ≤ 6) {i : Nat} (h1 : 1 ≤ i) (hi : i ≤ n) {z : Nat} (hz : z < 1073741789) (hm : hs ms i = false ∨ hs tk i = true) : xh_R g l m_L_submit hh_L_submit [.ref 0, .int (nI i), .long (lN z), .ref 32] (hC g n t co se ke dn f1 f2 e1 e2 op x1 x2 fa we sh ms ps md tk bl pr ch sm ++ hQ d0 d1 d2 d3 d4 d5 d6 d7 d8 d9 d10 d11 d12 d13 d14 d15 (xj g 1 ou :: rest)) (some (.int (nI 2))) (hC g n t co se ke dn f1 f2 e1 e2 op x1 x2 fa we sh ms ps md tk bl pr ch sm ++ hQ d0 d1 d2 d3 d4 d5 d6 d7 d8 d9 d10 d11 d12 d13 d14 d15 (xj g 1 ou :: rest)) := by
  refine xh_of [some (.ref 0), some (.int (nI i)), some (.long (lN z)), none, some (.ref 32), none] rfl (Nat.le_of_ble_eq_true rfl) rfl ?_
  intro p e s m args below meth c C hr hk htab hnc
  refine xa_aload C dL_submit_0 rfl ?_
  refine xa_icN C 0 dL_submit_2 ?_
  refine xa_aload_n C dL_submit_3 rfl ?_
  refine xa_iload_n C dL_submit_4 rfl ?_
  refine xa_lload_n C dL_submit_5 rfl ?_
  exact xa_catchB C hr hk (q_S_submit_c g htr hn h1 hi hz hm) b_L_24 (xw_in wi_S_submit rfl) e_S_submit dL_submit_6 rfl rfl rfl rfl (Nat.le_of_ble_eq_true rfl) ⟨Nat.le_of_ble_eq_true rfl, Nat.le_of_ble_eq_true rfl⟩ ⟨Nat.le_of_ble_eq_true rfl, Nat.le_of_ble_eq_true rfl⟩ htab (by decide) (by decide) (by decide) (by decide) (xw_in wl_L_13 rfl) (xw_in wl_L_15 rfl) hnc (v := 2) (by decide) dL_submit_25 dL_submit_27 dL_submit_28
set_option maxHeartbeats 4000000 in
set_option maxRecDepth 100000 in
theorem r_L_relay_0t (g : xw_G) {l : Launch} {n t : Nat} {co se ke f1 f2 e1 e2 x1 x2 fa we sh : Nat → Nat} {dn op ms ps md tk bl : Int32} {pr ch sm : Nat} {d0 d1 d2 d3 d4 d5 d6 d7 d8 d9 d10 d11 d12 d13 d14 d15 : va_E} {ou : Nat → Nat} {rest : List va_E} (hn : n ≤ 6) (ht : t ≤ 6) {i : Nat} (h1 : 1 ≤ i) (hi : i ≤ n) (hco : ∀ j, co j < 2 ^ 31) (hse : ∀ j, se j < 2 ^ 31) (hke : ∀ j, ke j < 2 ^ 31) (hf1 : ∀ j, f1 j < 2 ^ 31) (hf2 : ∀ j, f2 j < 2 ^ 31) (he1 : ∀ j, e1 j < 2 ^ 31) (he2 : ∀ j, e2 j < 2 ^ 31) (hx1 : ∀ j, x1 j < 2 ^ 31) (hx2 : ∀ j, x2 j < 2 ^ 31) (hfa : ∀ j, fa j < 2 ^ 30) (hwe : ∀ j, we j < 2 ^ 31) (hch : ch < 2 ^ 31) (hsh : ∀ j, sh j < 2 ^ 31) (hpr : pr < 2 ^ 31) (hsm : sm < 2 ^ 31) {z : Nat} (hz : z < 1073741789) (hm : hs ms i = true) (hk9 : hs tk i = false) (hmd : hs md i = true) (hR : 4 ^ ((sh i + z) % 1073741789) % 2147483579 = (x1 i * (x2 i ^ fa i % 2147483579) % 2147483579) * (ke i ^ (ch * we i % 1073741789) % 2147483579) % 2147483579) : xh_R g l m_L_relay hh_L_relay [.ref 0, .int (nI i), .long (lN z), .ref 32] (hC g n t co se ke dn f1 f2 e1 e2 op x1 x2 fa we sh ms ps md tk bl pr ch sm ++ hQ d0 d1 d2 d3 d4 d5 d6 d7 d8 d9 d10 d11 d12 d13 d14 d15 (xj g 1 ou :: rest)) (some (.int (nI 0))) (hC g n t co se ke dn f1 f2 e1 e2 op x1 x2 fa we sh ms ps md (tk ||| on_ i) bl pr ch ((sm + ((sh i + z) % 1073741789)) % 1073741789) ++ hQ d0 d1 d2 d3 d4 d5 d6 d7 d8 d9 d10 d11 d12 d13 d14 d15 (xj g 1 (va_up ou 0 1) :: rest)) := by
  refine xh_of [some (.ref 0), some (.int (nI i)), some (.long (lN z)), none, some (.ref 32), none] rfl (Nat.le_of_ble_eq_true rfl) rfl ?_
  intro p e s m args below meth c C hr hk htab hnc
  refine xa_aload C dL_relay_0 rfl ?_
  refine xa_icN C 0 dL_relay_2 ?_
  refine xa_aload_n C dL_relay_3 rfl ?_
  refine xa_iload_n C dL_relay_4 rfl ?_
  refine xa_lload_n C dL_relay_5 rfl ?_
  refine xa_callV1 C (p_S_relay_t g l hn ht h1 hi hco hse hke hf1 hf2 he1 he2 hx1 hx2 hfa hwe hch hsh hpr hsm hz hm hk9 hmd hR) b_L_28 (xw_in wi_S_relay rfl) e_S_relay dL_relay_6 rfl rfl rfl rfl (Nat.le_of_ble_eq_true rfl) ⟨Nat.le_of_ble_eq_true rfl, Nat.le_of_ble_eq_true rfl⟩ ⟨Nat.zero_le _, Nat.zero_le _⟩ ?_
  refine xa_if_eq C dL_relay_9 (tgt := 16) rfl (fun h9 => ?_) (fun h9 => ?_)
  · exact absurd h9 (by decide)
  · refine xa_lcN C 1 dL_relay_12 ?_
    refine xa_goto C dL_relay_13 (tgt := 17) rfl ?_
    refine xa_lastoreN C dL_relay_17 rfl ?_ (by omega) ?_
    · omega
    refine xa_goto C dL_relay_18 (tgt := 29) rfl ?_
    refine xa_icN C 0 dL_relay_29 ?_
    refine xa_widen (k := 1) (n := 6) (by omega) (by omega) ?_
    exact xa_eq rfl rfl rfl (xa_iret C hr hk dL_relay_30)
set_option maxHeartbeats 4000000 in
set_option maxRecDepth 100000 in
theorem r_L_relay_0f (g : xw_G) {l : Launch} {n t : Nat} {co se ke f1 f2 e1 e2 x1 x2 fa we sh : Nat → Nat} {dn op ms ps md tk bl : Int32} {pr ch sm : Nat} {d0 d1 d2 d3 d4 d5 d6 d7 d8 d9 d10 d11 d12 d13 d14 d15 : va_E} {ou : Nat → Nat} {rest : List va_E} (hn : n ≤ 6) (ht : t ≤ 6) {i : Nat} (h1 : 1 ≤ i) (hi : i ≤ n) (hco : ∀ j, co j < 2 ^ 31) (hse : ∀ j, se j < 2 ^ 31) (hke : ∀ j, ke j < 2 ^ 31) (hf1 : ∀ j, f1 j < 2 ^ 31) (hf2 : ∀ j, f2 j < 2 ^ 31) (he1 : ∀ j, e1 j < 2 ^ 31) (he2 : ∀ j, e2 j < 2 ^ 31) (hx1 : ∀ j, x1 j < 2 ^ 31) (hx2 : ∀ j, x2 j < 2 ^ 31) (hfa : ∀ j, fa j < 2 ^ 30) (hwe : ∀ j, we j < 2 ^ 31) (hch : ch < 2 ^ 31) (hsh : ∀ j, sh j < 2 ^ 31) (hpr : pr < 2 ^ 31) (hsm : sm < 2 ^ 31) {z : Nat} (hz : z < 1073741789) (hm : hs ms i = true) (hk9 : hs tk i = false) (hmd : hs md i = true) (hR : ¬ 4 ^ ((sh i + z) % 1073741789) % 2147483579 = (x1 i * (x2 i ^ fa i % 2147483579) % 2147483579) * (ke i ^ (ch * we i % 1073741789) % 2147483579) % 2147483579) : xh_R g l m_L_relay hh_L_relay [.ref 0, .int (nI i), .long (lN z), .ref 32] (hC g n t co se ke dn f1 f2 e1 e2 op x1 x2 fa we sh ms ps md tk bl pr ch sm ++ hQ d0 d1 d2 d3 d4 d5 d6 d7 d8 d9 d10 d11 d12 d13 d14 d15 (xj g 1 ou :: rest)) (some (.int (nI 0))) (hC g n t co se ke dn f1 f2 e1 e2 op x1 x2 fa we sh ms ps md tk (bl ||| on_ i) pr ch sm ++ hQ d0 d1 d2 d3 d4 d5 d6 d7 d8 d9 d10 d11 d12 d13 d14 d15 (xj g 1 (va_up ou 0 0) :: rest)) := by
  refine xh_of [some (.ref 0), some (.int (nI i)), some (.long (lN z)), none, some (.ref 32), none] rfl (Nat.le_of_ble_eq_true rfl) rfl ?_
  intro p e s m args below meth c C hr hk htab hnc
  refine xa_aload C dL_relay_0 rfl ?_
  refine xa_icN C 0 dL_relay_2 ?_
  refine xa_aload_n C dL_relay_3 rfl ?_
  refine xa_iload_n C dL_relay_4 rfl ?_
  refine xa_lload_n C dL_relay_5 rfl ?_
  refine xa_callV1 C (p_S_relay_f g l hn ht h1 hi hco hse hke hf1 hf2 he1 he2 hx1 hx2 hfa hwe hch hsh hpr hsm hz hm hk9 hmd hR) b_L_28 (xw_in wi_S_relay rfl) e_S_relay dL_relay_6 rfl rfl rfl rfl (Nat.le_of_ble_eq_true rfl) ⟨Nat.le_of_ble_eq_true rfl, Nat.le_of_ble_eq_true rfl⟩ ⟨Nat.zero_le _, Nat.zero_le _⟩ ?_
  refine xa_if_eq C dL_relay_9 (tgt := 16) rfl (fun h9 => ?_) (fun h9 => ?_)
  · refine xa_lcN C 0 dL_relay_16 ?_
    refine xa_lastoreN C dL_relay_17 rfl ?_ (by omega) ?_
    · omega
    refine xa_goto C dL_relay_18 (tgt := 29) rfl ?_
    refine xa_icN C 0 dL_relay_29 ?_
    refine xa_widen (k := 1) (n := 6) (by omega) (by omega) ?_
    exact xa_eq rfl rfl rfl (xa_iret C hr hk dL_relay_30)
  · exact absurd rfl h9
set_option maxHeartbeats 4000000 in
set_option maxRecDepth 100000 in
theorem r_L_relay_1a (g : xw_G) {l : Launch} (htr : xw_tr l) {n t : Nat} {co se ke f1 f2 e1 e2 x1 x2 fa we sh : Nat → Nat} {dn op ms ps md tk bl : Int32} {pr ch sm : Nat} {d0 d1 d2 d3 d4 d5 d6 d7 d8 d9 d10 d11 d12 d13 d14 d15 : va_E} {ou : Nat → Nat} {rest : List va_E} (x : Int32) (hx : ¬ sg n x) (w : Int64) : xh_R g l m_L_relay hh_L_relay [.ref 0, .int x, .long w, .ref 32] (hC g n t co se ke dn f1 f2 e1 e2 op x1 x2 fa we sh ms ps md tk bl pr ch sm ++ hQ d0 d1 d2 d3 d4 d5 d6 d7 d8 d9 d10 d11 d12 d13 d14 d15 (xj g 1 ou :: rest)) (some (.int (nI 1))) (hC g n t co se ke dn f1 f2 e1 e2 op x1 x2 fa we sh ms ps md tk bl pr ch sm ++ hQ d0 d1 d2 d3 d4 d5 d6 d7 d8 d9 d10 d11 d12 d13 d14 d15 (xj g 1 ou :: rest)) := by
  refine xh_of [some (.ref 0), some (.int x), some (.long w), none, some (.ref 32), none] rfl (Nat.le_of_ble_eq_true rfl) rfl ?_
  intro p e s m args below meth c C hr hk htab hnc
  refine xa_aload C dL_relay_0 rfl ?_
  refine xa_icN C 0 dL_relay_2 ?_
  refine xa_aload_n C dL_relay_3 rfl ?_
  refine xa_iload_n C dL_relay_4 rfl ?_
  refine xa_lload_n C dL_relay_5 rfl ?_
  exact xa_catchA C hr hk (q_S_relay_a g htr x hx w) b_L_28 (xw_in wi_S_relay rfl) e_S_relay dL_relay_6 rfl rfl rfl rfl (Nat.le_of_ble_eq_true rfl) ⟨Nat.le_of_ble_eq_true rfl, Nat.le_of_ble_eq_true rfl⟩ ⟨Nat.le_of_ble_eq_true rfl, Nat.le_of_ble_eq_true rfl⟩ htab (by decide) (by decide) (xw_in wl_L_13 rfl) (v := 1) (by decide) dL_relay_21 dL_relay_23 dL_relay_24
set_option maxHeartbeats 4000000 in
set_option maxRecDepth 100000 in
theorem r_L_relay_1b (g : xw_G) {l : Launch} (htr : xw_tr l) {n t : Nat} {co se ke f1 f2 e1 e2 x1 x2 fa we sh : Nat → Nat} {dn op ms ps md tk bl : Int32} {pr ch sm : Nat} {d0 d1 d2 d3 d4 d5 d6 d7 d8 d9 d10 d11 d12 d13 d14 d15 : va_E} {ou : Nat → Nat} {rest : List va_E} (hn : n ≤ 6) {i : Nat} (h1 : 1 ≤ i) (hi : i ≤ n) (w : Int64) (hw : ¬ (0 ≤ w ∧ w < 1073741789)) : xh_R g l m_L_relay hh_L_relay [.ref 0, .int (nI i), .long w, .ref 32] (hC g n t co se ke dn f1 f2 e1 e2 op x1 x2 fa we sh ms ps md tk bl pr ch sm ++ hQ d0 d1 d2 d3 d4 d5 d6 d7 d8 d9 d10 d11 d12 d13 d14 d15 (xj g 1 ou :: rest)) (some (.int (nI 1))) (hC g n t co se ke dn f1 f2 e1 e2 op x1 x2 fa we sh ms ps md tk bl pr ch sm ++ hQ d0 d1 d2 d3 d4 d5 d6 d7 d8 d9 d10 d11 d12 d13 d14 d15 (xj g 1 ou :: rest)) := by
  refine xh_of [some (.ref 0), some (.int (nI i)), some (.long w), none, some (.ref 32), none] rfl (Nat.le_of_ble_eq_true rfl) rfl ?_
  intro p e s m args below meth c C hr hk htab hnc
  refine xa_aload C dL_relay_0 rfl ?_
  refine xa_icN C 0 dL_relay_2 ?_
  refine xa_aload_n C dL_relay_3 rfl ?_
  refine xa_iload_n C dL_relay_4 rfl ?_
  refine xa_lload_n C dL_relay_5 rfl ?_
  exact xa_catchA C hr hk (q_S_relay_b g htr hn h1 hi w hw) b_L_28 (xw_in wi_S_relay rfl) e_S_relay dL_relay_6 rfl rfl rfl rfl (Nat.le_of_ble_eq_true rfl) ⟨Nat.le_of_ble_eq_true rfl, Nat.le_of_ble_eq_true rfl⟩ ⟨Nat.le_of_ble_eq_true rfl, Nat.le_of_ble_eq_true rfl⟩ htab (by decide) (by decide) (xw_in wl_L_13 rfl) (v := 1) (by decide) dL_relay_21 dL_relay_23 dL_relay_24
set_option maxHeartbeats 4000000 in
set_option maxRecDepth 100000 in
theorem r_L_relay_2 (g : xw_G) {l : Launch} (htr : xw_tr l) {n t : Nat} {co se ke f1 f2 e1 e2 x1 x2 fa we sh : Nat → Nat} {dn op ms ps md tk bl : Int32} {pr ch sm : Nat} {d0 d1 d2 d3 d4 d5 d6 d7 d8 d9 d10 d11 d12 d13 d14 d15 : va_E} {ou : Nat → Nat} {rest : List va_E} (hn : n ≤ 6) {i : Nat} (h1 : 1 ≤ i) (hi : i ≤ n) {z : Nat} (hz : z < 1073741789) (hm : hs ms i = false ∨ hs tk i = true) : xh_R g l m_L_relay hh_L_relay [.ref 0, .int (nI i), .long (lN z), .ref 32] (hC g n t co se ke dn f1 f2 e1 e2 op x1 x2 fa we sh ms ps md tk bl pr ch sm ++ hQ d0 d1 d2 d3 d4 d5 d6 d7 d8 d9 d10 d11 d12 d13 d14 d15 (xj g 1 ou :: rest)) (some (.int (nI 2))) (hC g n t co se ke dn f1 f2 e1 e2 op x1 x2 fa we sh ms ps md tk bl pr ch sm ++ hQ d0 d1 d2 d3 d4 d5 d6 d7 d8 d9 d10 d11 d12 d13 d14 d15 (xj g 1 ou :: rest)) := by
  refine xh_of [some (.ref 0), some (.int (nI i)), some (.long (lN z)), none, some (.ref 32), none] rfl (Nat.le_of_ble_eq_true rfl) rfl ?_
  intro p e s m args below meth c C hr hk htab hnc
  refine xa_aload C dL_relay_0 rfl ?_
  refine xa_icN C 0 dL_relay_2 ?_
  refine xa_aload_n C dL_relay_3 rfl ?_
  refine xa_iload_n C dL_relay_4 rfl ?_
  refine xa_lload_n C dL_relay_5 rfl ?_
  exact xa_catchB C hr hk (q_S_relay_c g htr hn h1 hi hz hm) b_L_28 (xw_in wi_S_relay rfl) e_S_relay dL_relay_6 rfl rfl rfl rfl (Nat.le_of_ble_eq_true rfl) ⟨Nat.le_of_ble_eq_true rfl, Nat.le_of_ble_eq_true rfl⟩ ⟨Nat.le_of_ble_eq_true rfl, Nat.le_of_ble_eq_true rfl⟩ htab (by decide) (by decide) (by decide) (by decide) (xw_in wl_L_13 rfl) (xw_in wl_L_15 rfl) hnc (v := 2) (by decide) dL_relay_25 dL_relay_27 dL_relay_28
set_option maxHeartbeats 4000000 in
set_option maxRecDepth 100000 in
theorem r_L_relay_2b (g : xw_G) {l : Launch} (htr : xw_tr l) {n t : Nat} {co se ke f1 f2 e1 e2 x1 x2 fa we sh : Nat → Nat} {dn op ms ps md tk bl : Int32} {pr ch sm : Nat} {d0 d1 d2 d3 d4 d5 d6 d7 d8 d9 d10 d11 d12 d13 d14 d15 : va_E} {ou : Nat → Nat} {rest : List va_E} (hn : n ≤ 6) {i : Nat} (h1 : 1 ≤ i) (hi : i ≤ n) {z : Nat} (hz : z < 1073741789) (hm : hs ms i = true) (hk9 : hs tk i = false) (hmd : hs md i = false) : xh_R g l m_L_relay hh_L_relay [.ref 0, .int (nI i), .long (lN z), .ref 32] (hC g n t co se ke dn f1 f2 e1 e2 op x1 x2 fa we sh ms ps md tk bl pr ch sm ++ hQ d0 d1 d2 d3 d4 d5 d6 d7 d8 d9 d10 d11 d12 d13 d14 d15 (xj g 1 ou :: rest)) (some (.int (nI 2))) (hC g n t co se ke dn f1 f2 e1 e2 op x1 x2 fa we sh ms ps md tk bl pr ch sm ++ hQ d0 d1 d2 d3 d4 d5 d6 d7 d8 d9 d10 d11 d12 d13 d14 d15 (xj g 1 ou :: rest)) := by
  refine xh_of [some (.ref 0), some (.int (nI i)), some (.long (lN z)), none, some (.ref 32), none] rfl (Nat.le_of_ble_eq_true rfl) rfl ?_
  intro p e s m args below meth c C hr hk htab hnc
  refine xa_aload C dL_relay_0 rfl ?_
  refine xa_icN C 0 dL_relay_2 ?_
  refine xa_aload_n C dL_relay_3 rfl ?_
  refine xa_iload_n C dL_relay_4 rfl ?_
  refine xa_lload_n C dL_relay_5 rfl ?_
  exact xa_catchB C hr hk (q_S_relay_d g htr hn h1 hi hz hm hk9 hmd) b_L_28 (xw_in wi_S_relay rfl) e_S_relay dL_relay_6 rfl rfl rfl rfl (Nat.le_of_ble_eq_true rfl) ⟨Nat.le_of_ble_eq_true rfl, Nat.le_of_ble_eq_true rfl⟩ ⟨Nat.le_of_ble_eq_true rfl, Nat.le_of_ble_eq_true rfl⟩ htab (by decide) (by decide) (by decide) (by decide) (xw_in wl_L_13 rfl) (xw_in wl_L_15 rfl) hnc (v := 2) (by decide) dL_relay_25 dL_relay_27 dL_relay_28
set_option maxHeartbeats 4000000 in
set_option maxRecDepth 100000 in
theorem r_L_seal_0 (g : xw_G) {l : Launch} {n t : Nat} {co se ke f1 f2 e1 e2 x1 x2 fa we sh : Nat → Nat} {dn op ms ps md tk bl : Int32} {pr ch sm : Nat} {d0 d1 d2 d3 d4 d5 d6 d7 d8 d9 d10 d11 d12 d13 d14 d15 : va_E} {ou : Nat → Nat} {rest : List va_E} (h0 : ¬ ms = 0) (he : tk = ms) : xh_R g l m_L_seal hh_L_seal [.ref 0, .ref 32] (hC g n t co se ke dn f1 f2 e1 e2 op x1 x2 fa we sh ms ps md tk bl pr ch sm ++ hQ d0 d1 d2 d3 d4 d5 d6 d7 d8 d9 d10 d11 d12 d13 d14 d15 (xj g 1 ou :: rest)) (some (.int (nI 0))) (hC g n t co se ke dn f1 f2 e1 e2 op x1 x2 fa we sh ms ps md tk bl pr ch sm ++ hQ d0 d1 d2 d3 d4 d5 d6 d7 d8 d9 d10 d11 d12 d13 d14 d15 (xj g 1 (va_up ou 0 sm) :: rest)) := by
  refine xh_of [some (.ref 0), some (.ref 32), none] rfl (Nat.le_of_ble_eq_true rfl) rfl ?_
  intro p e s m args below meth c C hr hk htab hnc
  refine xa_aload_n C dL_seal_0 rfl ?_
  refine xa_icN C 0 dL_seal_1 ?_
  refine xa_aload_n C dL_seal_2 rfl ?_
  refine xa_callV1 C (p_S_seal g l h0 he) b_L_31 (xw_in wi_S_seal rfl) e_S_seal dL_seal_3 rfl rfl rfl rfl (Nat.le_of_ble_eq_true rfl) ⟨Nat.le_of_ble_eq_true rfl, Nat.le_of_ble_eq_true rfl⟩ ⟨Nat.zero_le _, Nat.zero_le _⟩ ?_
  refine xa_lastoreN C dL_seal_6 rfl ?_ (by omega) ?_
  · omega
  refine xa_goto C dL_seal_7 (tgt := 13) rfl ?_
  refine xa_icN C 0 dL_seal_13 ?_
  refine xa_widen (k := 1) (n := 6) (by omega) (by omega) ?_
  exact xa_eq rfl rfl rfl (xa_iret C hr hk dL_seal_14)
set_option maxHeartbeats 4000000 in
set_option maxRecDepth 100000 in
theorem r_L_seal_1 (g : xw_G) {l : Launch} (htr : xw_tr l) {n t : Nat} {co se ke f1 f2 e1 e2 x1 x2 fa we sh : Nat → Nat} {dn op ms ps md tk bl : Int32} {pr ch sm : Nat} {d0 d1 d2 d3 d4 d5 d6 d7 d8 d9 d10 d11 d12 d13 d14 d15 : va_E} {ou : Nat → Nat} {rest : List va_E} (h0 : ms = 0 ∨ ¬ tk = ms) : xh_R g l m_L_seal hh_L_seal [.ref 0, .ref 32] (hC g n t co se ke dn f1 f2 e1 e2 op x1 x2 fa we sh ms ps md tk bl pr ch sm ++ hQ d0 d1 d2 d3 d4 d5 d6 d7 d8 d9 d10 d11 d12 d13 d14 d15 (xj g 1 ou :: rest)) (some (.int (nI 1))) (hC g n t co se ke dn f1 f2 e1 e2 op x1 x2 fa we sh ms ps md tk bl pr ch sm ++ hQ d0 d1 d2 d3 d4 d5 d6 d7 d8 d9 d10 d11 d12 d13 d14 d15 (xj g 1 ou :: rest)) := by
  refine xh_of [some (.ref 0), some (.ref 32), none] rfl (Nat.le_of_ble_eq_true rfl) rfl ?_
  intro p e s m args below meth c C hr hk htab hnc
  refine xa_aload_n C dL_seal_0 rfl ?_
  refine xa_icN C 0 dL_seal_1 ?_
  refine xa_aload_n C dL_seal_2 rfl ?_
  exact xa_catchAn C hr hk (q_S_seal_a g htr h0) b_L_31 (xw_in wi_S_seal rfl) e_S_seal dL_seal_3 rfl rfl rfl rfl (Nat.le_of_ble_eq_true rfl) ⟨Nat.le_of_ble_eq_true rfl, Nat.le_of_ble_eq_true rfl⟩ ⟨Nat.le_of_ble_eq_true rfl, Nat.le_of_ble_eq_true rfl⟩ htab (by decide) (by decide) (xw_in wl_L_15 rfl) (v := 1) (by decide) dL_seal_10 dL_seal_11 dL_seal_12
set_option maxHeartbeats 4000000 in
set_option maxRecDepth 100000 in
theorem r_L_holds_0t (g : xw_G) {l : Launch} {n t : Nat} {co se ke f1 f2 e1 e2 x1 x2 fa we sh : Nat → Nat} {dn op ms ps md tk bl : Int32} {pr ch sm : Nat} {d0 d1 d2 d3 d4 d5 d6 d7 d8 d9 d10 d11 d12 d13 d14 d15 : va_E} {ou : Nat → Nat} {rest : List va_E} (hn : n ≤ 6) (ht : t ≤ 6) (hke : ∀ j, ke j < 2 ^ 31) (hsm : sm < 2 ^ 31) (h0 : ¬ ms = 0) (he : tk = ms) (w : Int64) {z : Nat} (hz : z < 1073741789) (hS9 : SHp (ke 0) w (lN pr) (lN ((sm + z) % 1073741789))) : xh_R g l m_L_holds hh_L_holds [.ref 0, .long w, .long (lN z), .ref 32] (hC g n t co se ke dn f1 f2 e1 e2 op x1 x2 fa we sh ms ps md tk bl pr ch sm ++ hQ d0 d1 d2 d3 d4 d5 d6 d7 d8 d9 d10 d11 d12 d13 d14 d15 (xj g 1 ou :: rest)) (some (.int (nI 0))) (hC g n t co se ke dn f1 f2 e1 e2 op x1 x2 fa we sh ms ps md tk bl pr ch sm ++ hQ d0 d1 d2 d3 d4 d5 d6 d7 d8 d9 d10 d11 d12 d13 d14 d15 (xj g 1 (va_up ou 0 1) :: rest)) := by
  refine xh_of [some (.ref 0), some (.long w), none, some (.long (lN z)), none, some (.ref 32), none] rfl (Nat.le_of_ble_eq_true rfl) rfl ?_
  intro p e s m args below meth c C hr hk htab hnc
  refine xa_aload C dL_holds_0 rfl ?_
  refine xa_icN C 0 dL_holds_2 ?_
  refine xa_aload_n C dL_holds_3 rfl ?_
  refine xa_lload_n C dL_holds_4 rfl ?_
  refine xa_lload_n C dL_holds_5 rfl ?_
  refine xa_callV1 C (p_S_holds g l hn ht hke hsm h0 he w hz) b_L_35 (xw_in wi_S_holds rfl) e_S_holds dL_holds_6 rfl rfl rfl rfl (Nat.le_of_ble_eq_true rfl) ⟨Nat.le_of_ble_eq_true rfl, Nat.le_of_ble_eq_true rfl⟩ ⟨Nat.zero_le _, Nat.zero_le _⟩ ?_
  refine xa_if_eq C dL_holds_9 (tgt := 16) rfl (fun h9 => ?_) (fun h9 => ?_)
  · exact absurd hS9 (xb_eq0.mp h9)
  · refine xa_lcN C 1 dL_holds_12 ?_
    refine xa_goto C dL_holds_13 (tgt := 17) rfl ?_
    refine xa_lastoreN C dL_holds_17 rfl ?_ (by omega) ?_
    · omega
    refine xa_goto C dL_holds_18 (tgt := 29) rfl ?_
    refine xa_icN C 0 dL_holds_29 ?_
    refine xa_widen (k := 1) (n := 6) (by omega) (by omega) ?_
    exact xa_eq rfl rfl rfl (xa_iret C hr hk dL_holds_30)
set_option maxHeartbeats 4000000 in
set_option maxRecDepth 100000 in
theorem r_L_holds_0f (g : xw_G) {l : Launch} {n t : Nat} {co se ke f1 f2 e1 e2 x1 x2 fa we sh : Nat → Nat} {dn op ms ps md tk bl : Int32} {pr ch sm : Nat} {d0 d1 d2 d3 d4 d5 d6 d7 d8 d9 d10 d11 d12 d13 d14 d15 : va_E} {ou : Nat → Nat} {rest : List va_E} (hn : n ≤ 6) (ht : t ≤ 6) (hke : ∀ j, ke j < 2 ^ 31) (hsm : sm < 2 ^ 31) (h0 : ¬ ms = 0) (he : tk = ms) (w : Int64) {z : Nat} (hz : z < 1073741789) (hS9 : ¬ SHp (ke 0) w (lN pr) (lN ((sm + z) % 1073741789))) : xh_R g l m_L_holds hh_L_holds [.ref 0, .long w, .long (lN z), .ref 32] (hC g n t co se ke dn f1 f2 e1 e2 op x1 x2 fa we sh ms ps md tk bl pr ch sm ++ hQ d0 d1 d2 d3 d4 d5 d6 d7 d8 d9 d10 d11 d12 d13 d14 d15 (xj g 1 ou :: rest)) (some (.int (nI 0))) (hC g n t co se ke dn f1 f2 e1 e2 op x1 x2 fa we sh ms ps md tk bl pr ch sm ++ hQ d0 d1 d2 d3 d4 d5 d6 d7 d8 d9 d10 d11 d12 d13 d14 d15 (xj g 1 (va_up ou 0 0) :: rest)) := by
  refine xh_of [some (.ref 0), some (.long w), none, some (.long (lN z)), none, some (.ref 32), none] rfl (Nat.le_of_ble_eq_true rfl) rfl ?_
  intro p e s m args below meth c C hr hk htab hnc
  refine xa_aload C dL_holds_0 rfl ?_
  refine xa_icN C 0 dL_holds_2 ?_
  refine xa_aload_n C dL_holds_3 rfl ?_
  refine xa_lload_n C dL_holds_4 rfl ?_
  refine xa_lload_n C dL_holds_5 rfl ?_
  refine xa_callV1 C (p_S_holds g l hn ht hke hsm h0 he w hz) b_L_35 (xw_in wi_S_holds rfl) e_S_holds dL_holds_6 rfl rfl rfl rfl (Nat.le_of_ble_eq_true rfl) ⟨Nat.le_of_ble_eq_true rfl, Nat.le_of_ble_eq_true rfl⟩ ⟨Nat.zero_le _, Nat.zero_le _⟩ ?_
  refine xa_if_eq C dL_holds_9 (tgt := 16) rfl (fun h9 => ?_) (fun h9 => ?_)
  · refine xa_lcN C 0 dL_holds_16 ?_
    refine xa_lastoreN C dL_holds_17 rfl ?_ (by omega) ?_
    · omega
    refine xa_goto C dL_holds_18 (tgt := 29) rfl ?_
    refine xa_icN C 0 dL_holds_29 ?_
    refine xa_widen (k := 1) (n := 6) (by omega) (by omega) ?_
    exact xa_eq rfl rfl rfl (xa_iret C hr hk dL_holds_30)
  · exact absurd (xb_f hS9) h9
set_option maxHeartbeats 4000000 in
set_option maxRecDepth 100000 in
theorem r_L_holds_1 (g : xw_G) {l : Launch} (htr : xw_tr l) {n t : Nat} {co se ke f1 f2 e1 e2 x1 x2 fa we sh : Nat → Nat} {dn op ms ps md tk bl : Int32} {pr ch sm : Nat} {d0 d1 d2 d3 d4 d5 d6 d7 d8 d9 d10 d11 d12 d13 d14 d15 : va_E} {ou : Nat → Nat} {rest : List va_E} (w x : Int64) (hx : ¬ (0 ≤ x ∧ x < 1073741789)) : xh_R g l m_L_holds hh_L_holds [.ref 0, .long w, .long x, .ref 32] (hC g n t co se ke dn f1 f2 e1 e2 op x1 x2 fa we sh ms ps md tk bl pr ch sm ++ hQ d0 d1 d2 d3 d4 d5 d6 d7 d8 d9 d10 d11 d12 d13 d14 d15 (xj g 1 ou :: rest)) (some (.int (nI 1))) (hC g n t co se ke dn f1 f2 e1 e2 op x1 x2 fa we sh ms ps md tk bl pr ch sm ++ hQ d0 d1 d2 d3 d4 d5 d6 d7 d8 d9 d10 d11 d12 d13 d14 d15 (xj g 1 ou :: rest)) := by
  refine xh_of [some (.ref 0), some (.long w), none, some (.long x), none, some (.ref 32), none] rfl (Nat.le_of_ble_eq_true rfl) rfl ?_
  intro p e s m args below meth c C hr hk htab hnc
  refine xa_aload C dL_holds_0 rfl ?_
  refine xa_icN C 0 dL_holds_2 ?_
  refine xa_aload_n C dL_holds_3 rfl ?_
  refine xa_lload_n C dL_holds_4 rfl ?_
  refine xa_lload_n C dL_holds_5 rfl ?_
  exact xa_catchA C hr hk (q_S_holds_a g htr w x hx) b_L_35 (xw_in wi_S_holds rfl) e_S_holds dL_holds_6 rfl rfl rfl rfl (Nat.le_of_ble_eq_true rfl) ⟨Nat.le_of_ble_eq_true rfl, Nat.le_of_ble_eq_true rfl⟩ ⟨Nat.le_of_ble_eq_true rfl, Nat.le_of_ble_eq_true rfl⟩ htab (by decide) (by decide) (xw_in wl_L_13 rfl) (v := 1) (by decide) dL_holds_21 dL_holds_23 dL_holds_24
set_option maxHeartbeats 4000000 in
set_option maxRecDepth 100000 in
theorem r_L_holds_2 (g : xw_G) {l : Launch} (htr : xw_tr l) {n t : Nat} {co se ke f1 f2 e1 e2 x1 x2 fa we sh : Nat → Nat} {dn op ms ps md tk bl : Int32} {pr ch sm : Nat} {d0 d1 d2 d3 d4 d5 d6 d7 d8 d9 d10 d11 d12 d13 d14 d15 : va_E} {ou : Nat → Nat} {rest : List va_E} (w : Int64) {z : Nat} (hz : z < 1073741789) (h0 : ms = 0 ∨ ¬ tk = ms) : xh_R g l m_L_holds hh_L_holds [.ref 0, .long w, .long (lN z), .ref 32] (hC g n t co se ke dn f1 f2 e1 e2 op x1 x2 fa we sh ms ps md tk bl pr ch sm ++ hQ d0 d1 d2 d3 d4 d5 d6 d7 d8 d9 d10 d11 d12 d13 d14 d15 (xj g 1 ou :: rest)) (some (.int (nI 2))) (hC g n t co se ke dn f1 f2 e1 e2 op x1 x2 fa we sh ms ps md tk bl pr ch sm ++ hQ d0 d1 d2 d3 d4 d5 d6 d7 d8 d9 d10 d11 d12 d13 d14 d15 (xj g 1 ou :: rest)) := by
  refine xh_of [some (.ref 0), some (.long w), none, some (.long (lN z)), none, some (.ref 32), none] rfl (Nat.le_of_ble_eq_true rfl) rfl ?_
  intro p e s m args below meth c C hr hk htab hnc
  refine xa_aload C dL_holds_0 rfl ?_
  refine xa_icN C 0 dL_holds_2 ?_
  refine xa_aload_n C dL_holds_3 rfl ?_
  refine xa_lload_n C dL_holds_4 rfl ?_
  refine xa_lload_n C dL_holds_5 rfl ?_
  exact xa_catchB C hr hk (q_S_holds_b g htr w hz h0) b_L_35 (xw_in wi_S_holds rfl) e_S_holds dL_holds_6 rfl rfl rfl rfl (Nat.le_of_ble_eq_true rfl) ⟨Nat.le_of_ble_eq_true rfl, Nat.le_of_ble_eq_true rfl⟩ ⟨Nat.le_of_ble_eq_true rfl, Nat.le_of_ble_eq_true rfl⟩ htab (by decide) (by decide) (by decide) (by decide) (xw_in wl_L_13 rfl) (xw_in wl_L_15 rfl) hnc (v := 2) (by decide) dL_holds_25 dL_holds_27 dL_holds_28
set_option maxHeartbeats 4000000 in
set_option maxRecDepth 100000 in
theorem r_L_recover_0 (g : xw_G) {l : Launch} {n t : Nat} {co se ke f1 f2 e1 e2 x1 x2 fa we sh : Nat → Nat} {dn op ms ps md tk bl : Int32} {pr ch sm : Nat} {d0 d1 d2 d3 d4 d5 d6 d7 d8 d9 d10 d11 d12 d13 d14 d15 : va_E} {ou : Nat → Nat} {rest : List va_E} (hn : n ≤ 6) (ht : t ≤ 6) (hse : ∀ j, se j < 2 ^ 31) (x : Int32) (hx : en n t x) (hd : ¬ dn = 0) : xh_R g l m_L_recover hh_L_recover [.ref 0, .int x, .ref 32] (hC g n t co se ke dn f1 f2 e1 e2 op x1 x2 fa we sh ms ps md tk bl pr ch sm ++ hQ d0 d1 d2 d3 d4 d5 d6 d7 d8 d9 d10 d11 d12 d13 d14 d15 (xj g 1 ou :: rest)) (some (.int (nI 0))) (hC g n t co se ke dn f1 f2 e1 e2 op x1 x2 fa we sh ms ps md tk bl pr ch sm ++ hQ d0 d1 d2 d3 d4 d5 d6 d7 d8 d9 d10 d11 d12 d13 d14 d15 (xj g 1 (va_up ou 0 (rc_ x n se n)) :: rest)) := by
  refine xh_of [some (.ref 0), some (.int x), some (.ref 32), none] rfl (Nat.le_of_ble_eq_true rfl) rfl ?_
  intro p e s m args below meth c C hr hk htab hnc
  refine xa_aload_n C dL_recover_0 rfl ?_
  refine xa_icN C 0 dL_recover_1 ?_
  refine xa_aload_n C dL_recover_2 rfl ?_
  refine xa_iload_n C dL_recover_3 rfl ?_
  refine xa_callV1 C (p_S_recover g l hn ht hse x hx hd) b_L_39 (xw_in wi_S_recover rfl) e_S_recover dL_recover_4 rfl rfl rfl rfl (Nat.le_of_ble_eq_true rfl) ⟨Nat.le_of_ble_eq_true rfl, Nat.le_of_ble_eq_true rfl⟩ ⟨Nat.zero_le _, Nat.zero_le _⟩ ?_
  refine xa_lastoreN C dL_recover_7 rfl ?_ (by omega) ?_
  · omega
  refine xa_goto C dL_recover_8 (tgt := 17) rfl ?_
  refine xa_icN C 0 dL_recover_17 ?_
  refine xa_widen (k := 1) (n := 6) (by omega) (by omega) ?_
  exact xa_eq rfl rfl rfl (xa_iret C hr hk dL_recover_18)
set_option maxHeartbeats 4000000 in
set_option maxRecDepth 100000 in
theorem r_L_recover_1 (g : xw_G) {l : Launch} (htr : xw_tr l) {n t : Nat} {co se ke f1 f2 e1 e2 x1 x2 fa we sh : Nat → Nat} {dn op ms ps md tk bl : Int32} {pr ch sm : Nat} {d0 d1 d2 d3 d4 d5 d6 d7 d8 d9 d10 d11 d12 d13 d14 d15 : va_E} {ou : Nat → Nat} {rest : List va_E} (x : Int32) (hx : ¬ en n t x) : xh_R g l m_L_recover hh_L_recover [.ref 0, .int x, .ref 32] (hC g n t co se ke dn f1 f2 e1 e2 op x1 x2 fa we sh ms ps md tk bl pr ch sm ++ hQ d0 d1 d2 d3 d4 d5 d6 d7 d8 d9 d10 d11 d12 d13 d14 d15 (xj g 1 ou :: rest)) (some (.int (nI 1))) (hC g n t co se ke dn f1 f2 e1 e2 op x1 x2 fa we sh ms ps md tk bl pr ch sm ++ hQ d0 d1 d2 d3 d4 d5 d6 d7 d8 d9 d10 d11 d12 d13 d14 d15 (xj g 1 ou :: rest)) := by
  refine xh_of [some (.ref 0), some (.int x), some (.ref 32), none] rfl (Nat.le_of_ble_eq_true rfl) rfl ?_
  intro p e s m args below meth c C hr hk htab hnc
  refine xa_aload_n C dL_recover_0 rfl ?_
  refine xa_icN C 0 dL_recover_1 ?_
  refine xa_aload_n C dL_recover_2 rfl ?_
  refine xa_iload_n C dL_recover_3 rfl ?_
  exact xa_catchAn C hr hk (q_S_recover_a g htr x hx) b_L_39 (xw_in wi_S_recover rfl) e_S_recover dL_recover_4 rfl rfl rfl rfl (Nat.le_of_ble_eq_true rfl) ⟨Nat.le_of_ble_eq_true rfl, Nat.le_of_ble_eq_true rfl⟩ ⟨Nat.le_of_ble_eq_true rfl, Nat.le_of_ble_eq_true rfl⟩ htab (by decide) (by decide) (xw_in wl_L_13 rfl) (v := 1) (by decide) dL_recover_11 dL_recover_12 dL_recover_13
set_option maxHeartbeats 4000000 in
set_option maxRecDepth 100000 in
theorem r_L_recover_2 (g : xw_G) {l : Launch} (htr : xw_tr l) {n t : Nat} {co se ke f1 f2 e1 e2 x1 x2 fa we sh : Nat → Nat} {dn op ms ps md tk bl : Int32} {pr ch sm : Nat} {d0 d1 d2 d3 d4 d5 d6 d7 d8 d9 d10 d11 d12 d13 d14 d15 : va_E} {ou : Nat → Nat} {rest : List va_E} (x : Int32) (hx : en n t x) (hd : dn = 0) : xh_R g l m_L_recover hh_L_recover [.ref 0, .int x, .ref 32] (hC g n t co se ke dn f1 f2 e1 e2 op x1 x2 fa we sh ms ps md tk bl pr ch sm ++ hQ d0 d1 d2 d3 d4 d5 d6 d7 d8 d9 d10 d11 d12 d13 d14 d15 (xj g 1 ou :: rest)) (some (.int (nI 2))) (hC g n t co se ke dn f1 f2 e1 e2 op x1 x2 fa we sh ms ps md tk bl pr ch sm ++ hQ d0 d1 d2 d3 d4 d5 d6 d7 d8 d9 d10 d11 d12 d13 d14 d15 (xj g 1 ou :: rest)) := by
  refine xh_of [some (.ref 0), some (.int x), some (.ref 32), none] rfl (Nat.le_of_ble_eq_true rfl) rfl ?_
  intro p e s m args below meth c C hr hk htab hnc
  refine xa_aload_n C dL_recover_0 rfl ?_
  refine xa_icN C 0 dL_recover_1 ?_
  refine xa_aload_n C dL_recover_2 rfl ?_
  refine xa_iload_n C dL_recover_3 rfl ?_
  exact xa_catchBn C hr hk (q_S_recover_b g htr x hx hd) b_L_39 (xw_in wi_S_recover rfl) e_S_recover dL_recover_4 rfl rfl rfl rfl (Nat.le_of_ble_eq_true rfl) ⟨Nat.le_of_ble_eq_true rfl, Nat.le_of_ble_eq_true rfl⟩ ⟨Nat.le_of_ble_eq_true rfl, Nat.le_of_ble_eq_true rfl⟩ htab (by decide) (by decide) (by decide) (by decide) (xw_in wl_L_13 rfl) (xw_in wl_L_15 rfl) hnc (v := 2) (by decide) dL_recover_14 dL_recover_15 dL_recover_16
