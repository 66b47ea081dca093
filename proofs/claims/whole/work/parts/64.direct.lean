/-! the calls that never throw, both sides -/
set_option maxHeartbeats 400000 in
set_option maxRecDepth 100000 in
theorem J_deal (g : xw_G) {l : Launch} {n t : Nat} (hn : n ≤ 6) (ht : t ≤ 6) (z : Sg) (h : Iv n t z) (w : Int64) : ∃ (hp1 : List va_E) (z2 : Sg) (a : Int64), xm_R g l false m_S_deal [.ref 0, .long w] (hT g n t z) (some (.long a)) hp1 ∧ xm_R g l false m_M_deal [.ref 16, .long w] hp1 (some (.long a)) (hT g n t z2) ∧ Iv n t z2 ∧ (∃ fs, hp1[16]? = some (.inr (4, fs))) := by
  obtain ⟨co, se, ke, f1, f2, e1, e2, x1, x2, fa, we, sh, y1, y2, to, ou, oz, sz, mz, dn, op, ms, ps, md, tk, bl, th, pr, ch, sm, al, mi⟩ := z
  obtain ⟨hco, hse, hke, hf1, hf2, he1, he2, hx1, hx2, hwe, hsh, hy1, hy2, hto, hfa, hpr, hch, hsm, hal, I3, I4, I5, I6, I7⟩ := h
  refine ⟨((hC g n t (fun j => if j < t then cd_ w j else co j) (fun j => if j < (n + 1) then sd_ w t j else se j) (fun j => if j < (n + 1) then kd_ w t j else ke j) (nI 1) f1 f2 e1 e2 0 x1 x2 fa we sh 0 0 0 0 0 1 ch 0) ++ ((hM g th n t dn se ke oz f1 f2 e1 e2 ms al ch y1 y2 fa we sz mz sh to tk bl mi) ++ [xj g 1 ou])), ((fun j => if j < t then cd_ w j else co j), (fun j => if j < (n + 1) then sd_ w t j else se j), (fun j => if j < (n + 1) then kd_ w t j else ke j), f1, f2, e1, e2, x1, x2, fa, we, sh, y1, y2, to, ou, (fun j => if j < (n + 1) then nI 0 else oz j), sz, mz, (nI 1), 0, 0, 0, 0, 0, 0, (nI 0), 1, ch, 0, al, (mo_ w t mi (n + 1))), (lN ((fun j => if j < (n + 1) then kd_ w t j else ke j) 0)), xm_cast e_T rfl (p_S_deal g l hn ht hco w), xm_cast e_M (e_T.trans e_M) (p_M_deal g l hn ht w), ⟨vi_lt hco (fun j => Nat.lt_trans (dg_f_lt _) (by decide)), vi_lt hse (fun j => tb_q _), vi_lt hke (fun j => tb_p _), hf1, hf2, he1, he2, hx1, hx2, hwe, hsh, hy1, hy2, hto, hfa, (by decide), hch, (by decide), hal, fun j j1 j2 => ⟨fun q => (by rw [hs_0] at q; cases q), fun q => absurd (show (if j < n + 1 then nI 0 else oz j) = 0 from if_pos (by omega)) q⟩, fun j j1 j2 jm => (by rw [hs_0] at jm; cases jm), fun j j1 j2 jp => (by rw [hs_0] at jp; cases jp), fun q => absurd rfl q, (ts_0 to n).symm⟩, ⟨_, rfl⟩⟩

set_option maxHeartbeats 400000 in
set_option maxRecDepth 100000 in
theorem J_check (g : xw_G) {l : Launch} {n t : Nat} (hn : n ≤ 6) (ht : t ≤ 6) (z : Sg) (h : Iv n t z) (w r y : Int64) : ∃ (hp1 : List va_E) (z2 : Sg) (a : Int32), xm_R g l true m_S_check [.ref 0, .long w, .long r, .long y] (hT g n t z) (some (.int a)) hp1 ∧ xm_R g l false m_M_check [.ref 16, .long w, .long r, .long y] hp1 (some (.int a)) (hT g n t z2) ∧ Iv n t z2 ∧ (∃ fs, hp1[16]? = some (.inr (4, fs))) := by
  obtain ⟨co, se, ke, f1, f2, e1, e2, x1, x2, fa, we, sh, y1, y2, to, ou, oz, sz, mz, dn, op, ms, ps, md, tk, bl, th, pr, ch, sm, al, mi⟩ := z
  obtain ⟨hco, hse, hke, hf1, hf2, he1, he2, hx1, hx2, hwe, hsh, hy1, hy2, hto, hfa, hpr, hch, hsm, hal, I3, I4, I5, I6, I7⟩ := h
  by_cases hv : dn = 0 ∨ ¬ (1 ≤ r ∧ r < 2147483579) ∨ ¬ (0 ≤ y ∧ y < 1073741789)
  · have ee0 : xb (¬ dn = 0 ∧ SHp (ke 0) w r y) = 0 := xb_f (fun q => by
      rcases hv with v | v | v
      · exact q.1 v
      · exact v q.2.1
      · exact v q.2.2.1)
    refine ⟨((hC g n t co se ke dn f1 f2 e1 e2 op x1 x2 fa we sh ms ps md tk bl pr ch sm) ++ ((hM g th n t dn se ke oz f1 f2 e1 e2 ms al ch y1 y2 fa we sz mz sh to tk bl mi) ++ [xj g 1 ou])), (co, se, ke, f1, f2, e1, e2, x1, x2, fa, we, sh, y1, y2, to, ou, oz, sz, mz, dn, op, ms, ps, md, tk, bl, (nI 0), pr, ch, sm, al, mi), 0, xm_cast e_T rfl (xm_val (congrArg (fun q => some (Value.int q)) ee0) (p_S_check g l hn ht hke w r y)), xm_cast e_M (e_T.trans e_M) (p_M_check_n g l w r y hv), ⟨hco, hse, hke, hf1, hf2, he1, he2, hx1, hx2, hwe, hsh, hy1, hy2, hto, hfa, hpr, hch, hsm, hal, I3, I4, I5, I6, I7⟩, ⟨_, rfl⟩⟩
  · have hd : ¬ dn = 0 := fun q => hv (Or.inl q)
    have hr1 : 1 ≤ r ∧ r < 2147483579 := Decidable.byContradiction (fun q => hv (Or.inr (Or.inl q)))
    have hy9 : 0 ≤ y ∧ y < 1073741789 := Decidable.byContradiction (fun q => hv (Or.inr (Or.inr q)))
    obtain ⟨a, ha1, ha, rfl⟩ := el_of hr1
    obtain ⟨b, hb, rfl⟩ := nm_of hy9
    have ee1 : xb (¬ dn = 0 ∧ SHp (ke 0) w (lN a) (lN b)) = xb (SHp (ke 0) w (lN a) (lN b)) := xb_iff ⟨fun q => q.2, fun q => ⟨hd, q⟩⟩
    refine ⟨((hC g n t co se ke dn f1 f2 e1 e2 op x1 x2 fa we sh ms ps md tk bl pr ch sm) ++ ((hM g th n t dn se ke oz f1 f2 e1 e2 ms al ch y1 y2 fa we sz mz sh to tk bl mi) ++ [xj g 1 ou])), (co, se, ke, f1, f2, e1, e2, x1, x2, fa, we, sh, y1, y2, to, ou, oz, sz, mz, dn, op, ms, ps, md, tk, bl, (nI 0), pr, ch, sm, al, (dg_m (dg_m (dg_m (dg_m 0 5) (lN a)) (lN (ke 0))) w)), (xb (SHp (ke 0) w (lN a) (lN b))), xm_cast e_T rfl (xm_val (congrArg (fun q => some (Value.int q)) ee1) (p_S_check g l hn ht hke w (lN a) (lN b))), xm_cast e_M (e_T.trans e_M) (p_M_check_y g l hke hd w ha1 ha hb), ⟨hco, hse, hke, hf1, hf2, he1, he2, hx1, hx2, hwe, hsh, hy1, hy2, hto, hfa, hpr, hch, hsm, hal, I3, I4, I5, I6, I7⟩, ⟨_, rfl⟩⟩

set_option maxHeartbeats 400000 in
set_option maxRecDepth 100000 in
theorem J_key (g : xw_G) {l : Launch} {n t : Nat} (hn : n ≤ 6) (ht : t ≤ 6) (z : Sg) (h : Iv n t z) (x : Int32) : ∃ (hp1 : List va_E) (z2 : Sg) (a : Int64), xm_R g l true m_S_key [.ref 0, .int x] (hT g n t z) (some (.long a)) hp1 ∧ xm_R g l false m_M_key [.ref 16, .int x] hp1 (some (.long a)) (hT g n t z2) ∧ Iv n t z2 ∧ (∃ fs, hp1[16]? = some (.inr (4, fs))) := by
  obtain ⟨co, se, ke, f1, f2, e1, e2, x1, x2, fa, we, sh, y1, y2, to, ou, oz, sz, mz, dn, op, ms, ps, md, tk, bl, th, pr, ch, sm, al, mi⟩ := z
  obtain ⟨hco, hse, hke, hf1, hf2, he1, he2, hx1, hx2, hwe, hsh, hy1, hy2, hto, hfa, hpr, hch, hsm, hal, I3, I4, I5, I6, I7⟩ := h
  by_cases hd : dn = 0
  · refine ⟨((hC g n t co se ke dn f1 f2 e1 e2 op x1 x2 fa we sh ms ps md tk bl pr ch sm) ++ ((hM g th n t dn se ke oz f1 f2 e1 e2 ms al ch y1 y2 fa we sz mz sh to tk bl mi) ++ [xj g 1 ou])), (co, se, ke, f1, f2, e1, e2, x1, x2, fa, we, sh, y1, y2, to, ou, oz, sz, mz, dn, op, ms, ps, md, tk, bl, (nI 0), pr, ch, sm, al, mi), (-1), xm_cast e_T rfl (p_S_key_a g l x hd), xm_cast e_M (e_T.trans e_M) (p_M_key_a g l x hd), ⟨hco, hse, hke, hf1, hf2, he1, he2, hx1, hx2, hwe, hsh, hy1, hy2, hto, hfa, hpr, hch, hsm, hal, I3, I4, I5, I6, I7⟩, ⟨_, rfl⟩⟩
  · by_cases hx : sg n x
    · obtain ⟨i, h1, hi, rfl⟩ := sg_of hn hx
      refine ⟨((hC g n t co se ke dn f1 f2 e1 e2 op x1 x2 fa we sh ms ps md tk bl pr ch sm) ++ ((hM g th n t dn se ke oz f1 f2 e1 e2 ms al ch y1 y2 fa we sz mz sh to tk bl mi) ++ [xj g 1 ou])), (co, se, ke, f1, f2, e1, e2, x1, x2, fa, we, sh, y1, y2, to, ou, oz, sz, mz, dn, op, ms, ps, md, tk, bl, (nI 0), pr, ch, sm, al, mi), (lN (ke i)), xm_cast e_T rfl (p_S_key_c g l hn h1 hi hd), xm_cast e_M (e_T.trans e_M) (p_M_key_c g l hn h1 hi hd), ⟨hco, hse, hke, hf1, hf2, he1, he2, hx1, hx2, hwe, hsh, hy1, hy2, hto, hfa, hpr, hch, hsm, hal, I3, I4, I5, I6, I7⟩, ⟨_, rfl⟩⟩
    · by_cases hx0 : x = 0
      · obtain rfl : x = nI 0 := hx0
        refine ⟨((hC g n t co se ke dn f1 f2 e1 e2 op x1 x2 fa we sh ms ps md tk bl pr ch sm) ++ ((hM g th n t dn se ke oz f1 f2 e1 e2 ms al ch y1 y2 fa we sz mz sh to tk bl mi) ++ [xj g 1 ou])), (co, se, ke, f1, f2, e1, e2, x1, x2, fa, we, sh, y1, y2, to, ou, oz, sz, mz, dn, op, ms, ps, md, tk, bl, (nI 0), pr, ch, sm, al, mi), (lN (ke 0)), xm_cast e_T rfl (p_S_key_b g l hn hd), xm_cast e_M (e_T.trans e_M) (p_M_key_b g l hd), ⟨hco, hse, hke, hf1, hf2, he1, he2, hx1, hx2, hwe, hsh, hy1, hy2, hto, hfa, hpr, hch, hsm, hal, I3, I4, I5, I6, I7⟩, ⟨_, rfl⟩⟩
      · refine ⟨((hC g n t co se ke dn f1 f2 e1 e2 op x1 x2 fa we sh ms ps md tk bl pr ch sm) ++ ((hM g th n t dn se ke oz f1 f2 e1 e2 ms al ch y1 y2 fa we sz mz sh to tk bl mi) ++ [xj g 1 ou])), (co, se, ke, f1, f2, e1, e2, x1, x2, fa, we, sh, y1, y2, to, ou, oz, sz, mz, dn, op, ms, ps, md, tk, bl, (nI 0), pr, ch, sm, al, mi), (-1), xm_cast e_T rfl (p_S_key_d g l x hx hx0 hd), xm_cast e_M (e_T.trans e_M) (p_M_key_d g l x hx hx0 hd), ⟨hco, hse, hke, hf1, hf2, he1, he2, hx1, hx2, hwe, hsh, hy1, hy2, hto, hfa, hpr, hch, hsm, hal, I3, I4, I5, I6, I7⟩, ⟨_, rfl⟩⟩

set_option maxHeartbeats 400000 in
set_option maxRecDepth 100000 in
theorem J_secret (g : xw_G) {l : Launch} {n t : Nat} (hn : n ≤ 6) (ht : t ≤ 6) (z : Sg) (h : Iv n t z) (x : Int32) : ∃ (hp1 : List va_E) (z2 : Sg) (a : Int64), xm_R g l true m_S_secret [.ref 0, .int x] (hT g n t z) (some (.long a)) hp1 ∧ xm_R g l false m_M_secret [.ref 16, .int x] hp1 (some (.long a)) (hT g n t z2) ∧ Iv n t z2 ∧ (∃ fs, hp1[16]? = some (.inr (4, fs))) := by
  obtain ⟨co, se, ke, f1, f2, e1, e2, x1, x2, fa, we, sh, y1, y2, to, ou, oz, sz, mz, dn, op, ms, ps, md, tk, bl, th, pr, ch, sm, al, mi⟩ := z
  obtain ⟨hco, hse, hke, hf1, hf2, he1, he2, hx1, hx2, hwe, hsh, hy1, hy2, hto, hfa, hpr, hch, hsm, hal, I3, I4, I5, I6, I7⟩ := h
  by_cases hd : dn = 0
  · refine ⟨((hC g n t co se ke dn f1 f2 e1 e2 op x1 x2 fa we sh ms ps md tk bl pr ch sm) ++ ((hM g th n t dn se ke oz f1 f2 e1 e2 ms al ch y1 y2 fa we sz mz sh to tk bl mi) ++ [xj g 1 ou])), (co, se, ke, f1, f2, e1, e2, x1, x2, fa, we, sh, y1, y2, to, ou, oz, sz, mz, dn, op, ms, ps, md, tk, bl, (nI 0), pr, ch, sm, al, mi), (-1), xm_cast e_T rfl (p_S_secret_a g l x hd), xm_cast e_M (e_T.trans e_M) (p_M_secret_a g l x hd), ⟨hco, hse, hke, hf1, hf2, he1, he2, hx1, hx2, hwe, hsh, hy1, hy2, hto, hfa, hpr, hch, hsm, hal, I3, I4, I5, I6, I7⟩, ⟨_, rfl⟩⟩
  · by_cases hx : sg n x
    · obtain ⟨i, h1, hi, rfl⟩ := sg_of hn hx
      refine ⟨((hC g n t co se ke dn f1 f2 e1 e2 op x1 x2 fa we sh ms ps md tk bl pr ch sm) ++ ((hM g th n t dn se ke oz f1 f2 e1 e2 ms al ch y1 y2 fa we sz mz sh to tk bl mi) ++ [xj g 1 ou])), (co, se, ke, f1, f2, e1, e2, x1, x2, fa, we, sh, y1, y2, to, ou, oz, sz, mz, dn, op, ms, ps, md, tk, bl, (nI 0), pr, ch, sm, al, mi), (lN (se i)), xm_cast e_T rfl (p_S_secret_b g l hn h1 hi hd), xm_cast e_M (e_T.trans e_M) (p_M_secret_b g l hn h1 hi hd), ⟨hco, hse, hke, hf1, hf2, he1, he2, hx1, hx2, hwe, hsh, hy1, hy2, hto, hfa, hpr, hch, hsm, hal, I3, I4, I5, I6, I7⟩, ⟨_, rfl⟩⟩
    · refine ⟨((hC g n t co se ke dn f1 f2 e1 e2 op x1 x2 fa we sh ms ps md tk bl pr ch sm) ++ ((hM g th n t dn se ke oz f1 f2 e1 e2 ms al ch y1 y2 fa we sz mz sh to tk bl mi) ++ [xj g 1 ou])), (co, se, ke, f1, f2, e1, e2, x1, x2, fa, we, sh, y1, y2, to, ou, oz, sz, mz, dn, op, ms, ps, md, tk, bl, (nI 0), pr, ch, sm, al, mi), (-1), xm_cast e_T rfl (p_S_secret_c g l x hx hd), xm_cast e_M (e_T.trans e_M) (p_M_secret_c g l x hx hd), ⟨hco, hse, hke, hf1, hf2, he1, he2, hx1, hx2, hwe, hsh, hy1, hy2, hto, hfa, hpr, hch, hsm, hal, I3, I4, I5, I6, I7⟩, ⟨_, rfl⟩⟩

set_option maxHeartbeats 400000 in
set_option maxRecDepth 100000 in
theorem J_commitment (g : xw_G) {l : Launch} {n t : Nat} (hn : n ≤ 6) (ht : t ≤ 6) (z : Sg) (h : Iv n t z) (x y : Int32) : ∃ (hp1 : List va_E) (z2 : Sg) (a : Int64), xm_R g l true m_S_commitment [.ref 0, .int x, .int y] (hT g n t z) (some (.long a)) hp1 ∧ xm_R g l false m_M_commitment [.ref 16, .int x, .int y] hp1 (some (.long a)) (hT g n t z2) ∧ Iv n t z2 ∧ (∃ fs, hp1[16]? = some (.inr (4, fs))) := by
  obtain ⟨co, se, ke, f1, f2, e1, e2, x1, x2, fa, we, sh, y1, y2, to, ou, oz, sz, mz, dn, op, ms, ps, md, tk, bl, th, pr, ch, sm, al, mi⟩ := z
  obtain ⟨hco, hse, hke, hf1, hf2, he1, he2, hx1, hx2, hwe, hsh, hy1, hy2, hto, hfa, hpr, hch, hsm, hal, I3, I4, I5, I6, I7⟩ := h
  by_cases hx : sg n x
  · obtain ⟨i, h1, hi, rfl⟩ := sg_of hn hx
    cases ho : hs op i with
    | false =>
      have hz : oz i = 0 := Decidable.byContradiction (fun q => by rw [(I3 i h1 hi).mpr q] at ho; cases ho)
      refine ⟨((hC g n t co se ke dn f1 f2 e1 e2 op x1 x2 fa we sh ms ps md tk bl pr ch sm) ++ ((hM g th n t dn se ke oz f1 f2 e1 e2 ms al ch y1 y2 fa we sz mz sh to tk bl mi) ++ [xj g 1 ou])), (co, se, ke, f1, f2, e1, e2, x1, x2, fa, we, sh, y1, y2, to, ou, oz, sz, mz, dn, op, ms, ps, md, tk, bl, (nI 0), pr, ch, sm, al, mi), (-1), xm_cast e_T rfl (p_S_commitment_b g l hn h1 hi y ho), xm_cast e_M (e_T.trans e_M) (p_M_commitment_b g l hn h1 hi y hz), ⟨hco, hse, hke, hf1, hf2, he1, he2, hx1, hx2, hwe, hsh, hy1, hy2, hto, hfa, hpr, hch, hsm, hal, I3, I4, I5, I6, I7⟩, ⟨_, rfl⟩⟩
    | true =>
      have hz : ¬ oz i = 0 := (I3 i h1 hi).mp ho
      by_cases hy : y = 0
      · refine ⟨((hC g n t co se ke dn f1 f2 e1 e2 op x1 x2 fa we sh ms ps md tk bl pr ch sm) ++ ((hM g th n t dn se ke oz f1 f2 e1 e2 ms al ch y1 y2 fa we sz mz sh to tk bl mi) ++ [xj g 1 ou])), (co, se, ke, f1, f2, e1, e2, x1, x2, fa, we, sh, y1, y2, to, ou, oz, sz, mz, dn, op, ms, ps, md, tk, bl, (nI 0), pr, ch, sm, al, mi), (lN (e1 i)), xm_cast e_T rfl (p_S_commitment_d g l hn h1 hi y ho hy), xm_cast e_M (e_T.trans e_M) (p_M_commitment_d g l hn h1 hi y hz hy), ⟨hco, hse, hke, hf1, hf2, he1, he2, hx1, hx2, hwe, hsh, hy1, hy2, hto, hfa, hpr, hch, hsm, hal, I3, I4, I5, I6, I7⟩, ⟨_, rfl⟩⟩
      · refine ⟨((hC g n t co se ke dn f1 f2 e1 e2 op x1 x2 fa we sh ms ps md tk bl pr ch sm) ++ ((hM g th n t dn se ke oz f1 f2 e1 e2 ms al ch y1 y2 fa we sz mz sh to tk bl mi) ++ [xj g 1 ou])), (co, se, ke, f1, f2, e1, e2, x1, x2, fa, we, sh, y1, y2, to, ou, oz, sz, mz, dn, op, ms, ps, md, tk, bl, (nI 0), pr, ch, sm, al, mi), (lN (e2 i)), xm_cast e_T rfl (p_S_commitment_c g l hn h1 hi y ho hy), xm_cast e_M (e_T.trans e_M) (p_M_commitment_c g l hn h1 hi y hz hy), ⟨hco, hse, hke, hf1, hf2, he1, he2, hx1, hx2, hwe, hsh, hy1, hy2, hto, hfa, hpr, hch, hsm, hal, I3, I4, I5, I6, I7⟩, ⟨_, rfl⟩⟩
  · refine ⟨((hC g n t co se ke dn f1 f2 e1 e2 op x1 x2 fa we sh ms ps md tk bl pr ch sm) ++ ((hM g th n t dn se ke oz f1 f2 e1 e2 ms al ch y1 y2 fa we sz mz sh to tk bl mi) ++ [xj g 1 ou])), (co, se, ke, f1, f2, e1, e2, x1, x2, fa, we, sh, y1, y2, to, ou, oz, sz, mz, dn, op, ms, ps, md, tk, bl, (nI 0), pr, ch, sm, al, mi), (-1), xm_cast e_T rfl (p_S_commitment_a g l x y hx), xm_cast e_M (e_T.trans e_M) (p_M_commitment_a g l x y hx), ⟨hco, hse, hke, hf1, hf2, he1, he2, hx1, hx2, hwe, hsh, hy1, hy2, hto, hfa, hpr, hch, hsm, hal, I3, I4, I5, I6, I7⟩, ⟨_, rfl⟩⟩

set_option maxHeartbeats 400000 in
set_option maxRecDepth 100000 in
theorem J_factor (g : xw_G) {l : Launch} {n t : Nat} (hn : n ≤ 6) (ht : t ≤ 6) (z : Sg) (h : Iv n t z) (x : Int32) : ∃ (hp1 : List va_E) (z2 : Sg) (a : Int64), xm_R g l true m_S_factor [.ref 0, .int x] (hT g n t z) (some (.long a)) hp1 ∧ xm_R g l false m_M_factor [.ref 16, .int x] hp1 (some (.long a)) (hT g n t z2) ∧ Iv n t z2 ∧ (∃ fs, hp1[16]? = some (.inr (4, fs))) := by
  obtain ⟨co, se, ke, f1, f2, e1, e2, x1, x2, fa, we, sh, y1, y2, to, ou, oz, sz, mz, dn, op, ms, ps, md, tk, bl, th, pr, ch, sm, al, mi⟩ := z
  obtain ⟨hco, hse, hke, hf1, hf2, he1, he2, hx1, hx2, hwe, hsh, hy1, hy2, hto, hfa, hpr, hch, hsm, hal, I3, I4, I5, I6, I7⟩ := h
  by_cases hx : sg n x
  · obtain ⟨i, h1, hi, rfl⟩ := sg_of hn hx
    cases hm : hs ms i with
    | false =>
      refine ⟨((hC g n t co se ke dn f1 f2 e1 e2 op x1 x2 fa we sh ms ps md tk bl pr ch sm) ++ ((hM g th n t dn se ke oz f1 f2 e1 e2 ms al ch y1 y2 fa we sz mz sh to tk bl mi) ++ [xj g 1 ou])), (co, se, ke, f1, f2, e1, e2, x1, x2, fa, we, sh, y1, y2, to, ou, oz, sz, mz, dn, op, ms, ps, md, tk, bl, (nI 0), pr, ch, sm, al, mi), (-1), xm_cast e_T rfl (p_S_factor_b g l hn h1 hi hm), xm_cast e_M (e_T.trans e_M) (p_M_factor_b g l hn h1 hi hm), ⟨hco, hse, hke, hf1, hf2, he1, he2, hx1, hx2, hwe, hsh, hy1, hy2, hto, hfa, hpr, hch, hsm, hal, I3, I4, I5, I6, I7⟩, ⟨_, rfl⟩⟩
    | true =>
      refine ⟨((hC g n t co se ke dn f1 f2 e1 e2 op x1 x2 fa we sh ms ps md tk bl pr ch sm) ++ ((hM g th n t dn se ke oz f1 f2 e1 e2 ms al ch y1 y2 fa we sz mz sh to tk bl mi) ++ [xj g 1 ou])), (co, se, ke, f1, f2, e1, e2, x1, x2, fa, we, sh, y1, y2, to, ou, oz, sz, mz, dn, op, ms, ps, md, tk, bl, (nI 0), pr, ch, sm, al, mi), (lN (fa i)), xm_cast e_T rfl (p_S_factor_c g l hn h1 hi hm), xm_cast e_M (e_T.trans e_M) (p_M_factor_c g l hn h1 hi hm), ⟨hco, hse, hke, hf1, hf2, he1, he2, hx1, hx2, hwe, hsh, hy1, hy2, hto, hfa, hpr, hch, hsm, hal, I3, I4, I5, I6, I7⟩, ⟨_, rfl⟩⟩
  · refine ⟨((hC g n t co se ke dn f1 f2 e1 e2 op x1 x2 fa we sh ms ps md tk bl pr ch sm) ++ ((hM g th n t dn se ke oz f1 f2 e1 e2 ms al ch y1 y2 fa we sz mz sh to tk bl mi) ++ [xj g 1 ou])), (co, se, ke, f1, f2, e1, e2, x1, x2, fa, we, sh, y1, y2, to, ou, oz, sz, mz, dn, op, ms, ps, md, tk, bl, (nI 0), pr, ch, sm, al, mi), (-1), xm_cast e_T rfl (p_S_factor_a g l x hx), xm_cast e_M (e_T.trans e_M) (p_M_factor_a g l x hx), ⟨hco, hse, hke, hf1, hf2, he1, he2, hx1, hx2, hwe, hsh, hy1, hy2, hto, hfa, hpr, hch, hsm, hal, I3, I4, I5, I6, I7⟩, ⟨_, rfl⟩⟩

set_option maxHeartbeats 400000 in
set_option maxRecDepth 100000 in
theorem J_weight (g : xw_G) {l : Launch} {n t : Nat} (hn : n ≤ 6) (ht : t ≤ 6) (z : Sg) (h : Iv n t z) (x : Int32) : ∃ (hp1 : List va_E) (z2 : Sg) (a : Int64), xm_R g l true m_S_weight [.ref 0, .int x] (hT g n t z) (some (.long a)) hp1 ∧ xm_R g l false m_M_weight [.ref 16, .int x] hp1 (some (.long a)) (hT g n t z2) ∧ Iv n t z2 ∧ (∃ fs, hp1[16]? = some (.inr (4, fs))) := by
  obtain ⟨co, se, ke, f1, f2, e1, e2, x1, x2, fa, we, sh, y1, y2, to, ou, oz, sz, mz, dn, op, ms, ps, md, tk, bl, th, pr, ch, sm, al, mi⟩ := z
  obtain ⟨hco, hse, hke, hf1, hf2, he1, he2, hx1, hx2, hwe, hsh, hy1, hy2, hto, hfa, hpr, hch, hsm, hal, I3, I4, I5, I6, I7⟩ := h
  by_cases hx : sg n x
  · obtain ⟨i, h1, hi, rfl⟩ := sg_of hn hx
    cases hm : hs ms i with
    | false =>
      refine ⟨((hC g n t co se ke dn f1 f2 e1 e2 op x1 x2 fa we sh ms ps md tk bl pr ch sm) ++ ((hM g th n t dn se ke oz f1 f2 e1 e2 ms al ch y1 y2 fa we sz mz sh to tk bl mi) ++ [xj g 1 ou])), (co, se, ke, f1, f2, e1, e2, x1, x2, fa, we, sh, y1, y2, to, ou, oz, sz, mz, dn, op, ms, ps, md, tk, bl, (nI 0), pr, ch, sm, al, mi), (-1), xm_cast e_T rfl (p_S_weight_b g l hn h1 hi hm), xm_cast e_M (e_T.trans e_M) (p_M_weight_b g l hn h1 hi hm), ⟨hco, hse, hke, hf1, hf2, he1, he2, hx1, hx2, hwe, hsh, hy1, hy2, hto, hfa, hpr, hch, hsm, hal, I3, I4, I5, I6, I7⟩, ⟨_, rfl⟩⟩
    | true =>
      refine ⟨((hC g n t co se ke dn f1 f2 e1 e2 op x1 x2 fa we sh ms ps md tk bl pr ch sm) ++ ((hM g th n t dn se ke oz f1 f2 e1 e2 ms al ch y1 y2 fa we sz mz sh to tk bl mi) ++ [xj g 1 ou])), (co, se, ke, f1, f2, e1, e2, x1, x2, fa, we, sh, y1, y2, to, ou, oz, sz, mz, dn, op, ms, ps, md, tk, bl, (nI 0), pr, ch, sm, al, mi), (lN (we i)), xm_cast e_T rfl (p_S_weight_c g l hn h1 hi hm), xm_cast e_M (e_T.trans e_M) (p_M_weight_c g l hn h1 hi hm), ⟨hco, hse, hke, hf1, hf2, he1, he2, hx1, hx2, hwe, hsh, hy1, hy2, hto, hfa, hpr, hch, hsm, hal, I3, I4, I5, I6, I7⟩, ⟨_, rfl⟩⟩
  · refine ⟨((hC g n t co se ke dn f1 f2 e1 e2 op x1 x2 fa we sh ms ps md tk bl pr ch sm) ++ ((hM g th n t dn se ke oz f1 f2 e1 e2 ms al ch y1 y2 fa we sz mz sh to tk bl mi) ++ [xj g 1 ou])), (co, se, ke, f1, f2, e1, e2, x1, x2, fa, we, sh, y1, y2, to, ou, oz, sz, mz, dn, op, ms, ps, md, tk, bl, (nI 0), pr, ch, sm, al, mi), (-1), xm_cast e_T rfl (p_S_weight_a g l x hx), xm_cast e_M (e_T.trans e_M) (p_M_weight_a g l x hx), ⟨hco, hse, hke, hf1, hf2, he1, he2, hx1, hx2, hwe, hsh, hy1, hy2, hto, hfa, hpr, hch, hsm, hal, I3, I4, I5, I6, I7⟩, ⟨_, rfl⟩⟩

set_option maxHeartbeats 400000 in
set_option maxRecDepth 100000 in
theorem J_challenge (g : xw_G) {l : Launch} {n t : Nat} (hn : n ≤ 6) (ht : t ≤ 6) (z : Sg) (h : Iv n t z)  : ∃ (hp1 : List va_E) (z2 : Sg) (a : Int64), xm_R g l true m_S_challenge [.ref 0] (hT g n t z) (some (.long a)) hp1 ∧ xm_R g l false m_M_challenge [.ref 16] hp1 (some (.long a)) (hT g n t z2) ∧ Iv n t z2 ∧ (∃ fs, hp1[16]? = some (.inr (4, fs))) := by
  obtain ⟨co, se, ke, f1, f2, e1, e2, x1, x2, fa, we, sh, y1, y2, to, ou, oz, sz, mz, dn, op, ms, ps, md, tk, bl, th, pr, ch, sm, al, mi⟩ := z
  obtain ⟨hco, hse, hke, hf1, hf2, he1, he2, hx1, hx2, hwe, hsh, hy1, hy2, hto, hfa, hpr, hch, hsm, hal, I3, I4, I5, I6, I7⟩ := h
  by_cases hm : ms = 0
  · refine ⟨((hC g n t co se ke dn f1 f2 e1 e2 op x1 x2 fa we sh ms ps md tk bl pr ch sm) ++ ((hM g th n t dn se ke oz f1 f2 e1 e2 ms al ch y1 y2 fa we sz mz sh to tk bl mi) ++ [xj g 1 ou])), (co, se, ke, f1, f2, e1, e2, x1, x2, fa, we, sh, y1, y2, to, ou, oz, sz, mz, dn, op, ms, ps, md, tk, bl, (nI 0), pr, ch, sm, al, mi), (-1), xm_cast e_T rfl (p_S_challenge_a g l hm), xm_cast e_M (e_T.trans e_M) (p_M_challenge_a g l hm), ⟨hco, hse, hke, hf1, hf2, he1, he2, hx1, hx2, hwe, hsh, hy1, hy2, hto, hfa, hpr, hch, hsm, hal, I3, I4, I5, I6, I7⟩, ⟨_, rfl⟩⟩
  · refine ⟨((hC g n t co se ke dn f1 f2 e1 e2 op x1 x2 fa we sh ms ps md tk bl pr ch sm) ++ ((hM g th n t dn se ke oz f1 f2 e1 e2 ms al ch y1 y2 fa we sz mz sh to tk bl mi) ++ [xj g 1 ou])), (co, se, ke, f1, f2, e1, e2, x1, x2, fa, we, sh, y1, y2, to, ou, oz, sz, mz, dn, op, ms, ps, md, tk, bl, (nI 0), pr, ch, sm, al, mi), (lN ch), xm_cast e_T rfl (p_S_challenge_b g l hm), xm_cast e_M (e_T.trans e_M) (p_M_challenge_b g l hm), ⟨hco, hse, hke, hf1, hf2, he1, he2, hx1, hx2, hwe, hsh, hy1, hy2, hto, hfa, hpr, hch, hsm, hal, I3, I4, I5, I6, I7⟩, ⟨_, rfl⟩⟩

set_option maxHeartbeats 400000 in
set_option maxRecDepth 100000 in
theorem J_members (g : xw_G) {l : Launch} {n t : Nat} (hn : n ≤ 6) (ht : t ≤ 6) (z : Sg) (h : Iv n t z)  : ∃ (hp1 : List va_E) (z2 : Sg) (a : Int32), xm_R g l true m_S_members [.ref 0] (hT g n t z) (some (.int a)) hp1 ∧ xm_R g l false m_M_members [.ref 16] hp1 (some (.int a)) (hT g n t z2) ∧ Iv n t z2 ∧ (∃ fs, hp1[16]? = some (.inr (4, fs))) := by
  obtain ⟨co, se, ke, f1, f2, e1, e2, x1, x2, fa, we, sh, y1, y2, to, ou, oz, sz, mz, dn, op, ms, ps, md, tk, bl, th, pr, ch, sm, al, mi⟩ := z
  obtain ⟨hco, hse, hke, hf1, hf2, he1, he2, hx1, hx2, hwe, hsh, hy1, hy2, hto, hfa, hpr, hch, hsm, hal, I3, I4, I5, I6, I7⟩ := h
  refine ⟨((hC g n t co se ke dn f1 f2 e1 e2 op x1 x2 fa we sh ms ps md tk bl pr ch sm) ++ ((hM g th n t dn se ke oz f1 f2 e1 e2 ms al ch y1 y2 fa we sz mz sh to tk bl mi) ++ [xj g 1 ou])), (co, se, ke, f1, f2, e1, e2, x1, x2, fa, we, sh, y1, y2, to, ou, oz, sz, mz, dn, op, ms, ps, md, tk, bl, (nI 0), pr, ch, sm, al, mi), ms, xm_cast e_T rfl (p_S_members g l), xm_cast e_M (e_T.trans e_M) (p_M_members g l), ⟨hco, hse, hke, hf1, hf2, he1, he2, hx1, hx2, hwe, hsh, hy1, hy2, hto, hfa, hpr, hch, hsm, hal, I3, I4, I5, I6, I7⟩, ⟨_, rfl⟩⟩

set_option maxHeartbeats 400000 in
set_option maxRecDepth 100000 in
theorem J_taken (g : xw_G) {l : Launch} {n t : Nat} (hn : n ≤ 6) (ht : t ≤ 6) (z : Sg) (h : Iv n t z)  : ∃ (hp1 : List va_E) (z2 : Sg) (a : Int32), xm_R g l true m_S_taken [.ref 0] (hT g n t z) (some (.int a)) hp1 ∧ xm_R g l false m_M_taken [.ref 16] hp1 (some (.int a)) (hT g n t z2) ∧ Iv n t z2 ∧ (∃ fs, hp1[16]? = some (.inr (4, fs))) := by
  obtain ⟨co, se, ke, f1, f2, e1, e2, x1, x2, fa, we, sh, y1, y2, to, ou, oz, sz, mz, dn, op, ms, ps, md, tk, bl, th, pr, ch, sm, al, mi⟩ := z
  obtain ⟨hco, hse, hke, hf1, hf2, he1, he2, hx1, hx2, hwe, hsh, hy1, hy2, hto, hfa, hpr, hch, hsm, hal, I3, I4, I5, I6, I7⟩ := h
  refine ⟨((hC g n t co se ke dn f1 f2 e1 e2 op x1 x2 fa we sh ms ps md tk bl pr ch sm) ++ ((hM g th n t dn se ke oz f1 f2 e1 e2 ms al ch y1 y2 fa we sz mz sh to tk bl mi) ++ [xj g 1 ou])), (co, se, ke, f1, f2, e1, e2, x1, x2, fa, we, sh, y1, y2, to, ou, oz, sz, mz, dn, op, ms, ps, md, tk, bl, (nI 0), pr, ch, sm, al, mi), tk, xm_cast e_T rfl (p_S_taken g l), xm_cast e_M (e_T.trans e_M) (p_M_taken g l), ⟨hco, hse, hke, hf1, hf2, he1, he2, hx1, hx2, hwe, hsh, hy1, hy2, hto, hfa, hpr, hch, hsm, hal, I3, I4, I5, I6, I7⟩, ⟨_, rfl⟩⟩

set_option maxHeartbeats 400000 in
set_option maxRecDepth 100000 in
theorem J_blamed (g : xw_G) {l : Launch} {n t : Nat} (hn : n ≤ 6) (ht : t ≤ 6) (z : Sg) (h : Iv n t z)  : ∃ (hp1 : List va_E) (z2 : Sg) (a : Int32), xm_R g l true m_S_blamed [.ref 0] (hT g n t z) (some (.int a)) hp1 ∧ xm_R g l false m_M_blamed [.ref 16] hp1 (some (.int a)) (hT g n t z2) ∧ Iv n t z2 ∧ (∃ fs, hp1[16]? = some (.inr (4, fs))) := by
  obtain ⟨co, se, ke, f1, f2, e1, e2, x1, x2, fa, we, sh, y1, y2, to, ou, oz, sz, mz, dn, op, ms, ps, md, tk, bl, th, pr, ch, sm, al, mi⟩ := z
  obtain ⟨hco, hse, hke, hf1, hf2, he1, he2, hx1, hx2, hwe, hsh, hy1, hy2, hto, hfa, hpr, hch, hsm, hal, I3, I4, I5, I6, I7⟩ := h
  refine ⟨((hC g n t co se ke dn f1 f2 e1 e2 op x1 x2 fa we sh ms ps md tk bl pr ch sm) ++ ((hM g th n t dn se ke oz f1 f2 e1 e2 ms al ch y1 y2 fa we sz mz sh to tk bl mi) ++ [xj g 1 ou])), (co, se, ke, f1, f2, e1, e2, x1, x2, fa, we, sh, y1, y2, to, ou, oz, sz, mz, dn, op, ms, ps, md, tk, bl, (nI 0), pr, ch, sm, al, mi), bl, xm_cast e_T rfl (p_S_blamed g l), xm_cast e_M (e_T.trans e_M) (p_M_blamed g l), ⟨hco, hse, hke, hf1, hf2, he1, he2, hx1, hx2, hwe, hsh, hy1, hy2, hto, hfa, hpr, hch, hsm, hal, I3, I4, I5, I6, I7⟩, ⟨_, rfl⟩⟩

set_option maxHeartbeats 400000 in
set_option maxRecDepth 100000 in
theorem J_thrown (g : xw_G) {l : Launch} {n t : Nat} (z : Sg) : xm_R g l true m_M_thrown [.ref 16] (hT g n t z) (some (.int (s_th z))) (hT g n t z) := by
  obtain ⟨co, se, ke, f1, f2, e1, e2, x1, x2, fa, we, sh, y1, y2, to, ou, oz, sz, mz, dn, op, ms, ps, md, tk, bl, th, pr, ch, sm, al, mi⟩ := z
  exact xm_cast (e_T.trans e_M) (e_T.trans e_M) (p_M_thrown g l)
theorem T0 (g : xw_G) (n t : Nat) (z : Sg) : ∃ fs, (hT g n t z)[0]? = some (.inr (0, fs)) := by
  obtain ⟨co, se, ke, f1, f2, e1, e2, x1, x2, fa, we, sh, y1, y2, to, ou, oz, sz, mz, dn, op, ms, ps, md, tk, bl, th, pr, ch, sm, al, mi⟩ := z
  exact ⟨_, rfl⟩
theorem T16 (g : xw_G) (n t : Nat) (z : Sg) : ∃ fs, (hT g n t z)[16]? = some (.inr (4, fs)) := by
  obtain ⟨co, se, ke, f1, f2, e1, e2, x1, x2, fa, we, sh, y1, y2, to, ou, oz, sz, mz, dn, op, ms, ps, md, tk, bl, th, pr, ch, sm, al, mi⟩ := z
  exact ⟨_, rfl⟩
theorem T32 (g : xw_G) (n t : Nat) (z : Sg) : (hT g n t z)[32]? = some (xj g 1 (s_ou z)) := by
  obtain ⟨co, se, ke, f1, f2, e1, e2, x1, x2, fa, we, sh, y1, y2, to, ou, oz, sz, mz, dn, op, ms, ps, md, tk, bl, th, pr, ch, sm, al, mi⟩ := z
  rfl
