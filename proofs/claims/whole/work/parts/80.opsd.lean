/-! ONE CALL on both sides: what is told is noted -/
theorem zRw_cp {fc fc' : Nat → Int32} {zo zo' N : Int} {G : Int → Int → Int} {S T : Int} (q_o : 0 ≤ zo) (q_o' : 0 ≤ zo') (q_N : N ≤ 16) (q : zRw fc zo N G S T) (q1 : ∀ j : Int, 0 ≤ j → j < 98 → fc' (zo' + j).toNat = fc (zo + j).toNat) : zRw fc' zo' N G S T := by
  refine ⟨fun w p y1 y2 y3 y4 => ?_, ?_, ?_⟩
  · rw [show zo' + 16 * w + p = zo' + (16 * w + p) by omega, q1 _ (by omega) (by omega), show zo + (16 * w + p) = zo + 16 * w + p by omega]; exact q.1 w p y1 y2 y3 y4
  · rw [q1 _ (by omega) (by omega)]; exact q.2.1
  · rw [q1 _ (by omega) (by omega)]; exact q.2.2
theorem zRw_n {fo fc : Nat → Int32} {N : Int} {G : Int → Int → Int} {S T : Int} (q : zNm fo fc N G S T) : zRw fc 0 N G S T := by
  refine ⟨fun w p y1 y2 y3 y4 => ?_, q.2.2.1, q.2.2.2⟩
  rw [show 0 + 16 * w + p = 16 * w + p by omega]; exact q.2.1 w p y1 y2 y3 y4
theorem zRw_m {fo fc : Nat → Int32} {N : Int} {G : Int → Int → Int} {S T : Int} (q : zMm fo fc N G S T) : zRw fc 0 N G S T := by
  refine ⟨fun w p y1 y2 y3 y4 => ?_, q.2.2.1, q.2.2.2⟩
  rw [show 0 + 16 * w + p = 16 * w + p by omega]; exact q.2.1 w p y1 y2 y3 y4
theorem zNm_w {fo fc : Nat → Int32} {N : Int} {G : Int → Int → Int} {S T : Int} (q0 : fo 1 = iN N) (q : zRw fc 0 N G S T) : zNm fo fc N G S T := by
  refine ⟨q0, fun w p y1 y2 y3 y4 => ?_, q.2.1, q.2.2⟩
  rw [show 16 * w + p = 0 + 16 * w + p by omega]; exact q.1 w p y1 y2 y3 y4
theorem zMm_w {fo fc : Nat → Int32} {N : Int} {G : Int → Int → Int} {S T : Int} (q0 : fo 0 = iN N) (q : zRw fc 0 N G S T) : zMm fo fc N G S T := by
  refine ⟨q0, fun w p y1 y2 y3 y4 => ?_, q.2.1, q.2.2⟩
  rw [show 16 * w + p = 0 + 16 * w + p by omega]; exact q.1 w p y1 y2 y3 y4
/-- a history one longer -/
def zHn {α : Type} (H : Int → α) (zu : Int) (x : α) : Int → α := fun k => if zu = 12 then (if k = 12 then x else H (k + 1)) else if k = zu + 1 then x else H k
theorem zHn_u {α : Type} (H : Int → α) {zu : Int} (x : α) : zHn H zu x (if zu = 12 then 12 else zu + 1) = x := by
  unfold zHn
  by_cases y : zu = 12
  · rw [if_pos y, if_pos y, if_pos rfl]
  · rw [if_neg y, if_neg y, if_pos rfl]
theorem zHn_12 {α : Type} (H : Int → α) {zu k : Int} (x : α) (y : zu = 12) (q : ¬ k = 12) : zHn H zu x k = H (k + 1) := by
  unfold zHn
  rw [if_pos y, if_neg q]
theorem zHn_o {α : Type} (H : Int → α) {zu k : Int} (x : α) (y : ¬ zu = 12) (q : ¬ k = zu + 1) : zHn H zu x k = H k := by
  unfold zHn
  rw [if_neg y, if_neg q]
/-- the numbers told anew -/
abbrev zTl (P : zSta) (G : Int → Int → Int) (S T L : Int) : zSta := zSt8 P.xN (G) (S) (T) P.xB (if P.xU = 12 then 12 else P.xU + 1) (if P.xU = 12 then 12 else P.xU + 1) (zHn P.xGH P.xU G) (zHn P.xSH P.xU S) (zHn P.xTH P.xU T) (L) P.xF P.xZ P.xY P.xM P.xIG P.xIS P.xIT P.xIB
theorem zTl_pu {P : zSta} {G : Int → Int → Int} {S T L : Int} (q : zPu P) (q_g : zGk P.xN G S T) (q_L : L = P.xL ∨ L = 0) : zPu (zTl P G S T L) := by
  obtain ⟨p_g, p_k, p_u, p_h, ⟨p_l, p_c⟩, p_z, p_m⟩ := q
  refine ⟨q_g, p_k, ?_, ⟨fun k y1 y2 => ?_, zHn_u _ _, zHn_u _ _, zHn_u _ _⟩, ⟨?_, fun k y1 y2 => p_c k y1 (by have : k < L := y2; omega)⟩, p_z, p_m⟩
  · show 0 ≤ (if P.xU = 12 then 12 else P.xU + 1) ∧ (if P.xU = 12 then 12 else P.xU + 1) ≤ (if P.xU = 12 then 12 else P.xU + 1) ∧ (if P.xU = 12 then 12 else P.xU + 1) ≤ (12 : Int)
    split <;> omega
  · have y2 : k ≤ (if P.xU = 12 then 12 else P.xU + 1) := y2
    show zGk P.xN (zHn P.xGH P.xU G k) (zHn P.xSH P.xU S k) (zHn P.xTH P.xU T k)
    by_cases y3 : k = (if P.xU = 12 then 12 else P.xU + 1)
    · rw [y3, zHn_u, zHn_u, zHn_u]; exact q_g
    · by_cases y4 : P.xU = 12
      · rw [if_pos y4] at y2 y3
        rw [zHn_12 _ _ y4 y3, zHn_12 _ _ y4 y3, zHn_12 _ _ y4 y3]; exact p_h.1 (k + 1) (by omega) (by omega)
      · rw [if_neg y4] at y2 y3
        rw [zHn_o _ _ y4 y3, zHn_o _ _ y4 y3, zHn_o _ _ y4 y3]; exact p_h.1 k (by omega) (by omega)
  · show 0 ≤ L ∧ L ≤ 120
    omega
theorem zJc_n {P : zSta} {h h' : am_H} {G : Int → Int → Int} {S T L : Int} (q_P : zPu P) (q_nm : zNm (h.1 1) (h.1 2) P.xN P.xG P.xS P.xT) (q : zJc (h.1 25) (h.1 26) P) (q_n : zNtd h P.xU h') : zJc (h'.1 25) (h'.1 26) (zTl P G S T L) := by
  obtain ⟨p_g, p_k, p_u, p_h, ⟨p_l, p_c⟩, p_z, p_m⟩ := q_P
  obtain ⟨n1, n2, n3⟩ := q_n
  have q_N := p_g.1
  refine ⟨n2, n3, fun k y1 y2 y3 => ?_⟩
  have y2 : k ≤ (if P.xU = 12 then 12 else P.xU + 1) := y2
  have y3 : ¬ k = (if P.xU = 12 then 12 else P.xU + 1) := fun z => y3 ⟨z, rfl⟩
  show zRw (h'.1 26) (98 * k) P.xN (zHn P.xGH P.xU G k) (zHn P.xSH P.xU S k) (zHn P.xTH P.xU T k)
  rw [n1]
  by_cases y4 : P.xU = 12
  · rw [if_pos y4] at y2 y3 ⊢
    rw [if_pos y4, zHn_12 _ _ y4 y3, zHn_12 _ _ y4 y3, zHn_12 _ _ y4 y3]
    by_cases y5 : k = 11
    · rw [y5, show (11 : Int) + 1 = P.xU by omega, p_h.2.1, p_h.2.2.1, p_h.2.2.2]
      refine zRw_cp (zo := 0) (by omega) (by omega) q_N.2 (zRw_n q_nm) (fun j z1 z2 => ?_)
      rw [zCq_i _ _ (by omega)]
      exact congrArg (h.1 2) (by omega)
    · refine zRw_cp (zo := 98 * (k + 1)) (by omega) (by omega) q_N.2 (q.2.2 (k + 1) (by omega) (by omega) (by omega)) (fun j z1 z2 => ?_)
      rw [zCq_o _ _ (by omega), zCq_i _ _ (by omega)]
      exact congrArg (h.1 26) (by omega)
  · rw [if_neg y4] at y2 y3 ⊢
    rw [if_neg y4, zHn_o _ _ y4 y3, zHn_o _ _ y4 y3, zHn_o _ _ y4 y3]
    by_cases y5 : k = P.xU
    · rw [y5, p_h.2.1, p_h.2.2.1, p_h.2.2.2]
      refine zRw_cp (zo := 0) (by omega) (by omega) q_N.2 (zRw_n q_nm) (fun j z1 z2 => ?_)
      rw [zCq_i _ _ (by omega)]
      exact congrArg (h.1 2) (by omega)
    · refine zRw_cp (zo := 98 * k) (by omega) (by omega) q_N.2 (q.2.2 k (by omega) (by omega) (by omega)) (fun j z1 z2 => ?_)
      rw [zCq_o _ _ (by omega)]
theorem zIR_n {P : zSta} {h zk1 h' : am_H} {G : Int → Int → Int} {S T : Int} {L : Int} {ks : List Nat} (q_P : zPu P) (q : zIR P h) (q_f : am_fr ks h zk1) (q_k : ∀ c, c ∈ ks → c ∈ [55, 56]) (q_s5 : ∀ zs : Nat, zs = 36 → zk1.1 55 zs = h.1 55 zs) (q_L : zk1.1 55 7 = iN L) (q_LL : L = P.xL ∨ L = 0) (q_nm : zMm (zk1.1 55) (zk1.1 56) P.xN G S T) (q_n : zChg zk1 P.xU h') : zIR (zTl P G S T L) h' ∧ zKR h h' := by
  obtain ⟨p_g, p_k, p_u, p_h, ⟨p_l, p_c⟩, p_z, p_m⟩ := q_P
  obtain ⟨q_nm0, q_hd, ⟨q_u, q_v, q_c⟩, q_t, q_s, q_m, q_i⟩ := q
  obtain ⟨fo, e, n1, n2, n3⟩ := q_n
  have q_N := p_g.1
  have e5 : h'.1 55 = fo := by rw [← e, am_row_s]
  have e8 : h'.1 58 = zCq (if P.xU = 12 then zCq (zk1.1 58) (zk1.1 58) 0 98 1176 else zk1.1 58) (zk1.1 56) (98 * (if P.xU = 12 then 12 else P.xU + 1) : Int).toNat 0 98 := by rw [← e, am_row_n _ _ _ (by decide), am_row_s]
  have f0 : ∀ c : Nat, c ≠ 55 → c ≠ 58 → h'.1 c = zk1.1 c := fun c y1 y2 => by rw [← e, am_row_n _ _ _ y1, am_row_n _ _ _ y2]
  have f2 : h'.2 = h.2 := by rw [← e]; exact q_f.1
  have f1 : ∀ c : Nat, c ≠ 55 → c ≠ 56 → c ≠ 58 → h'.1 c = h.1 c := fun c y1 y2 y3 => by
    rw [f0 c y1 y3]
    refine q_f.2 c (fun z => ?_)
    have z1 := q_k c z
    simp only [List.mem_cons, List.not_mem_nil, or_false] at z1
    omega
  have f8 : zk1.1 58 = h.1 58 := q_f.2 58 (fun z => absurd (q_k 58 z) (by decide))
  refine ⟨⟨?_, ?_, ⟨?_, ?_, fun k y1 y2 => ?_⟩, ?_, ?_, ?_⟩, ⟨fun c y => f1 c (fun z => y (by rw [z]; decide)) (fun z => y (by rw [z]; decide)) (fun z => y (by rw [z]; decide)), fun c _ => by rw [f2]⟩⟩
  · exact zMm_g q_nm (by rw [e5]; exact n1 0 (by decide) (by decide)) (f0 56 (by decide) (by decide))
  · rw [f1 57 (by decide) (by decide) (by decide)]; exact q_hd
  · rw [e5]; exact n2
  · rw [e5]; exact n3
  · have y2 : k ≤ (if P.xU = 12 then 12 else P.xU + 1) := y2
    show zRw (h'.1 58) (98 * k) P.xN (zHn P.xGH P.xU G k) (zHn P.xSH P.xU S k) (zHn P.xTH P.xU T k)
    rw [e8, f8]
    by_cases y3 : k = (if P.xU = 12 then 12 else P.xU + 1)
    · rw [y3, zHn_u, zHn_u, zHn_u]
      have y6 : 0 ≤ (if P.xU = 12 then 12 else P.xU + 1) := by split <;> omega
      refine zRw_cp (zo := 0) (by omega) (by omega) q_N.2 (zRw_m q_nm) (fun j z1 z2 => ?_)
      rw [zCq_i _ _ (by omega)]
      exact congrArg (zk1.1 56) (by omega)
    · by_cases y4 : P.xU = 12
      · rw [if_pos y4] at y2 y3 ⊢
        rw [if_pos y4, zHn_12 _ _ y4 y3, zHn_12 _ _ y4 y3, zHn_12 _ _ y4 y3]
        refine zRw_cp (zo := 98 * (k + 1)) (by omega) (by omega) q_N.2 (q_c (k + 1) (by omega) (by omega)) (fun j z1 z2 => ?_)
        rw [zCq_o _ _ (by omega), zCq_i _ _ (by omega)]
        exact congrArg (h.1 58) (by omega)
      · rw [if_neg y4] at y2 y3 ⊢
        rw [if_neg y4, zHn_o _ _ y4 y3, zHn_o _ _ y4 y3, zHn_o _ _ y4 y3]
        refine zRw_cp (zo := 98 * k) (by omega) (by omega) q_N.2 (q_c k (by omega) (by omega)) (fun j z1 z2 => ?_)
        rw [zCq_o _ _ (by omega)]
  · refine ⟨?_, fun k y1 y2 => ?_⟩
    · rw [e5, n1 7 (by decide) (by decide)]; exact q_L
    · rw [f1 59 (by decide) (by decide) (by decide)]; exact q_t.2 k y1 (by have : k < L := y2; omega)
  · rw [f1 74 (by decide) (by decide) (by decide), f2]; exact q_s
  · rw [f1 76 (by decide) (by decide) (by decide), f1 77 (by decide) (by decide) (by decide), e5, n1 36 (by decide) (by decide), q_s5 36 rfl]; exact ⟨q_m, q_i⟩
theorem zJk_n {ks : List Nat} {n : Nat} {h h' : am_H} {N N' : Int} {G G' : Int → Int → Int} {S S' T T' zs zk zb zt zj zx : Int} (q : zJb n h N G S T zs zk zb zt zj) (qf : am_fr ks h h') (q1 : ∀ c, c ∈ [3, 8, 18, 34, 36, 41] → c ∉ ks) (q2 : h'.1 1 2 = iN zx) (q3 : zs < zx ∧ zx ≤ zs + 5000) : zJk (n + 1) h' N' G' S' T' := by
  obtain ⟨⟨a1, a2, a3, a4, a5⟩, b1, b2, b3, b4, ⟨c1, c2⟩, e1, e2⟩ := q
  refine ⟨zx, zk, zb, zt, zj, ⟨q2, ?_, ?_, ?_, ?_⟩, by omega, by omega, by omega, by omega, ⟨?_, ?_⟩, fun y => by omega, fun y => by omega⟩
  · rw [qf.2 3 (q1 _ (by decide))]; exact a2
  · rw [qf.2 18 (q1 _ (by decide))]; exact a3
  · rw [qf.2 34 (q1 _ (by decide))]; exact a4
  · rw [qf.2 36 (q1 _ (by decide))]; exact a5
  · rw [qf.2 8 (q1 _ (by decide))]; exact c1
  · rw [qf.2 41 (q1 _ (by decide))]; exact c2
theorem zIL_n {n : Nat} {P : zSta} {h h' : am_H} {G : Int → Int → Int} {S T : Int} (q_P : zPu P) (q : zIL n P h) (qf : am_fr [1, 2, 25, 26] h h') (q_n : zNtd h P.xU h') (q_nm' : zNm (h'.1 1) (h'.1 2) P.xN G S T) (q_k : zJk (n + 1) h' P.xN G S T) : zIL (n + 1) (zTl P G S T P.xL) h' ∧ zKL h h' := by
  obtain ⟨q_nm, q_hd, q_c, q_t, q_s, q_i, _⟩ := q
  refine ⟨⟨?_, ?_, ?_, ?_, ?_, ?_, q_k⟩, zKL_f qf (by decide)⟩
  · exact q_nm'
  · rw [qf.2 24 (by decide)]; exact q_hd
  · exact zJc_n q_P q_nm q_c q_n
  · rw [qf.2 27 (by decide), qf.2 28 (by decide)]; exact q_t
  · rw [qf.2 33 (by decide), qf.1]; exact q_s
  · rw [qf.2 0 (by decide), qf.2 51 (by decide), qf.2 52 (by decide), qf.2 54 (by decide)]; exact q_i
set_option maxRecDepth 20000 in
set_option maxHeartbeats 4000000 in
theorem jo_tell (zd : Nat) (q_d : 8 ≤ zd) {n : Nat} {P : zSta} {zp zw zv : Int} (q_n : n ≤ 600) (q_P : zPu P) (q_zpr : -2147483648 ≤ zp ∧ zp < 2147483648) (q_zwr : -2147483648 ≤ zw ∧ zw < 2147483648) (q_zvr : -2147483648 ≤ zv ∧ zv < 2147483648) : zBoth zd am_m_Lp_tell am_m_Model_tell [(1, .int (iN zp)), (2, .int (iN zw)), (3, .int (iN zv))] n P := by
  have q_P0 := q_P
  obtain ⟨p_g, p_k, p_u, p_h, ⟨p_l, p_c⟩, p_z, p_m⟩ := q_P
  by_cases y : (0 ≤ zp ∧ zp < P.xN ∧ 0 ≤ zw ∧ zw < 6 ∧ 0 ≤ zv ∧ zv ≤ vmax zw)
  · refine ⟨(iN (P.xG zw zp)), zTl P (zG1 P.xG zw zp zv) P.xS P.xT P.xL, zTl_pu q_P0 (zGk_up p_g y.2.2.2.2) (Or.inl rfl), fun h q_h => ?_, fun h q_h => ?_⟩
    · have q_h0 := q_h
      obtain ⟨q_nm, q_hd, q_c, q_t, q_s, q_i, q_k⟩ := q_h
      obtain ⟨zs0, zk, zb, zt, zj, q_b⟩ := q_k
      have q_b0 := q_b
      obtain ⟨⟨a1, a2, a3, a4, a5⟩, b1, b2, b3, b4, ⟨c1, c2⟩, e1, e2⟩ := q_b
      refine wp_con (jL_tell zd (by omega) q_nm p_g q_c.1 (by omega) a1 q_zpr q_zwr q_zvr) (fun rv h' z => ⟨(z.1 y).1, ?_⟩)
      obtain ⟨_, qf, q_n, q_nm1, zx, f1, f2⟩ := z.1 y
      exact zIL_n q_P0 q_h0 qf q_n q_nm1 (zJk_n q_b0 qf (by decide) f1 (by omega))
    · have q_h0 := q_h
      obtain ⟨q_nm, q_hd, ⟨q_u, q_v, q_c⟩, q_t, q_s, q_m, q_i⟩ := q_h
      refine wp_con (jR_tell zd (by omega) q_nm p_g q_u (by omega) q_zpr q_zwr q_zvr) (fun rv h' z => ⟨(z.1 y).1, ?_⟩)
      obtain ⟨_, zk1, f1, f2, f3⟩ := z.1 y
      exact zIR_n q_P0 q_h0 f1 (by decide) (fun zs z => by rw [f1.2 55 (by decide)]) (by rw [f1.2 55 (by decide)]; exact q_t.1) (Or.inl rfl) f2 f3
  · refine ⟨(iN (-1)), P, q_P0, fun h q_h => ?_, fun h q_h => ?_⟩
    · have q_h0 := q_h
      obtain ⟨q_nm, q_hd, q_c, q_t, q_s, q_i, q_k⟩ := q_h
      obtain ⟨zs0, zk, zb, zt, zj, q_b⟩ := q_k
      obtain ⟨⟨a1, a2, a3, a4, a5⟩, b1, b2, b3, b4, ⟨c1, c2⟩, e1, e2⟩ := q_b
      exact wp_con (jL_tell zd (by omega) q_nm p_g q_c.1 (by omega) a1 q_zpr q_zwr q_zvr) (fun rv h' z => ⟨(z.2 y).1, zIL_0 q_h0 (z.2 y).2⟩)
    · have q_h0 := q_h
      obtain ⟨q_nm, q_hd, ⟨q_u, q_v, q_c⟩, q_t, q_s, q_m, q_i⟩ := q_h
      exact wp_con (jR_tell zd (by omega) q_nm p_g q_u (by omega) q_zpr q_zwr q_zvr) (fun rv h' z => ⟨(z.2 y).1, zIR_0 q_h0 (z.2 y).2⟩)
set_option maxRecDepth 20000 in
set_option maxHeartbeats 4000000 in
theorem jo_tellAll (zd : Nat) (q_d : 8 ≤ zd) {n : Nat} {P : zSta} {za zb zw zv : Int} (q_n : n ≤ 600) (q_P : zPu P) (q_zar : -2147483648 ≤ za ∧ za < 2147483648) (q_zbr : -2147483648 ≤ zb ∧ zb < 2147483648) (q_zwr : -2147483648 ≤ zw ∧ zw < 2147483648) (q_zvr : -2147483648 ≤ zv ∧ zv < 2147483648) : zBoth zd am_m_Lp_tellAll am_m_Model_tellAll [(1, .int (iN za)), (2, .int (iN zb)), (3, .int (iN zw)), (4, .int (iN zv))] n P := by
  have q_P0 := q_P
  obtain ⟨p_g, p_k, p_u, p_h, ⟨p_l, p_c⟩, p_z, p_m⟩ := q_P
  by_cases y : (0 ≤ za ∧ za < P.xN ∧ 0 ≤ zb ∧ zb < P.xN ∧ za ≤ zb ∧ 0 ≤ zw ∧ zw < 6 ∧ 0 ≤ zv ∧ zv ≤ vmax zw)
  · refine ⟨(iN (zb - za + 1)), zTl P (zTa P.xG zw za zb zv) P.xS P.xT P.xL, zTl_pu q_P0 (zTa_gk p_g y.2.2.2.2.2.2.2) (Or.inl rfl), fun h q_h => ?_, fun h q_h => ?_⟩
    · have q_h0 := q_h
      obtain ⟨q_nm, q_hd, q_c, q_t, q_s, q_i, q_k⟩ := q_h
      obtain ⟨zs0, zk, zb0, zt, zj, q_b⟩ := q_k
      have q_b0 := q_b
      obtain ⟨⟨a1, a2, a3, a4, a5⟩, b1, b2, b3, b4, ⟨c1, c2⟩, e1, e2⟩ := q_b
      refine wp_con (jL_tellAll zd (by omega) q_nm p_g q_c.1 (by omega) a1 q_zar q_zbr q_zwr q_zvr) (fun rv h' z => ⟨(z.1 y).1, ?_⟩)
      obtain ⟨_, qf, q_n, q_nm1, zx, f1, f2⟩ := z.1 y
      exact zIL_n q_P0 q_h0 qf q_n q_nm1 (zJk_n q_b0 qf (by decide) f1 (by omega))
    · have q_h0 := q_h
      obtain ⟨q_nm, q_hd, ⟨q_u, q_v, q_c⟩, q_t, q_s, q_m, q_i⟩ := q_h
      refine wp_con (jR_tellAll zd (by omega) q_nm p_g q_u (by omega) q_zar q_zbr q_zwr q_zvr) (fun rv h' z => ⟨(z.1 y).1, ?_⟩)
      obtain ⟨_, zk1, f1, f2, f3⟩ := z.1 y
      exact zIR_n q_P0 q_h0 f1 (by decide) (fun zs z => by rw [f1.2 55 (by decide)]) (by rw [f1.2 55 (by decide)]; exact q_t.1) (Or.inl rfl) f2 f3
  · refine ⟨(iN (-1)), P, q_P0, fun h q_h => ?_, fun h q_h => ?_⟩
    · have q_h0 := q_h
      obtain ⟨q_nm, q_hd, q_c, q_t, q_s, q_i, q_k⟩ := q_h
      obtain ⟨zs0, zk, zb0, zt, zj, q_b⟩ := q_k
      obtain ⟨⟨a1, a2, a3, a4, a5⟩, b1, b2, b3, b4, ⟨c1, c2⟩, e1, e2⟩ := q_b
      exact wp_con (jL_tellAll zd (by omega) q_nm p_g q_c.1 (by omega) a1 q_zar q_zbr q_zwr q_zvr) (fun rv h' z => ⟨(z.2 y).1, zIL_0 q_h0 (z.2 y).2⟩)
    · have q_h0 := q_h
      obtain ⟨q_nm, q_hd, ⟨q_u, q_v, q_c⟩, q_t, q_s, q_m, q_i⟩ := q_h
      exact wp_con (jR_tellAll zd (by omega) q_nm p_g q_u (by omega) q_zar q_zbr q_zwr q_zvr) (fun rv h' z => ⟨(z.2 y).1, zIR_0 q_h0 (z.2 y).2⟩)
theorem zLt_gk {N : Int} {G : Int → Int → Int} {S T zw zv : Int} (q : zGk N G S T) (y : 0 ≤ zw ∧ zw ≤ 1 ∧ 0 ≤ zv ∧ zv ≤ (if zw = 0 then 999 else 1)) : zGk N G (if zw = 0 then zv else S) (if zw = 0 then T else zv) := by
  obtain ⟨q1, q2, q3, q4⟩ := q
  by_cases z : zw = 0
  · rw [if_pos z] at y
    rw [if_pos z, if_pos z]
    exact ⟨q1, q2, ⟨y.2.2.1, y.2.2.2⟩, q4⟩
  · rw [if_neg z] at y
    rw [if_neg z, if_neg z]
    exact ⟨q1, q2, q3, by omega⟩
set_option maxRecDepth 20000 in
set_option maxHeartbeats 4000000 in
theorem jo_let (zd : Nat) (q_d : 8 ≤ zd) {n : Nat} {P : zSta} {zw zv : Int} (q_n : n ≤ 600) (q_P : zPu P) (q_zwr : -2147483648 ≤ zw ∧ zw < 2147483648) (q_zvr : -2147483648 ≤ zv ∧ zv < 2147483648) : zBoth zd am_m_Lp_let am_m_Model_let [(1, .int (iN zw)), (2, .int (iN zv))] n P := by
  have q_P0 := q_P
  obtain ⟨p_g, p_k, p_u, p_h, ⟨p_l, p_c⟩, p_z, p_m⟩ := q_P
  by_cases y : (0 ≤ zw ∧ zw ≤ 1 ∧ 0 ≤ zv ∧ zv ≤ (if zw = 0 then 999 else 1))
  · refine ⟨(iN (if zw = 0 then P.xS else P.xT)), zTl P P.xG (if zw = 0 then zv else P.xS) (if zw = 0 then P.xT else zv) P.xL, zTl_pu q_P0 (zLt_gk p_g y) (Or.inl rfl), fun h q_h => ?_, fun h q_h => ?_⟩
    · have q_h0 := q_h
      obtain ⟨q_nm, q_hd, q_c, q_t, q_s, q_i, q_k⟩ := q_h
      obtain ⟨zs0, zk, zb, zt, zj, q_b⟩ := q_k
      have q_b0 := q_b
      obtain ⟨⟨a1, a2, a3, a4, a5⟩, b1, b2, b3, b4, ⟨c1, c2⟩, e1, e2⟩ := q_b
      refine wp_con (jL_let zd (by omega) q_nm p_g q_c.1 (by omega) a1 q_zwr q_zvr) (fun rv h' z => ⟨(z.1 y).1, ?_⟩)
      obtain ⟨_, qf, q_n, q_nm1, zx, f1, f2⟩ := z.1 y
      exact zIL_n q_P0 q_h0 qf q_n q_nm1 (zJk_n q_b0 qf (by decide) f1 (by omega))
    · have q_h0 := q_h
      obtain ⟨q_nm, q_hd, ⟨q_u, q_v, q_c⟩, q_t, q_s, q_m, q_i⟩ := q_h
      refine wp_con (jR_let zd (by omega) q_nm p_g q_u (by omega) q_zwr q_zvr) (fun rv h' z => ⟨(z.1 y).1, ?_⟩)
      obtain ⟨_, zk1, f1, f2, f3⟩ := z.1 y
      exact zIR_n q_P0 q_h0 f1 (by decide) (fun zs z => by rw [f1.2 55 (by decide)]) (by rw [f1.2 55 (by decide)]; exact q_t.1) (Or.inl rfl) f2 f3
  · refine ⟨(iN (-1)), P, q_P0, fun h q_h => ?_, fun h q_h => ?_⟩
    · have q_h0 := q_h
      obtain ⟨q_nm, q_hd, q_c, q_t, q_s, q_i, q_k⟩ := q_h
      obtain ⟨zs0, zk, zb, zt, zj, q_b⟩ := q_k
      obtain ⟨⟨a1, a2, a3, a4, a5⟩, b1, b2, b3, b4, ⟨c1, c2⟩, e1, e2⟩ := q_b
      exact wp_con (jL_let zd (by omega) q_nm p_g q_c.1 (by omega) a1 q_zwr q_zvr) (fun rv h' z => ⟨(z.2 y).1, zIL_0 q_h0 (z.2 y).2⟩)
    · have q_h0 := q_h
      obtain ⟨q_nm, q_hd, ⟨q_u, q_v, q_c⟩, q_t, q_s, q_m, q_i⟩ := q_h
      exact wp_con (jR_let zd (by omega) q_nm p_g q_u (by omega) q_zwr q_zvr) (fun rv h' z => ⟨(z.2 y).1, zIR_0 q_h0 (z.2 y).2⟩)
