/-! TEXTS THAT ARE READ: the class tells them -/
theorem zNm_eq {fo fc : Nat → Int32} {N : Int} {G G' : Int → Int → Int} {S T : Int} (q : zNm fo fc N G S T) (q1 : ∀ w p : Int, 0 ≤ w → w < 6 → 0 ≤ p → p < N → G w p = G' w p) : zNm fo fc N G' S T := ⟨q.1, fun w p y1 y2 y3 y4 => by rw [← q1 w p y1 y2 y3 y4]; exact q.2.1 w p y1 y2 y3 y4, q.2.2⟩
theorem zMm_eq {fo fc : Nat → Int32} {N : Int} {G G' : Int → Int → Int} {S T : Int} (q : zMm fo fc N G S T) (q1 : ∀ w p : Int, 0 ≤ w → w < 6 → 0 ≤ p → p < N → G w p = G' w p) : zMm fo fc N G' S T := ⟨q.1, fun w p y1 y2 y3 y4 => by rw [← q1 w p y1 y2 y3 y4]; exact q.2.1 w p y1 y2 y3 y4, q.2.2⟩
def zTg (G : Int → Int → Int) (N w p v : Int) : Int → Int → Int := fun w' p' => if w' = w ∧ ((p = -1 ∧ 0 ≤ p' ∧ p' < N) ∨ p' = p) then v else G w' p'
theorem zTg_gk {N : Int} {G : Int → Int → Int} {S T w p v : Int} (q : zGk N G S T) (q_v : 0 ≤ v ∧ v ≤ vmax w) : zGk N (zTg G N w p v) S T := by
  refine ⟨q.1, fun w' p' y1 y2 y3 y4 => ?_, q.2.2⟩
  unfold zTg
  split
  · rename_i y; rw [y.1]; exact q_v
  · exact q.2.1 w' p' y1 y2 y3 y4
/-- a text from i on: how many clauses behind c (below 0: the fault), the numbers then -/
noncomputable def zTf (F : Int → Int) (L N : Int) : Nat → Int → Int → (Int → Int → Int) → Int × (Int → Int → Int)
  | 0, i, _, G => (-100 - i, G)
  | k + 1, i, c, G => if (zCs F L N i).1 = 1 then (if (zCs F L N i).2.2.2.2 = L then (c + 1, zTg G N (zCs F L N i).2.1 (zCs F L N i).2.2.1 (zCs F L N i).2.2.2.1) else if zSg F L (zCs F L N i).2.2.2.2 = 59 then zTf F L N k ((zCs F L N i).2.2.2.2 + 1) (c + 1) (zTg G N (zCs F L N i).2.1 (zCs F L N i).2.2.1 (zCs F L N i).2.2.2.1) else (-100 - (zCs F L N i).2.2.2.2, G)) else (-100 - (zCs F L N i).2.2.2.2, G)
theorem zCs_rg {F : Int → Int} {L N i : Int} (q : 0 ≤ i ∧ i ≤ L) : ((zCs F L N i).1 = 0 ∨ (zCs F L N i).1 = 1) ∧ i ≤ (zCs F L N i).2.2.2.2 ∧ (zCs F L N i).2.2.2.2 ≤ L ∧ ((zCs F L N i).1 = 1 → i < (zCs F L N i).2.2.2.2 ∧ 0 ≤ (zCs F L N i).2.1 ∧ (zCs F L N i).2.1 ≤ 5 ∧ -1 ≤ (zCs F L N i).2.2.1 ∧ ((zCs F L N i).2.2.1 < N ∨ (zCs F L N i).2.2.1 = -1) ∧ 0 ≤ (zCs F L N i).2.2.2.1 ∧ (zCs F L N i).2.2.2.1 ≤ vmax (zCs F L N i).2.1) := by
  have y1 := zWe_rg (F := F) (L := L) (i := i) q.2
  have y2 := zWw_rg F i (zWe F L i)
  unfold zCs
  by_cases z1 : zWw F i (zWe F L i) < 0
  · rw [if_pos z1]; dsimp only; omega
  · rw [if_neg z1]
    by_cases z2 : zSg F L (zWe F L i) = 32
    · have z3 : zWe F L i < L := by
        by_cases z4 : zWe F L i < L
        · exact z4
        · rw [zSg_n (by omega)] at z2; omega
      have y3 := zPd_rg (F := F) (L := L) (N := N) (i := zWe F L i + 1) (by omega)
      rw [if_pos z2]
      by_cases z5 : (zPd F L N (zWe F L i + 1)).1 = 1
      · rw [if_pos z5]
        by_cases z6 : zSg F L (zPd F L N (zWe F L i + 1)).2.2 = 32
        · have z7 : (zPd F L N (zWe F L i + 1)).2.2 < L := by
            by_cases z8 : (zPd F L N (zWe F L i + 1)).2.2 < L
            · exact z8
            · rw [zSg_n (by omega)] at z6; omega
          have y4 := zNu_rg (F := F) (L := L) (w := zWw F i (zWe F L i)) (i := (zPd F L N (zWe F L i + 1)).2.2 + 1) (by omega)
          rw [if_pos z6]
          by_cases z9 : (zNu F L (zWw F i (zWe F L i)) ((zPd F L N (zWe F L i + 1)).2.2 + 1)).1 = 1
          · rw [if_pos z9]; dsimp only; omega
          · rw [if_neg z9]; dsimp only; omega
        · rw [if_neg z6]; dsimp only; omega
      · rw [if_neg z5]; dsimp only; omega
    · rw [if_neg z2]; dsimp only; omega
set_option maxRecDepth 20000 in
set_option maxHeartbeats 4000000 in
theorem jl_tellc (zd : Nat) (q_d : 3 ≤ zd) {zh : am_H} {N : Int} {G : Int → Int → Int} {S T zw zv zs zf ze : Int} (q_3 : zh.1 27 3 = iN zw) (q_5 : zh.1 27 5 = iN zv) (q_w : 0 ≤ zw ∧ zw < 6) (q_v : 0 ≤ zv ∧ zv ≤ vmax zw) (q_e : 0 ≤ zf ∧ zf ≤ ze ∧ ze < N) (q_N : 1 ≤ N ∧ N ≤ 16) {zQ : Option Value → am_H → Prop} (zk : ∀ (zg : am_H) (zK : Int → Int → Int), am_fr [34, 35] zh zg → zNm (zg.1 34) (zg.1 35) N zK S T → zg.1 34 2 = iN (zs + (ze + 1 - zf)) → (∀ w p : Int, zK w p = if w = zw ∧ zf ≤ p ∧ p < ze + 1 then zv else G w p) → zQ none zg) : ∀ (z_n : Nat) (zg : am_H) (zp : Int) (zK : Int → Int → Int) (q_fr : am_fr [34, 35] zh zg) (q_nm1 : zNm (zg.1 34) (zg.1 35) N zK S T) (q_gk : zGk N zK S T) (q_st : zg.1 34 2 = iN (zs + (zp - zf))) (q_p : zf ≤ zp ∧ zp ≤ ze + 1) (q_G : ∀ w p : Int, zK w p = if w = zw ∧ zf ≤ p ∧ p < zp then zv else G w p), ze + 1 - zp < (z_n : Int) → am_wp zd am_m_Text_tellClause 42 [(0, .ref 27), (1, .ref 34), (2, .int (iN (zf))), (3, .int (iN (ze))), (4, .int (iN (zp)))] [] (78, 76) zg (78, 76) zQ := by
  obtain ⟨zd, rfl⟩ : ∃ y_e, zd = y_e + 3 := ⟨zd - 3, by omega⟩
  intro z_n
  induction z_n with
  | zero => intro zg zp zK q_fr q_nm1 q_gk q_st q_p q_G q_m; omega
  | succ z_n z_ih =>
    intro zg zp zK q_fr q_nm1 q_gk q_st q_p q_G q_m
    refine wp_run (k := 2) (pc1 := 45) (l1 := [(0, .ref 27), (1, .ref 34), (2, .int (iN (zf))), (3, .int (iN (ze))), (4, .int (iN (zp)))]) (st1 := [.int (iN (ze)), .int (iN (zp))]) (kr1 := (78, 76)) (h1 := zg) rfl ?_
    refine wp_gt (a := zp) (b := ze) rfl (by omega) (by omega) (fun b_45 => ?_) (fun b_45 => ?_)
    · refine wp_ret (rv := none) rfl ?_
      exact zk zg zK q_fr q_nm1 (by rw [q_st, show zp - zf = ze + 1 - zf by omega]) (fun w p => by rw [q_G w p, show zp = ze + 1 by omega])
    · refine wp_run (k := 6) (pc1 := 59) (l1 := [(0, .ref 27), (1, .ref 34), (2, .int (iN (zf))), (3, .int (iN (ze))), (4, .int (iN (zp)))]) (st1 := [.int (iN (zv)), .int (iN (zw)), .int (iN (zp)), .ref 34]) (kr1 := (78, 76)) (h1 := zg) (Eq.trans (b := (some (59, [(0, .ref 27), (1, .ref 34), (2, .int (iN (zf))), (3, .int (iN (ze))), (4, .int (iN (zp)))], [.int (zg.1 27 5), .int (zg.1 27 3), .int (iN (zp)), .ref 34], (78, 76), zg) : Option am_C)) rfl (by simp only [(congrFun (q_fr.2 27 (by decide)) 3).trans q_3, (congrFun (q_fr.2 27 (by decide)) 5).trans q_5, Int32.ofInt_add, Int32.ofInt_sub, Int32.ofInt_mul, Int32.ofInt_neg])) ?_
      refine wp_call (md1 := am_m_Numbers_become) (As := [.ref 34, .int (iN (zp)), .int (iN (zw)), .int (iN (zv))]) (rest := []) (kr1 := (78, 76)) rfl (jt_become_34 (zs := zs + (zp - zf)) _ (by omega) q_nm1 q_gk (zp := zp) (zw := zw) (zv := zv) (by omega) q_w q_st) ?_
      rintro _ _ ⟨rfl, fo, fc, rfl, q_n2, q_s2⟩
      refine wp_run (k := 2) (pc1 := 42) (l1 := [(0, .ref 27), (1, .ref 34), (2, .int (iN (zf))), (3, .int (iN (ze))), (4, .int (iN ((zp) + 1)))]) (st1 := []) (kr1 := (78, 76)) (h1 := am_row (am_row zg 35 fc) 34 fo) (Eq.trans (b := (some (42, [(0, .ref 27), (1, .ref 34), (2, .int (iN (zf))), (3, .int (iN (ze))), (4, .int ((iN (zp)) + iN (1)))], [], (78, 76), am_row (am_row zg 35 fc) 34 fo) : Option am_C)) rfl (by simp only [Int32.ofInt_add, Int32.ofInt_sub, Int32.ofInt_mul, Int32.ofInt_neg])) ?_
      refine z_ih (am_row (am_row zg 35 fc) 34 fo) (zp + 1) (zG1 zK zw zp zv) (am_fr_r (am_fr_r q_fr (by decide) _) (by decide) _) ?_ (zGk_up q_gk q_v) ?_ (by omega) ?_ (by omega)
      · rw [am_row_s, am_row_n _ _ _ (by decide), am_row_s]; exact q_n2
      · rw [am_row_s, q_s2]; exact congrArg iN (by omega)
      · intro w p
        unfold zG1
        by_cases y1 : w = zw ∧ p = zp
        · rw [if_pos y1, if_pos (by omega)]
        · rw [if_neg y1, q_G w p]
          by_cases y2 : w = zw ∧ zf ≤ p ∧ p < zp
          · rw [if_pos y2, if_pos (by omega)]
          · rw [if_neg y2, if_neg (by omega)]
set_option maxRecDepth 20000 in
set_option maxHeartbeats 4000000 in
theorem jt_tellc (zd : Nat) (q_d : 3 ≤ zd) {zh : am_H} {N : Int} {G : Int → Int → Int} {S T zw zp zv zs : Int} (q_nm : zNm (zh.1 34) (zh.1 35) N G S T) (q_g : zGk N G S T) (q_3 : zh.1 27 3 = iN zw) (q_4 : zh.1 27 4 = iN zp) (q_5 : zh.1 27 5 = iN zv) (q_s : zh.1 34 2 = iN zs) (q_w : 0 ≤ zw ∧ zw < 6) (q_p : -1 ≤ zp ∧ (zp < N ∨ zp = -1)) (q_v : 0 ≤ zv ∧ zv ≤ vmax zw) : am_wp zd am_m_Text_tellClause 0 [(0, .ref 27), (1, .ref 34)] [] (78, 76) zh (78, 76) (fun rv h' => rv = none ∧ am_fr [34, 35] zh h' ∧ zNm (h'.1 34) (h'.1 35) N (zTg G N zw zp zv) S T ∧ ∃ zt : Int, h'.1 34 2 = iN zt ∧ zs ≤ zt ∧ zt ≤ zs + 16) := by
  obtain ⟨zd, rfl⟩ : ∃ y_e, zd = y_e + 3 := ⟨zd - 3, by omega⟩
  have q_N := q_g.1
  refine wp_run (k := 3) (pc1 := 5) (l1 := [(0, .ref 27), (1, .ref 34)]) (st1 := [.int (iN (-1)), .int (iN (zp))]) (kr1 := (78, 76)) (h1 := zh) (Eq.trans (b := (some (5, [(0, .ref 27), (1, .ref 34)], [.int (iN (-1)), .int (zh.1 27 4)], (78, 76), zh) : Option am_C)) rfl (by simp only [q_4, Int32.ofInt_add, Int32.ofInt_sub, Int32.ofInt_mul, Int32.ofInt_neg])) ?_
  refine wp_ne (a := zp) (b := -1) rfl (by omega) (by omega) (fun b_5 => ?_) (fun b_5 => ?_)
  · refine wp_run (k := 6) (pc1 := 22) (l1 := [(0, .ref 27), (1, .ref 34), (2, .int (iN (zp)))]) (st1 := [.int (iN (-1)), .int (iN (zp))]) (kr1 := (78, 76)) (h1 := zh) (Eq.trans (b := (some (22, [(0, .ref 27), (1, .ref 34), (2, .int (zh.1 27 4))], [.int (iN (-1)), .int (zh.1 27 4)], (78, 76), zh) : Option am_C)) rfl (by simp only [q_4, Int32.ofInt_add, Int32.ofInt_sub, Int32.ofInt_mul, Int32.ofInt_neg])) ?_
    refine wp_ne (a := zp) (b := -1) rfl (by omega) (by omega) (fun b_22 => ?_) (fun b_22 => ?_)
    · refine wp_run (k := 5) (pc1 := 42) (l1 := [(0, .ref 27), (1, .ref 34), (2, .int (iN (zp))), (3, .int (iN (zp))), (4, .int (iN (zp)))]) (st1 := []) (kr1 := (78, 76)) (h1 := zh) (Eq.trans (b := (some (42, [(0, .ref 27), (1, .ref 34), (2, .int (iN (zp))), (3, .int (zh.1 27 4)), (4, .int (iN (zp)))], [], (78, 76), zh) : Option am_C)) rfl (by simp only [q_4, Int32.ofInt_add, Int32.ofInt_sub, Int32.ofInt_mul, Int32.ofInt_neg])) ?_
      refine jl_tellc (zh := zh) (G := G) (zs := zs) _ (by omega) q_3 q_5 q_w q_v (zf := zp) (ze := zp) (by omega) q_N (fun zg zK y1 y2 y3 y4 => ⟨rfl, y1, zNm_eq y2 (fun w p z1 z2 z3 z4 => ?_), _, y3, by omega, by omega⟩) 18 zh (zp) G (am_fr_0 _ _) q_nm q_g (by rw [q_s]; exact congrArg iN (by omega)) (by omega) (fun w p => (if_neg (by omega)).symm) (by omega)
      rw [y4 w p]
      unfold zTg
      by_cases y5 : w = zw ∧ (zp) ≤ p ∧ p < (zp) + 1
      · rw [if_pos y5, if_pos (by omega)]
      · rw [if_neg y5, if_neg (by omega)]
    · refine wp_run (k := 1) (pc1 := 26) (l1 := [(0, .ref 27), (1, .ref 34), (2, .int (iN (zp)))]) (st1 := [.ref 34]) (kr1 := (78, 76)) (h1 := zh) rfl ?_
      refine wp_call (md1 := am_m_Numbers_size) (As := [.ref 34]) (rest := []) (kr1 := (78, 76)) rfl (jt_size_34 _ (by omega) q_nm q_g) ?_
      rintro _ _ ⟨rfl, rfl⟩
      refine wp_run (k := 6) (pc1 := 42) (l1 := [(0, .ref 27), (1, .ref 34), (2, .int (iN (zp))), (3, .int (iN ((N) - (1)))), (4, .int (iN (zp)))]) (st1 := []) (kr1 := (78, 76)) (h1 := zh) (Eq.trans (b := (some (42, [(0, .ref 27), (1, .ref 34), (2, .int (iN (zp))), (3, .int ((iN (N)) - (iN (1)))), (4, .int (iN (zp)))], [], (78, 76), zh) : Option am_C)) rfl (by simp only [Int32.ofInt_add, Int32.ofInt_sub, Int32.ofInt_mul, Int32.ofInt_neg])) ?_
      refine jl_tellc (zh := zh) (G := G) (zs := zs) _ (by omega) q_3 q_5 q_w q_v (zf := zp) (ze := (N) - (1)) (by omega) q_N (fun zg zK y1 y2 y3 y4 => ⟨rfl, y1, zNm_eq y2 (fun w p z1 z2 z3 z4 => ?_), _, y3, by omega, by omega⟩) 18 zh (zp) G (am_fr_0 _ _) q_nm q_g (by rw [q_s]; exact congrArg iN (by omega)) (by omega) (fun w p => (if_neg (by omega)).symm) (by omega)
      rw [y4 w p]
      unfold zTg
      by_cases y5 : w = zw ∧ (zp) ≤ p ∧ p < ((N) - (1)) + 1
      · rw [if_pos y5, if_pos (by omega)]
      · rw [if_neg y5, if_neg (by omega)]
  · refine wp_run (k := 6) (pc1 := 22) (l1 := [(0, .ref 27), (1, .ref 34), (2, .int (iN (0)))]) (st1 := [.int (iN (-1)), .int (iN (zp))]) (kr1 := (78, 76)) (h1 := zh) (Eq.trans (b := (some (22, [(0, .ref 27), (1, .ref 34), (2, .int (iN (0)))], [.int (iN (-1)), .int (zh.1 27 4)], (78, 76), zh) : Option am_C)) rfl (by simp only [q_4, Int32.ofInt_add, Int32.ofInt_sub, Int32.ofInt_mul, Int32.ofInt_neg])) ?_
    refine wp_ne (a := zp) (b := -1) rfl (by omega) (by omega) (fun b_22 => ?_) (fun b_22 => ?_)
    · refine wp_run (k := 5) (pc1 := 42) (l1 := [(0, .ref 27), (1, .ref 34), (2, .int (iN (0))), (3, .int (iN (zp))), (4, .int (iN (0)))]) (st1 := []) (kr1 := (78, 76)) (h1 := zh) (Eq.trans (b := (some (42, [(0, .ref 27), (1, .ref 34), (2, .int (iN (0))), (3, .int (zh.1 27 4)), (4, .int (iN (0)))], [], (78, 76), zh) : Option am_C)) rfl (by simp only [q_4, Int32.ofInt_add, Int32.ofInt_sub, Int32.ofInt_mul, Int32.ofInt_neg])) ?_
      refine jl_tellc (zh := zh) (G := G) (zs := zs) _ (by omega) q_3 q_5 q_w q_v (zf := 0) (ze := zp) (by omega) q_N (fun zg zK y1 y2 y3 y4 => ⟨rfl, y1, zNm_eq y2 (fun w p z1 z2 z3 z4 => ?_), _, y3, by omega, by omega⟩) 18 zh (0) G (am_fr_0 _ _) q_nm q_g (by rw [q_s]; exact congrArg iN (by omega)) (by omega) (fun w p => (if_neg (by omega)).symm) (by omega)
      rw [y4 w p]
      unfold zTg
      by_cases y5 : w = zw ∧ (0) ≤ p ∧ p < (zp) + 1
      · rw [if_pos y5, if_pos (by omega)]
      · rw [if_neg y5, if_neg (by omega)]
    · refine wp_run (k := 1) (pc1 := 26) (l1 := [(0, .ref 27), (1, .ref 34), (2, .int (iN (0)))]) (st1 := [.ref 34]) (kr1 := (78, 76)) (h1 := zh) rfl ?_
      refine wp_call (md1 := am_m_Numbers_size) (As := [.ref 34]) (rest := []) (kr1 := (78, 76)) rfl (jt_size_34 _ (by omega) q_nm q_g) ?_
      rintro _ _ ⟨rfl, rfl⟩
      refine wp_run (k := 6) (pc1 := 42) (l1 := [(0, .ref 27), (1, .ref 34), (2, .int (iN (0))), (3, .int (iN ((N) - (1)))), (4, .int (iN (0)))]) (st1 := []) (kr1 := (78, 76)) (h1 := zh) (Eq.trans (b := (some (42, [(0, .ref 27), (1, .ref 34), (2, .int (iN (0))), (3, .int ((iN (N)) - (iN (1)))), (4, .int (iN (0)))], [], (78, 76), zh) : Option am_C)) rfl (by simp only [Int32.ofInt_add, Int32.ofInt_sub, Int32.ofInt_mul, Int32.ofInt_neg])) ?_
      refine jl_tellc (zh := zh) (G := G) (zs := zs) _ (by omega) q_3 q_5 q_w q_v (zf := 0) (ze := (N) - (1)) (by omega) q_N (fun zg zK y1 y2 y3 y4 => ⟨rfl, y1, zNm_eq y2 (fun w p z1 z2 z3 z4 => ?_), _, y3, by omega, by omega⟩) 18 zh (0) G (am_fr_0 _ _) q_nm q_g (by rw [q_s]; exact congrArg iN (by omega)) (by omega) (fun w p => (if_neg (by omega)).symm) (by omega)
      rw [y4 w p]
      unfold zTg
      by_cases y5 : w = zw ∧ (0) ≤ p ∧ p < ((N) - (1)) + 1
      · rw [if_pos y5, if_pos (by omega)]
      · rw [if_neg y5, if_neg (by omega)]
set_option maxRecDepth 20000 in
set_option maxHeartbeats 4000000 in
theorem jl_tellTo (zd : Nat) (q_d : 7 ≤ zd) {zh : am_H} {F : Int → Int} {zl : Int} {N : Int} {S T zs : Int} {zU : Int × (Int → Int → Int)} (q_l : zh.1 27 1 = iN zl) (q_r : 0 ≤ zl ∧ zl ≤ 120) (q_f : ∀ k : Int, 0 ≤ k → k < zl → zh.1 28 k.toNat = iN (F k)) (q_c : ∀ k : Int, 0 ≤ k → k < zl → 32 ≤ F k ∧ F k ≤ 126) {zQ : Option Value → am_H → Prop} (zk : ∀ (zg : am_H) (zt : Int), am_fr [27, 34, 35] zh zg → (0 ≤ zU.1 → zNm (zg.1 34) (zg.1 35) N zU.2 S T ∧ zGk N zU.2 S T) → zg.1 34 2 = iN zt → zs ≤ zt ∧ zt ≤ zs + 16 * 61 → zQ (some (.int (iN zU.1))) zg) : ∀ (z_n : Nat) (zg : am_H) (zi : Int) (zc : Int) (zt : Int) (zK : Int → Int → Int) (zf : Nat) (q_fr : am_fr [27, 34, 35] zh zg) (q_l1 : zg.1 27 1 = iN zl) (q_p : zg.1 27 2 = iN zi) (q_nm1 : zNm (zg.1 34) (zg.1 35) N zK S T) (q_gk : zGk N zK S T) (q_st : zg.1 34 2 = iN zt) (q_t : zs ≤ zt ∧ zt ≤ zs + 16 * zc) (q_i : 0 ≤ zc ∧ 2 * zc ≤ zi ∧ zi ≤ zl ∧ zl - zi < zf) (q_z : zTf F zl N zf zi zc zK = zU), zl + 1 - zi < (z_n : Int) → am_wp zd am_m_Text_tellTo 7 [(0, .ref 27), (1, .ref 34), (2, .int (iN (zc)))] [] (78, 76) zg (78, 76) zQ := by
  obtain ⟨zd, rfl⟩ : ∃ y_e, zd = y_e + 7 := ⟨zd - 7, by omega⟩
  intro z_n
  induction z_n with
  | zero => intro zg zi zc zt zK zf q_fr q_l1 q_p q_nm1 q_gk q_st q_t q_i q_z q_m; omega
  | succ z_n z_ih =>
    intro zg zi zc zt zK zf q_fr q_l1 q_p q_nm1 q_gk q_st q_t q_i q_z q_m
    have q_N := q_gk.1
    refine wp_run (k := 2) (pc1 := 10) (l1 := [(0, .ref 27), (1, .ref 34), (2, .int (iN (zc)))]) (st1 := [.int (iN (120)), .int (iN (zc))]) (kr1 := (78, 76)) (h1 := zg) rfl ?_
    refine wp_ge (a := zc) (b := 120) rfl (by omega) (by omega) (fun b_10 => ?_) (fun b_10 => ?_)
    · exact absurd b_10 (by omega)
    · refine wp_run (k := 2) (pc1 := 15) (l1 := [(0, .ref 27), (1, .ref 34), (2, .int (iN (zc)))]) (st1 := [.ref 34, .ref 27]) (kr1 := (78, 76)) (h1 := zg) rfl ?_
      refine wp_call (md1 := am_m_Text_lookAtClause) (As := [.ref 27, .ref 34]) (rest := []) (kr1 := (78, 76)) rfl (jt_clause _ (by omega) q_l1 q_r (fun k y1 y2 => (congrFun (q_fr.2 28 (by decide)) _).trans (q_f k y1 y2)) q_c q_p (by omega) q_nm1 q_gk) ?_
      rintro _ zg1 ⟨rfl, q_f1, q_l2, q_p2, q_x2⟩
      have y_C := zCs_rg (F := F) (L := zl) (N := N) (i := zi) (by omega)
      have y_sg := zSg_rg (i := (zCs F zl N zi).2.2.2.2) q_c
      refine wp_eqb rfl (fun b_18 => ?_) (fun b_18 => ?_)
      · refine wp_run (k := 4) (pc1 := 78) (l1 := [(0, .ref 27), (1, .ref 34), (2, .int (iN (zc)))]) (st1 := [.int (iN ((-100) - ((zCs F zl N zi).2.2.2.2)))]) (kr1 := (78, 76)) (h1 := zg1) (Eq.trans (b := (some (78, [(0, .ref 27), (1, .ref 34), (2, .int (iN (zc)))], [.int ((iN (-100)) - (zg1.1 27 2))], (78, 76), zg1) : Option am_C)) rfl (by simp only [q_p2, Int32.ofInt_add, Int32.ofInt_sub, Int32.ofInt_mul, Int32.ofInt_neg])) ?_
        refine wp_ret (rv := some (.int (iN ((-100) - ((zCs F zl N zi).2.2.2.2))))) rfl ?_
        obtain ⟨zf1, y_k⟩ : ∃ y, zf = y + 1 := ⟨zf - 1, by omega⟩
        subst y_k
        have y_U : zU = (-100 - (zCs F zl N zi).2.2.2.2, zK) := q_z.symm.trans (if_neg (by omega))
        rw [y_U] at zk
        exact zk zg1 zt (am_fr_t q_fr (am_fr_m q_f1 (fun c y => by simp only [List.mem_cons, List.not_mem_nil, or_false] at y ⊢; omega))) (fun y => absurd (show (0 : Int) ≤ -100 - (zCs F zl N zi).2.2.2.2 from y) (by omega)) ((congrFun (q_f1.2 34 (by decide)) 2).trans q_st) (by omega)
      · refine wp_run (k := 2) (pc1 := 23) (l1 := [(0, .ref 27), (1, .ref 34), (2, .int (iN (zc)))]) (st1 := [.ref 34, .ref 27]) (kr1 := (78, 76)) (h1 := zg1) rfl ?_
        refine wp_call (md1 := am_m_Text_tellClause) (As := [.ref 27, .ref 34]) (rest := []) (kr1 := (78, 76)) rfl (jt_tellc (zs := zt) _ (by omega) (zNm_f q_f1 q_nm1 (by decide) (by decide)) q_gk (q_x2 (by omega)).1 (q_x2 (by omega)).2.1 (q_x2 (by omega)).2.2 ((congrFun (q_f1.2 34 (by decide)) 2).trans q_st) (by omega) (by omega) (by omega)) ?_
        rintro _ zg2 ⟨rfl, q_f2, q_n2, zt2, q_st2, q_t2⟩
        have q_l3 := (congrFun (q_f2.2 27 (by decide)) 1).trans q_l2
        have q_p3 := (congrFun (q_f2.2 27 (by decide)) 2).trans q_p2
        have q_f3 : am_fr [27, 34, 35] zh zg2 := am_fr_t q_fr (am_fr_t (am_fr_m q_f1 (fun c y => by simp only [List.mem_cons, List.not_mem_nil, or_false] at y ⊢; omega)) (am_fr_m q_f2 (fun c y => by simp only [List.mem_cons, List.not_mem_nil, or_false] at y ⊢; omega)))
        refine wp_run (k := 5) (pc1 := 37) (l1 := [(0, .ref 27), (1, .ref 34), (2, .int (iN ((zc) + 1)))]) (st1 := [.int (iN (zl)), .int (iN ((zCs F zl N zi).2.2.2.2))]) (kr1 := (78, 76)) (h1 := zg2) (Eq.trans (b := (some (37, [(0, .ref 27), (1, .ref 34), (2, .int ((iN (zc)) + iN (1)))], [.int (zg2.1 27 1), .int (zg2.1 27 2)], (78, 76), zg2) : Option am_C)) rfl (by simp only [q_p3, q_l3, Int32.ofInt_add, Int32.ofInt_sub, Int32.ofInt_mul, Int32.ofInt_neg])) ?_
        refine wp_ne (a := (zCs F zl N zi).2.2.2.2) (b := zl) rfl (by omega) (by omega) (fun b_37 => ?_) (fun b_37 => ?_)
        · refine wp_run (k := 3) (pc1 := 47) (l1 := [(0, .ref 27), (1, .ref 34), (2, .int (iN ((zc) + 1)))]) (st1 := [.int (iN ((zCs F zl N zi).2.2.2.2)), .ref 27]) (kr1 := (78, 76)) (h1 := zg2) (Eq.trans (b := (some (47, [(0, .ref 27), (1, .ref 34), (2, .int (iN ((zc) + 1)))], [.int (zg2.1 27 2), .ref 27], (78, 76), zg2) : Option am_C)) rfl (by simp only [q_p3, Int32.ofInt_add, Int32.ofInt_sub, Int32.ofInt_mul, Int32.ofInt_neg])) ?_
          refine wp_call (md1 := am_m_Text_signAt) (As := [.ref 27, .int (iN ((zCs F zl N zi).2.2.2.2))]) (rest := []) (kr1 := (78, 76)) rfl (jt_signAt _ (by omega) q_l3 q_r (zi := (zCs F zl N zi).2.2.2.2) (by omega) (fun k y1 y2 => (congrFun (q_f3.2 28 (by decide)) _).trans (q_f k y1 y2))) ?_
          rintro _ _ ⟨rfl, rfl⟩
          refine wp_run (k := 1) (pc1 := 52) (l1 := [(0, .ref 27), (1, .ref 34), (2, .int (iN ((zc) + 1)))]) (st1 := [.int (iN (59)), .int (iN (zSg F zl ((zCs F zl N zi).2.2.2.2)))]) (kr1 := (78, 76)) (h1 := zg2) rfl ?_
          refine wp_eq (a := zSg F zl ((zCs F zl N zi).2.2.2.2)) (b := 59) rfl (by omega) (by omega) (fun b_52 => ?_) (fun b_52 => ?_)
          · refine wp_run (k := 5) (pc1 := 65) (l1 := [(0, .ref 27), (1, .ref 34), (2, .int (iN ((zc) + 1)))]) (st1 := [.int (iN (((zCs F zl N zi).2.2.2.2) + (1))), .ref 27]) (kr1 := (78, 76)) (h1 := zg2) (Eq.trans (b := (some (65, [(0, .ref 27), (1, .ref 34), (2, .int (iN ((zc) + 1)))], [.int ((zg2.1 27 2) + (iN (1))), .ref 27], (78, 76), zg2) : Option am_C)) rfl (by simp only [q_p3, Int32.ofInt_add, Int32.ofInt_sub, Int32.ofInt_mul, Int32.ofInt_neg])) ?_
            refine wp_run (k := 2) (pc1 := 7) (l1 := [(0, .ref 27), (1, .ref 34), (2, .int (iN ((zc) + 1)))]) (st1 := []) (kr1 := (78, 76)) (h1 := am_wr zg2 27 2 (iN (((zCs F zl N zi).2.2.2.2) + (1)))) rfl ?_
            obtain ⟨zf1, y_k⟩ : ∃ y, zf = y + 1 := ⟨zf - 1, by omega⟩
            subst y_k
            refine z_ih (am_wr zg2 27 2 (iN (((zCs F zl N zi).2.2.2.2) + (1)))) ((zCs F zl N zi).2.2.2.2 + 1) (zc + 1) zt2 (zTg zK N ((zCs F zl N zi).2.1) ((zCs F zl N zi).2.2.1) ((zCs F zl N zi).2.2.2.1)) zf1 (am_fr_w q_f3 (by decide) _ _) ((am_wr_no (by decide)).trans q_l3) am_wr_at ?_ (zTg_gk q_gk (by omega)) ?_ (by omega) (by omega) ?_ (by omega)
            · rw [am_wr_ne (by decide), am_wr_ne (by decide)]; exact q_n2
            · rw [am_wr_ne (by decide)]; exact q_st2
            · rw [← q_z]
              exact ((if_pos (by omega)).trans ((if_neg (by omega)).trans (if_pos (by omega)))).symm
          · refine wp_run (k := 5) (pc1 := 78) (l1 := [(0, .ref 27), (1, .ref 34), (2, .int (iN ((zc) + 1)))]) (st1 := [.int (iN ((-100) - ((zCs F zl N zi).2.2.2.2)))]) (kr1 := (78, 76)) (h1 := zg2) (Eq.trans (b := (some (78, [(0, .ref 27), (1, .ref 34), (2, .int (iN ((zc) + 1)))], [.int ((iN (-100)) - (zg2.1 27 2))], (78, 76), zg2) : Option am_C)) rfl (by simp only [q_p3, Int32.ofInt_add, Int32.ofInt_sub, Int32.ofInt_mul, Int32.ofInt_neg])) ?_
            refine wp_ret (rv := some (.int (iN ((-100) - ((zCs F zl N zi).2.2.2.2))))) rfl ?_
            obtain ⟨zf1, y_k⟩ : ∃ y, zf = y + 1 := ⟨zf - 1, by omega⟩
            subst y_k
            have y_U : zU = (-100 - (zCs F zl N zi).2.2.2.2, zK) := q_z.symm.trans ((if_pos (by omega)).trans ((if_neg (by omega)).trans (if_neg (by omega))))
            rw [y_U] at zk
            exact zk zg2 zt2 q_f3 (fun y => absurd (show (0 : Int) ≤ -100 - (zCs F zl N zi).2.2.2.2 from y) (by omega)) q_st2 (by omega)
        · refine wp_run (k := 1) (pc1 := 41) (l1 := [(0, .ref 27), (1, .ref 34), (2, .int (iN ((zc) + 1)))]) (st1 := [.int (iN ((zc) + 1))]) (kr1 := (78, 76)) (h1 := zg2) rfl ?_
          refine wp_ret (rv := some (.int (iN ((zc) + 1)))) rfl ?_
          obtain ⟨zf1, y_k⟩ : ∃ y, zf = y + 1 := ⟨zf - 1, by omega⟩
          subst y_k
          have y_U : zU = (zc + 1, zTg zK N ((zCs F zl N zi).2.1) ((zCs F zl N zi).2.2.1) ((zCs F zl N zi).2.2.2.1)) := q_z.symm.trans ((if_pos (by omega)).trans (if_pos (by omega)))
          rw [y_U] at zk
          exact zk zg2 zt2 q_f3 (fun _ => ⟨q_n2, zTg_gk q_gk (by omega)⟩) q_st2 (by omega)
set_option maxRecDepth 20000 in
set_option maxHeartbeats 4000000 in
theorem jt_tellTo (zd : Nat) (q_d : 7 ≤ zd) {zh : am_H} {F : Int → Int} {zl : Int} {N : Int} {G : Int → Int → Int} {S T : Int} {zs : Int} (q_l : zh.1 27 1 = iN zl) (q_r : 0 ≤ zl ∧ zl ≤ 120) (q_f : ∀ k : Int, 0 ≤ k → k < zl → zh.1 28 k.toNat = iN (F k)) (q_c : ∀ k : Int, 0 ≤ k → k < zl → 32 ≤ F k ∧ F k ≤ 126) (q_nm : zNm (zh.1 34) (zh.1 35) N G S T) (q_g : zGk N G S T) (q_s : zh.1 34 2 = iN zs) : am_wp zd am_m_Text_tellTo 0 [(0, .ref 27), (1, .ref 34)] [] (78, 76) zh (78, 76) (fun rv h' => rv = some (.int (iN (zTf F zl N 121 0 0 G).1)) ∧ am_fr [27, 34, 35] zh h' ∧ (0 ≤ (zTf F zl N 121 0 0 G).1 → zNm (h'.1 34) (h'.1 35) N (zTf F zl N 121 0 0 G).2 S T ∧ zGk N (zTf F zl N 121 0 0 G).2 S T) ∧ ∃ zt : Int, h'.1 34 2 = iN zt ∧ zs ≤ zt ∧ zt ≤ zs + 16 * 61) := by
  obtain ⟨zd, rfl⟩ : ∃ y_e, zd = y_e + 7 := ⟨zd - 7, by omega⟩
  refine wp_run (k := 5) (pc1 := 7) (l1 := [(0, .ref 27), (1, .ref 34), (2, .int (iN (0)))]) (st1 := []) (kr1 := (78, 76)) (h1 := am_wr zh 27 2 (iN (0))) rfl ?_
  exact jl_tellTo (zh := zh) (zs := zs) _ (by omega) q_l q_r q_f q_c (fun zg zt y1 y2 y3 y4 => ⟨rfl, y1, y2, zt, y3, y4⟩) 130 (am_wr zh 27 2 (iN (0))) 0 0 zs G 121 (am_fr_w (am_fr_0 _ _) (by decide) _ _) ((am_wr_no (by decide)).trans q_l) am_wr_at (by rw [am_wr_ne (by decide), am_wr_ne (by decide)]; exact q_nm) q_g (by rw [am_wr_ne (by decide)]; exact q_s) (by omega) (by omega) rfl (by omega)
