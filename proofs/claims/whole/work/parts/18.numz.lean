/-! THE CLASS's Numbers: resize, areCalm -/
def zF1 (w : Int) : Int := if w = 0 then 0 else if w = 1 then 50 else if w = 2 then 1 else if w = 3 then 1 else if w = 4 then 5 else 999
theorem am_F6_v (w : Int) (q : 0 ≤ w ∧ w < 6) : am_F6 w.toNat = iN (zF1 w) := by
  rcases (show w = 0 ∨ w = 1 ∨ w = 2 ∨ w = 3 ∨ w = 4 ∨ w = 5 by omega) with rfl | rfl | rfl | rfl | rfl | rfl <;> decide
theorem zF1_rg (w : Int) (q : 0 ≤ w ∧ w < 6) : 0 ≤ zF1 w ∧ zF1 w ≤ vmax w := by
  rcases (show w = 0 ∨ w = 1 ∨ w = 2 ∨ w = 3 ∨ w = 4 ∨ w = 5 by omega) with rfl | rfl | rfl | rfl | rfl | rfl <;> decide
/-- a row of numbers with zn kinds of the period zp as at first -/
def zFw (zf : Nat → Int32) (zp : Nat) : Nat → Nat → Int32
  | 0 => zf
  | zn + 1 => zUp (zFw zf zp zn) (16 * zn + zp) (iN (zF1 (zn : Int)))
theorem zFw_o (zf : Nat → Int32) (zp zk : Nat) : ∀ zn : Nat, (∀ w : Nat, w < zn → zk ≠ 16 * w + zp) → zFw zf zp zn zk = zf zk := by
  intro zn
  induction zn with
  | zero => intro _; rfl
  | succ zn z_ih =>
    intro q
    exact (zUp_n _ _ _ (q zn (by omega))).trans (z_ih (fun w q1 => q w (by omega)))
theorem zFw_i (zf : Nat → Int32) (zp w : Nat) : ∀ zn : Nat, w < zn → zFw zf zp zn (16 * w + zp) = iN (zF1 (w : Int)) := by
  intro zn
  induction zn with
  | zero => intro q; omega
  | succ zn z_ih =>
    intro q
    by_cases q1 : w = zn
    · subst q1; exact zUp_s _ _ _
    · exact (zUp_n _ _ _ (by omega)).trans (z_ih (by omega))
/-- zn periods from za on as at first -/
def zFr (zf : Nat → Int32) (za : Nat) : Nat → Nat → Int32
  | 0 => zf
  | zn + 1 => zFw (zFr zf za zn) (za + zn) 6
theorem zFr_o (zf : Nat → Int32) (za zk : Nat) : ∀ zn : Nat, za + zn ≤ 16 → (∀ w p : Nat, w < 6 → za ≤ p → p < za + zn → zk ≠ 16 * w + p) → zFr zf za zn zk = zf zk := by
  intro zn
  induction zn with
  | zero => intro _ _; rfl
  | succ zn z_ih =>
    intro q0 q
    exact (zFw_o _ _ _ 6 (fun w q1 => q w _ q1 (by omega) (by omega))).trans (z_ih (by omega) (fun w p q1 q2 q3 => q w p q1 q2 (by omega)))
theorem zFr_i (zf : Nat → Int32) (za w p : Nat) (q_w : w < 6) : ∀ zn : Nat, za + zn ≤ 16 → za ≤ p → p < za + zn → zFr zf za zn (16 * w + p) = iN (zF1 (w : Int)) := by
  intro zn
  induction zn with
  | zero => intro _ q1 q2; omega
  | succ zn z_ih =>
    intro q0 q1 q2
    by_cases q3 : p = za + zn
    · subst q3; exact zFw_i _ _ _ 6 q_w
    · exact (zFw_o _ _ _ 6 (fun v q4 => by omega)).trans (z_ih (by omega) q1 (by omega))
def zGr (G : Int → Int → Int) (N : Int) : Int → Int → Int := fun w p => if p < N then G w p else zF1 w
theorem zNm_rs {fo fc fo' : Nat → Int32} {N zn za : Int} {G : Int → Int → Int} {S T : Int} (q_N : 1 ≤ N ∧ N ≤ 16) (q_n : 1 ≤ zn ∧ zn ≤ 16) (q : zNm fo fc N G S T) (q_o : fo' 1 = iN zn) (q_a : za = min N zn) : zNm fo' (zFr fc za.toNat (16 - za).toNat) zn (zGr G N) S T := by
  refine ⟨q_o, fun w p q1 q2 q3 q4 => ?_, ?_, ?_⟩
  · unfold zGr
    by_cases q5 : p < N
    · rw [if_pos q5, zFr_o _ _ _ _ (by omega) (fun v r y1 y2 y3 => by omega)]
      exact q.2.1 w p q1 q2 q3 q5
    · rw [if_neg q5, show (16 * w + p).toNat = 16 * w.toNat + p.toNat by omega, zFr_i _ _ _ _ (by omega) _ (by omega) (by omega) (by omega), show (w.toNat : Int) = w by omega]
  · rw [zFr_o _ _ _ _ (by omega) (fun v r y1 y2 y3 => by omega)]; exact q.2.2.1
  · rw [zFr_o _ _ _ _ (by omega) (fun v r y1 y2 y3 => by omega)]; exact q.2.2.2
theorem zGk_rs {N zn : Int} {G : Int → Int → Int} {S T : Int} (q_n : 1 ≤ zn ∧ zn ≤ 16) (q : zGk N G S T) : zGk zn (zGr G N) S T := by
  refine ⟨q_n, fun w p q1 q2 q3 q4 => ?_, q.2.2⟩
  unfold zGr
  by_cases q5 : p < N
  · rw [if_pos q5]; exact q.2.1 w p q1 q2 q3 q5
  · rw [if_neg q5]; exact zF1_rg w ⟨q1, q2⟩
def zCalm (N : Int) (G : Int → Int → Int) (T : Int) : Prop := T = 0 ∧ ∀ p : Int, 1 ≤ p → p < N → G 2 p ≤ G 2 (p - 1) + G 3 (p - 1)
set_option maxRecDepth 20000 in
set_option maxHeartbeats 4000000 in
theorem jl_first_1 (zd : Nat) (q_d : 1 ≤ zd) {zh : am_H} {zp : Int} (q_p : 0 ≤ zp ∧ zp < 16) {zQ : Option Value → am_H → Prop} (zk : am_wp zd am_m_Numbers_beAsAtFirst 34 [(0, .ref 1), (1, .int (iN (zp))), (2, .int (iN (6)))] [] (78, 76) (am_row zh 2 (zFw (zh.1 2) zp.toNat (6 : Int).toNat)) (78, 76) zQ) : ∀ (z_n : Nat) (zi : Int) (q_i : 0 ≤ zi ∧ zi ≤ 6), 6 - zi < (z_n : Int) → am_wp zd am_m_Numbers_beAsAtFirst 2 [(0, .ref 1), (1, .int (iN (zp))), (2, .int (iN (zi)))] [] (78, 76) (am_row zh 2 (zFw (zh.1 2) zp.toNat (zi : Int).toNat)) (78, 76) zQ := by
  obtain ⟨zd, rfl⟩ : ∃ y_e, zd = y_e + 1 := ⟨zd - 1, by omega⟩
  intro z_n
  induction z_n with
  | zero => intro zi q_i q_m; omega
  | succ z_n z_ih =>
    intro zi q_i q_m
    refine wp_run (k := 2) (pc1 := 5) (l1 := [(0, .ref 1), (1, .int (iN (zp))), (2, .int (iN (zi)))]) (st1 := [.int (iN (6)), .int (iN (zi))]) (kr1 := (78, 76)) (h1 := am_row zh 2 (zFw (zh.1 2) zp.toNat (zi : Int).toNat)) rfl ?_
    refine wp_ge (a := zi) (b := 6) rfl (by omega) (by omega) (fun b_5 => ?_) (fun b_5 => ?_)
    · rw [show zi = 6 by omega]
      exact zk
    · refine wp_run (k := 9) (pc1 := 22) (l1 := [(0, .ref 1), (1, .int (iN (zp))), (2, .int (iN (zi)))]) (st1 := [.int (iN (zi)), .ref 1040, .int (iN (((zi) * (16)) + (zp))), .ref 2]) (kr1 := (78, 76)) (h1 := am_row zh 2 (zFw (zh.1 2) zp.toNat (zi : Int).toNat)) (Eq.trans (b := (some (22, [(0, .ref 1), (1, .int (iN (zp))), (2, .int (iN (zi)))], [.int (iN (zi)), .ref 1040, .int (((iN (zi)) * (iN (16))) + (iN (zp))), .ref 2], (78, 76), am_row zh 2 (zFw (zh.1 2) zp.toNat (zi : Int).toNat)) : Option am_C)) rfl (by simp only [Int32.ofInt_add, Int32.ofInt_sub, Int32.ofInt_mul, Int32.ofInt_neg])) ?_
      refine wp_call (md1 := am_m_Lp_at) (As := [.ref 1040, .int (iN (zi))]) (rest := [.int (iN (((zi) * (16)) + (zp))), .ref 2]) (kr1 := (78, 76)) rfl (jt_at _ (by omega) (zf := am_F6) (zn := 6) (zi := zi) (zv := iN (zF1 zi)) rfl rfl (by decide) (by omega) (by omega) (am_F6_v zi (by omega))) ?_
      rintro _ _ ⟨rfl, rfl⟩
      refine wp_call (md1 := am_m_Lp_lay) (As := [.ref 2, .int (iN (((zi) * (16)) + (zp))), .int (iN (zF1 zi))]) (rest := []) (kr1 := (78, 76)) rfl (jt_lay _ (by omega) (zn := 98) (zi := ((zi) * (16)) + (zp)) (zv := iN (zF1 zi)) (by decide) (by decide) rfl rfl rfl (by decide) (by omega) (by omega)) ?_
      rintro _ _ ⟨rfl, rfl⟩
      refine wp_run (k := 2) (pc1 := 2) (l1 := [(0, .ref 1), (1, .int (iN (zp))), (2, .int (iN ((zi) + 1)))]) (st1 := []) (kr1 := (78, 76)) (h1 := am_wr (am_row zh 2 (zFw (zh.1 2) zp.toNat (zi : Int).toNat)) 2 (((zi) * (16)) + (zp) : Int).toNat (iN (zF1 zi))) (Eq.trans (b := (some (2, [(0, .ref 1), (1, .int (iN (zp))), (2, .int ((iN (zi)) + iN (1)))], [], (78, 76), am_wr (am_row zh 2 (zFw (zh.1 2) zp.toNat (zi : Int).toNat)) 2 (((zi) * (16)) + (zp) : Int).toNat (iN (zF1 zi))) : Option am_C)) rfl (by simp only [Int32.ofInt_add, Int32.ofInt_sub, Int32.ofInt_mul, Int32.ofInt_neg])) ?_
      rw [am_wr_row2, show (zUp (zFw (zh.1 2) zp.toNat zi.toNat) ((zi) * (16) + (zp) : Int).toNat (iN (zF1 zi))) = zFw (zh.1 2) zp.toNat (zi + 1).toNat from by rw [show (zi + 1).toNat = zi.toNat + 1 by omega, show ((zi) * (16) + (zp) : Int).toNat = 16 * zi.toNat + zp.toNat by omega]; show _ = zUp _ _ (iN (zF1 (zi.toNat : Int))); rw [show (zi.toNat : Int) = zi by omega]]
      exact z_ih (zi + 1) (by omega) (by omega)
set_option maxRecDepth 20000 in
set_option maxHeartbeats 4000000 in
theorem jt_first_1 (zd : Nat) (q_d : 1 ≤ zd) {zh : am_H} {zp : Int} (q_p : 0 ≤ zp ∧ zp < 16) : am_wp zd am_m_Numbers_beAsAtFirst 0 [(0, .ref 1), (1, .int (iN (zp)))] [] (78, 76) zh (78, 76) (fun rv h' => rv = none ∧ am_row zh 2 (zFw (zh.1 2) zp.toNat 6) = h') := by
  obtain ⟨zd, rfl⟩ : ∃ y_e, zd = y_e + 1 := ⟨zd - 1, by omega⟩
  refine wp_run (k := 2) (pc1 := 2) (l1 := [(0, .ref 1), (1, .int (iN (zp))), (2, .int (iN (0)))]) (st1 := []) (kr1 := (78, 76)) (h1 := zh) rfl ?_
  refine Eq.mpr (congrArg (fun y_h => am_wp _ _ _ _ _ _ y_h _ _) (show zh = am_row zh 2 (zFw (zh.1 2) zp.toNat (0 : Int).toNat) from (am_row_id _ _).symm)) ?_
  refine jl_first_1 _ (by omega) q_p ?_ 7 0 (by omega) (by omega)
  refine wp_ret (rv := none) rfl ?_
  exact ⟨rfl, rfl⟩
set_option maxRecDepth 20000 in
set_option maxHeartbeats 4000000 in
theorem jl_resize_1 (zd : Nat) (q_d : 2 ≤ zd) {zh : am_H} {N zn : Int} (q_N : 1 ≤ N ∧ N ≤ 16) (q_n : 1 ≤ zn ∧ zn ≤ 16) {zQ : Option Value → am_H → Prop} (zk : am_wp zd am_m_Numbers_resize 26 [(0, .ref 1), (1, .int (iN (zn))), (2, .int (iN (16)))] [] (78, 76) (am_row zh 2 (zFr (zh.1 2) (min N zn).toNat (16 - min N zn).toNat)) (78, 76) zQ) : ∀ (z_n : Nat) (zi : Int) (q_i : min N zn ≤ zi ∧ zi ≤ 16), 16 - zi < (z_n : Int) → am_wp zd am_m_Numbers_resize 9 [(0, .ref 1), (1, .int (iN (zn))), (2, .int (iN (zi)))] [] (78, 76) (am_row zh 2 (zFr (zh.1 2) (min N zn).toNat (zi - min N zn).toNat)) (78, 76) zQ := by
  obtain ⟨zd, rfl⟩ : ∃ y_e, zd = y_e + 2 := ⟨zd - 2, by omega⟩
  intro z_n
  induction z_n with
  | zero => intro zi q_i q_m; omega
  | succ z_n z_ih =>
    intro zi q_i q_m
    refine wp_run (k := 2) (pc1 := 12) (l1 := [(0, .ref 1), (1, .int (iN (zn))), (2, .int (iN (zi)))]) (st1 := [.int (iN (16)), .int (iN (zi))]) (kr1 := (78, 76)) (h1 := am_row zh 2 (zFr (zh.1 2) (min N zn).toNat (zi - min N zn).toNat)) rfl ?_
    refine wp_ge (a := zi) (b := 16) rfl (by omega) (by omega) (fun b_12 => ?_) (fun b_12 => ?_)
    · rw [show zi = 16 by omega]
      exact zk
    · refine wp_run (k := 2) (pc1 := 17) (l1 := [(0, .ref 1), (1, .int (iN (zn))), (2, .int (iN (zi)))]) (st1 := [.int (iN (zi)), .ref 1]) (kr1 := (78, 76)) (h1 := am_row zh 2 (zFr (zh.1 2) (min N zn).toNat (zi - min N zn).toNat)) rfl ?_
      refine wp_call (md1 := am_m_Numbers_beAsAtFirst) (As := [.ref 1, .int (iN (zi))]) (rest := []) (kr1 := (78, 76)) rfl (jt_first_1 _ (by omega) (zp := zi) (by omega)) ?_
      rintro _ _ ⟨rfl, rfl⟩
      refine wp_run (k := 2) (pc1 := 9) (l1 := [(0, .ref 1), (1, .int (iN (zn))), (2, .int (iN ((zi) + 1)))]) (st1 := []) (kr1 := (78, 76)) (h1 := am_row (am_row zh 2 (zFr (zh.1 2) (min N zn).toNat (zi - min N zn).toNat)) 2 (zFw ((am_row zh 2 (zFr (zh.1 2) (min N zn).toNat (zi - min N zn).toNat)).1 2) (zi : Int).toNat 6)) (Eq.trans (b := (some (9, [(0, .ref 1), (1, .int (iN (zn))), (2, .int ((iN (zi)) + iN (1)))], [], (78, 76), am_row (am_row zh 2 (zFr (zh.1 2) (min N zn).toNat (zi - min N zn).toNat)) 2 (zFw ((am_row zh 2 (zFr (zh.1 2) (min N zn).toNat (zi - min N zn).toNat)).1 2) (zi : Int).toNat 6)) : Option am_C)) rfl (by simp only [Int32.ofInt_add, Int32.ofInt_sub, Int32.ofInt_mul, Int32.ofInt_neg])) ?_
      rw [am_row_row, am_row_s, show zFw (zFr (zh.1 2) (min N zn).toNat (zi - min N zn).toNat) zi.toNat 6 = zFr (zh.1 2) (min N zn).toNat (zi + 1 - min N zn).toNat from by rw [show (zi + 1 - min N zn).toNat = (zi - min N zn).toNat + 1 by omega]; show _ = zFw _ _ 6; rw [show (min N zn).toNat + (zi - min N zn).toNat = zi.toNat by omega]]
      exact z_ih (zi + 1) (by omega) (by omega)
set_option maxRecDepth 20000 in
set_option maxHeartbeats 4000000 in
theorem jt_resize_1 (zd : Nat) (q_d : 2 ≤ zd) {zh : am_H} {N : Int} {G : Int → Int → Int} {S T : Int} {zn zs : Int} (q_nm : zNm (zh.1 1) (zh.1 2) N G S T) (q_g : zGk N G S T) (q_n : 1 ≤ zn ∧ zn ≤ 16) (q_s : zh.1 1 2 = iN zs) : am_wp zd am_m_Numbers_resize 0 [(0, .ref 1), (1, .int (iN (zn)))] [] (78, 76) zh (78, 76) (fun rv h' => rv = none ∧ ∃ fo fc, am_row (am_row zh 2 fc) 1 fo = h' ∧ zNm fo fc zn (zGr G N) S T ∧ fo 2 = iN (zs + 1)) := by
  obtain ⟨zd, rfl⟩ : ∃ y_e, zd = y_e + 2 := ⟨zd - 2, by omega⟩
  have q_N := q_g.1
  refine wp_run (k := 3) (pc1 := 5) (l1 := [(0, .ref 1), (1, .int (iN (zn)))]) (st1 := [.int (iN (zn)), .int (iN (N))]) (kr1 := (78, 76)) (h1 := zh) (Eq.trans (b := (some (5, [(0, .ref 1), (1, .int (iN (zn)))], [.int (iN (zn)), .int (zh.1 1 1)], (78, 76), zh) : Option am_C)) rfl (by simp only [q_nm.1, Int32.ofInt_add, Int32.ofInt_sub, Int32.ofInt_mul, Int32.ofInt_neg])) ?_
  refine wp_now (rest := [.int (if iN (zn) < iN (N) then iN (zn) else iN (N))]) rfl ?_
  rw [show (if iN (zn) < iN (N) then iN (zn) else iN (N)) = iN (min (N) (zn)) from iN_min (by omega) (by omega)]
  refine wp_run (k := 1) (pc1 := 9) (l1 := [(0, .ref 1), (1, .int (iN (zn))), (2, .int (iN (min (N) (zn))))]) (st1 := []) (kr1 := (78, 76)) (h1 := zh) rfl ?_
  refine Eq.mpr (congrArg (fun y_h => am_wp _ _ _ _ _ _ y_h _ _) (show zh = am_row zh 2 (zFr (zh.1 2) (min N zn).toNat (min N zn - min N zn).toNat) from by rw [show (min N zn - min N zn).toNat = 0 by omega]; exact (am_row_id _ _).symm)) ?_
  refine jl_resize_1 _ (by omega) q_N q_n ?_ 17 (min N zn) (by omega) (by omega)
  refine wp_run (k := 8) (pc1 := 38) (l1 := [(0, .ref 1), (1, .int (iN (zn))), (2, .int (iN (16)))]) (st1 := [.int (iN ((zs) + (1))), .ref 1]) (kr1 := (78, 76)) (h1 := am_wr (am_row zh 2 (zFr (zh.1 2) (min N zn).toNat (16 - min N zn).toNat)) 1 1 (iN (zn))) (Eq.trans (b := (some (38, [(0, .ref 1), (1, .int (iN (zn))), (2, .int (iN (16)))], [.int (((am_wr (am_row zh 2 (zFr (zh.1 2) (min N zn).toNat (16 - min N zn).toNat)) 1 1 (iN (zn))).1 1 2) + (iN (1))), .ref 1], (78, 76), am_wr (am_row zh 2 (zFr (zh.1 2) (min N zn).toNat (16 - min N zn).toNat)) 1 1 (iN (zn))) : Option am_C)) rfl (by simp only [(show (am_wr (am_row zh 2 (zFr (zh.1 2) (min N zn).toNat (16 - min N zn).toNat)) 1 1 (iN (zn))).1 1 2 = iN zs from by rw [am_wr_row, am_row_s, zUp_n _ _ _ (by decide), am_row_n _ _ _ (by decide)]; exact q_s)]; try simp only [Int32.ofInt_add, Int32.ofInt_sub, Int32.ofInt_mul, Int32.ofInt_neg])) ?_
  refine wp_run (k := 1) (pc1 := 41) (l1 := [(0, .ref 1), (1, .int (iN (zn))), (2, .int (iN (16)))]) (st1 := []) (kr1 := (78, 76)) (h1 := am_wr (am_wr (am_row zh 2 (zFr (zh.1 2) (min N zn).toNat (16 - min N zn).toNat)) 1 1 (iN (zn))) 1 2 (iN ((zs) + (1)))) rfl ?_
  refine wp_ret (rv := none) rfl ?_
  refine ⟨rfl, zUp (zUp (zh.1 1) 1 (iN zn)) 2 (iN (zs + 1)), zFr (zh.1 2) (min N zn).toNat (16 - min N zn).toNat, ?_, zNm_rs q_N q_n q_nm ((zUp_n _ _ _ (by decide)).trans (zUp_s _ _ _)) rfl, zUp_s _ _ _⟩
  rw [am_wr_row _ 1 1, am_row_n _ _ _ (by decide), am_wr_row2]; try rfl
set_option maxRecDepth 20000 in
set_option maxHeartbeats 4000000 in
theorem jl_calm_1 (zd : Nat) (q_d : 1 ≤ zd) {zh : am_H} {N : Int} {G : Int → Int → Int} {S T : Int} (q_nm : zNm (zh.1 1) (zh.1 2) N G S T) (q_g : zGk N G S T) (q_T : T = 0) {zQ : Option Value → am_H → Prop} (zk : ∀ zv : Int, zv = bI (zCalm N G T) (Classical.propDecidable _) → zQ (some (.int (iN zv))) zh) : ∀ (z_n : Nat) (zi : Int) (q_i : 1 ≤ zi ∧ zi ≤ N) (q_c : ∀ p : Int, 1 ≤ p → p < zi → G 2 p ≤ G 2 (p - 1) + G 3 (p - 1)), N - zi < (z_n : Int) → am_wp zd am_m_Numbers_areCalm 11 [(0, .ref 1), (1, .int (iN (zi)))] [] (78, 76) zh (78, 76) zQ := by
  obtain ⟨zd, rfl⟩ : ∃ y_e, zd = y_e + 1 := ⟨zd - 1, by omega⟩
  intro z_n
  induction z_n with
  | zero => intro zi q_i q_c q_m; omega
  | succ z_n z_ih =>
    intro zi q_i q_c q_m
    have q_N := q_g.1
    refine wp_run (k := 3) (pc1 := 16) (l1 := [(0, .ref 1), (1, .int (iN (zi)))]) (st1 := [.int (iN (N)), .int (iN (zi))]) (kr1 := (78, 76)) (h1 := zh) (Eq.trans (b := (some (16, [(0, .ref 1), (1, .int (iN (zi)))], [.int (zh.1 1 1), .int (iN (zi))], (78, 76), zh) : Option am_C)) rfl (by simp only [q_nm.1, Int32.ofInt_add, Int32.ofInt_sub, Int32.ofInt_mul, Int32.ofInt_neg])) ?_
    refine wp_ge (a := zi) (b := N) rfl (by omega) (by omega) (fun b_16 => ?_) (fun b_16 => ?_)
    · refine wp_run (k := 1) (pc1 := 54) (l1 := [(0, .ref 1), (1, .int (iN (zi)))]) (st1 := [.int (iN (1))]) (kr1 := (78, 76)) (h1 := zh) rfl ?_
      refine wp_ret (rv := some (.int (iN (1)))) rfl ?_
      exact zk _ (if_pos ⟨q_T, fun p q1 q2 => q_c p q1 (by omega)⟩).symm
    · refine wp_run (k := 3) (pc1 := 22) (l1 := [(0, .ref 1), (1, .int (iN (zi)))]) (st1 := [.int (iN (2)), .int (iN (zi)), .ref 1]) (kr1 := (78, 76)) (h1 := zh) rfl ?_
      refine wp_call (md1 := am_m_Numbers_value) (As := [.ref 1, .int (iN (zi)), .int (iN (2))]) (rest := []) (kr1 := (78, 76)) rfl (jt_value_1 _ (by omega) q_nm q_g (zp := zi) (zw := 2) (by omega) (by omega)) ?_
      rintro _ _ ⟨rfl, rfl⟩
      refine wp_run (k := 5) (pc1 := 30) (l1 := [(0, .ref 1), (1, .int (iN (zi)))]) (st1 := [.int (iN (2)), .int (iN ((zi) - (1))), .ref 1, .int (iN (G (2) (zi)))]) (kr1 := (78, 76)) (h1 := zh) (Eq.trans (b := (some (30, [(0, .ref 1), (1, .int (iN (zi)))], [.int (iN (2)), .int ((iN (zi)) - (iN (1))), .ref 1, .int (iN (G (2) (zi)))], (78, 76), zh) : Option am_C)) rfl (by simp only [Int32.ofInt_add, Int32.ofInt_sub, Int32.ofInt_mul, Int32.ofInt_neg])) ?_
      refine wp_call (md1 := am_m_Numbers_value) (As := [.ref 1, .int (iN ((zi) - (1))), .int (iN (2))]) (rest := [.int (iN (G (2) (zi)))]) (kr1 := (78, 76)) rfl (jt_value_1 _ (by omega) q_nm q_g (zp := (zi) - (1)) (zw := 2) (by omega) (by omega)) ?_
      rintro _ _ ⟨rfl, rfl⟩
      refine wp_run (k := 5) (pc1 := 38) (l1 := [(0, .ref 1), (1, .int (iN (zi)))]) (st1 := [.int (iN (3)), .int (iN ((zi) - (1))), .ref 1, .int (iN (G (2) ((zi) - (1)))), .int (iN (G (2) (zi)))]) (kr1 := (78, 76)) (h1 := zh) (Eq.trans (b := (some (38, [(0, .ref 1), (1, .int (iN (zi)))], [.int (iN (3)), .int ((iN (zi)) - (iN (1))), .ref 1, .int (iN (G (2) ((zi) - (1)))), .int (iN (G (2) (zi)))], (78, 76), zh) : Option am_C)) rfl (by simp only [Int32.ofInt_add, Int32.ofInt_sub, Int32.ofInt_mul, Int32.ofInt_neg])) ?_
      refine wp_call (md1 := am_m_Numbers_value) (As := [.ref 1, .int (iN ((zi) - (1))), .int (iN (3))]) (rest := [.int (iN (G (2) ((zi) - (1)))), .int (iN (G (2) (zi)))]) (kr1 := (78, 76)) rfl (jt_value_1 _ (by omega) q_nm q_g (zp := (zi) - (1)) (zw := 3) (by omega) (by omega)) ?_
      rintro _ _ ⟨rfl, rfl⟩
      refine wp_run (k := 1) (pc1 := 42) (l1 := [(0, .ref 1), (1, .int (iN (zi)))]) (st1 := [.int (iN ((G (2) ((zi) - (1))) + (G (3) ((zi) - (1))))), .int (iN (G (2) (zi)))]) (kr1 := (78, 76)) (h1 := zh) (Eq.trans (b := (some (42, [(0, .ref 1), (1, .int (iN (zi)))], [.int ((iN (G (2) ((zi) - (1)))) + (iN (G (3) ((zi) - (1))))), .int (iN (G (2) (zi)))], (78, 76), zh) : Option am_C)) rfl (by simp only [Int32.ofInt_add, Int32.ofInt_sub, Int32.ofInt_mul, Int32.ofInt_neg])) ?_
      have y_1 := q_g.2.1 2 zi (by omega) (by omega) (by omega) (by omega)
      have y_2 := q_g.2.1 2 (zi - 1) (by omega) (by omega) (by omega) (by omega)
      have y_3 := q_g.2.1 3 (zi - 1) (by omega) (by omega) (by omega) (by omega)
      have y_v := (show vmax 2 = 99 from rfl)
      have y_w := (show vmax 3 = 99 from rfl)
      refine wp_le (a := G (2) (zi)) (b := (G (2) ((zi) - (1))) + (G (3) ((zi) - (1)))) rfl (by omega) (by omega) (fun b_42 => ?_) (fun b_42 => ?_)
      · refine wp_run (k := 2) (pc1 := 11) (l1 := [(0, .ref 1), (1, .int (iN ((zi) + 1)))]) (st1 := []) (kr1 := (78, 76)) (h1 := zh) (Eq.trans (b := (some (11, [(0, .ref 1), (1, .int ((iN (zi)) + iN (1)))], [], (78, 76), zh) : Option am_C)) rfl (by simp only [Int32.ofInt_add, Int32.ofInt_sub, Int32.ofInt_mul, Int32.ofInt_neg])) ?_
        exact z_ih (zi + 1) (by omega) (fun p q1 q2 => by
          by_cases q3 : p = zi
          · rw [q3]; exact b_42
          · exact q_c p q1 (by omega)) (by omega)
      · refine wp_run (k := 1) (pc1 := 46) (l1 := [(0, .ref 1), (1, .int (iN (zi)))]) (st1 := [.int (iN (0))]) (kr1 := (78, 76)) (h1 := zh) rfl ?_
        refine wp_ret (rv := some (.int (iN (0)))) rfl ?_
        exact zk _ (if_neg (fun q => b_42 (q.2 zi (by omega) (by omega)))).symm
set_option maxRecDepth 20000 in
set_option maxHeartbeats 4000000 in
theorem jt_areCalm_1 (zd : Nat) (q_d : 2 ≤ zd) {zh : am_H} {N : Int} {G : Int → Int → Int} {S T : Int} (q_nm : zNm (zh.1 1) (zh.1 2) N G S T) (q_g : zGk N G S T) : am_wp zd am_m_Numbers_areCalm 0 [(0, .ref 1)] [] (78, 76) zh (78, 76) (fun rv h' => rv = some (.int (iN (bI (zCalm N G T) (Classical.propDecidable _)))) ∧ zh = h') := by
  obtain ⟨zd, rfl⟩ : ∃ y_e, zd = y_e + 2 := ⟨zd - 2, by omega⟩
  have q_N := q_g.1
  have q_T := q_g.2.2.2
  refine wp_run (k := 1) (pc1 := 1) (l1 := [(0, .ref 1)]) (st1 := [.ref 1]) (kr1 := (78, 76)) (h1 := zh) rfl ?_
  refine wp_call (md1 := am_m_Numbers_lateMayBe) (As := [.ref 1]) (rest := []) (kr1 := (78, 76)) rfl (jt_lateMayBe_1 _ (by omega) q_nm q_g) ?_
  rintro _ _ ⟨rfl, rfl⟩
  refine wp_eq0 (a := T) rfl (by omega) (fun b_4 => ?_) (fun b_4 => ?_)
  · refine wp_run (k := 2) (pc1 := 11) (l1 := [(0, .ref 1), (1, .int (iN (1)))]) (st1 := []) (kr1 := (78, 76)) (h1 := zh) rfl ?_
    exact jl_calm_1 _ (by omega) q_nm q_g (by omega) (fun zv q_v => ⟨by rw [q_v], rfl⟩) 17 1 (by omega) (fun p q1 q2 => by omega) (by omega)
  · refine wp_run (k := 1) (pc1 := 8) (l1 := [(0, .ref 1)]) (st1 := [.int (iN (0))]) (kr1 := (78, 76)) (h1 := zh) rfl ?_
    refine wp_ret (rv := some (.int (iN (0)))) rfl ?_
    exact ⟨by rw [show bI (zCalm N G T) (Classical.propDecidable _) = 0 from if_neg (fun q => b_4 q.1)], rfl⟩
