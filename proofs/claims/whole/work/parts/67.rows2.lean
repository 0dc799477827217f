/-! THE CLASS's methods: from, into a row; by hand as planned -/
theorem l2i_e (x : Int64) : x.toInt32 = iN x.toInt := by
  refine Int32.toInt_inj.mp ?_
  rw [Int64.toInt_toInt32]
  exact (Int32.toInt_ofInt ..).symm
/-- how many demands come: from c on -/
def zFn (N Zs p i : Int) (Y : Int → Int) : Nat → Int → Int
  | 0, c => c
  | k + 1, c => if p + c < N ∧ i + c < Zs ∧ 0 ≤ Y c ∧ Y c ≤ 99 then zFn N Zs p i Y k (c + 1) else c
theorem zFn_rg {N Zs p i : Int} {Y : Int → Int} : ∀ (k : Nat) (c : Int), c ≤ zFn N Zs p i Y k c ∧ (zFn N Zs p i Y k c = c ∨ p + zFn N Zs p i Y k c ≤ N) := by
  intro k
  induction k with
  | zero => intro c; exact ⟨Int.le_refl _, Or.inl rfl⟩
  | succ k z_ih =>
    intro c
    have y := z_ih (c + 1)
    have e1 : zFn N Zs p i Y (k + 1) c = if p + c < N ∧ i + c < Zs ∧ 0 ≤ Y c ∧ Y c ≤ 99 then zFn N Zs p i Y k (c + 1) else c := rfl
    rw [e1]
    by_cases y1 : p + c < N ∧ i + c < Zs ∧ 0 ≤ Y c ∧ Y c ≤ 99
    · rw [if_pos y1]; omega
    · rw [if_neg y1]; omega
/-- the numbers with c demands from p on -/
def zGf (G : Int → Int → Int) (p c : Int) (Y : Int → Int) : Int → Int → Int := fun w' p' => if w' = 0 ∧ p ≤ p' ∧ p' < p + c then Y (p' - p) else G w' p'
/-- how many go into a row -/
def zIn (N Zs i : Int) : Int := if Zs ≤ i then 0 else min N (Zs - i)
noncomputable def zVal (N : Int) (G : Int → Int → Int) (T w k : Int) : Int := if w = 0 then zMB G T N k else if w = 1 then zSt G (zMB G T N) k else (zWd G T (k + 1)).1
set_option maxRecDepth 20000 in
set_option maxHeartbeats 4000000 in
theorem jl_from (zd : Nat) (q_d : 3 ≤ zd) {zh : am_H} {N : Int} {G : Int → Int → Int} {S T zt zs zi zp zU : Int} {Z zY : Int → Int} (q_z : ∀ k : Int, 0 ≤ k → k < 4 → zh.1 33 k.toNat = iN (Z k) ∧ -1 ≤ Z k ∧ Z k ≤ 20) (q_s : 0 ≤ zs ∧ zs < 4) (q_ii : 0 ≤ zi ∧ zi < 2147483648) (q_p : 0 ≤ zp ∧ zp < N) (q_Y : ∀ c : Int, zY c = (zh.2 32 (20 * zs + (zi + c)).toNat).toInt) (q_N : 1 ≤ N ∧ N ≤ 16) {zQ : Option Value → am_H → Prop} (zk2 : ∀ (zg : am_H) (zK : Int → Int → Int), am_fr [1, 2] zh zg → zNm (zg.1 1) (zg.1 2) N zK S T → zGk N zK S T → zg.1 1 2 = iN (zt + zU) → (∀ w p : Int, zK w p = zGf G zp zU zY w p) → zQ (some (.int (iN zU))) zg) : ∀ (z_n : Nat) (zg : am_H) (zc : Int) (zK : Int → Int → Int) (zf : Nat) (q_fr : am_fr [1, 2] zh zg) (q_nm1 : zNm (zg.1 1) (zg.1 2) N zK S T) (q_gk : zGk N zK S T) (q_st : zg.1 1 2 = iN (zt + zc)) (q_i : 0 ≤ zc ∧ zp + zc ≤ N ∧ zp + zc + zf = N) (q_G : ∀ w p : Int, zK w p = zGf G zp zc zY w p) (q_u : zFn N (Z zs) zp zi zY zf zc = zU), N + 1 - zc < (z_n : Int) → am_wp zd am_m_Lp_from 56 [(0, .ref 0), (1, .int (iN (zs))), (2, .int (iN (zi))), (3, .int (iN (zp))), (4, .int (iN (zc)))] [] (78, 76) zg (78, 76) zQ := by
  obtain ⟨zd, rfl⟩ : ∃ y_e, zd = y_e + 3 := ⟨zd - 3, by omega⟩
  intro z_n
  induction z_n with
  | zero => intro zg zc zK zf q_fr q_nm1 q_gk q_st q_i q_G q_u q_m; omega
  | succ z_n z_ih =>
    intro zg zc zK zf q_fr q_nm1 q_gk q_st q_i q_G q_u q_m
    have y_z := (q_z zs q_s.1 q_s.2).2
    refine wp_run (k := 5) (pc1 := 64) (l1 := [(0, .ref 0), (1, .int (iN (zs))), (2, .int (iN (zi))), (3, .int (iN (zp))), (4, .int (iN (zc)))]) (st1 := [.ref 1, .int (iN ((zp) + (zc)))]) (kr1 := (78, 76)) (h1 := zg) (Eq.trans (b := (some (64, [(0, .ref 0), (1, .int (iN (zs))), (2, .int (iN (zi))), (3, .int (iN (zp))), (4, .int (iN (zc)))], [.ref 1, .int ((iN (zp)) + (iN (zc)))], (78, 76), zg) : Option am_C)) rfl (by simp only [Int32.ofInt_add, Int32.ofInt_sub, Int32.ofInt_mul, Int32.ofInt_neg])) ?_
    refine wp_call (md1 := am_m_Numbers_size) (As := [.ref 1]) (rest := [.int (iN ((zp) + (zc)))]) (kr1 := (78, 76)) rfl (jt_size_1 _ (by omega) q_nm1 q_gk) ?_
    rintro _ _ ⟨rfl, rfl⟩
    refine wp_ge (a := (zp) + (zc)) (b := N) rfl (by omega) (by omega) (fun b_67 => ?_) (fun b_67 => ?_)
    · refine wp_run (k := 1) (pc1 := 156) (l1 := [(0, .ref 0), (1, .int (iN (zs))), (2, .int (iN (zi))), (3, .int (iN (zp))), (4, .int (iN (zc)))]) (st1 := [.int (iN (zc))]) (kr1 := (78, 76)) (h1 := zg) rfl ?_
      refine wp_ret (rv := some (.int (iN (zc)))) rfl ?_
      have y_u : zc = zU := by
        rw [← q_u]
        cases zf with
        | zero => rfl
        | succ zf => exact (if_neg (by omega)).symm
      rw [y_u] at q_st q_G ⊢
      exact zk2 zg zK q_fr q_nm1 q_gk q_st q_G
    · refine wp_run (k := 4) (pc1 := 76) (l1 := [(0, .ref 0), (1, .int (iN (zs))), (2, .int (iN (zi))), (3, .int (iN (zp))), (4, .int (iN (zc)))]) (st1 := [.int (iN (zi)), .int (iN (zs)), .ref 31]) (kr1 := (78, 76)) (h1 := zg) rfl ?_
      refine wp_call (md1 := am_m_Shelves_hasPlace) (As := [.ref 31, .int (iN (zs)), .int (iN (zi))]) (rest := []) (kr1 := (78, 76)) rfl (jt_hasPlace _ (by omega) (by rw [q_fr.2 33 (by decide)]; exact q_z) (zs := zs) (zi := zi) (by omega) (by omega)) ?_
      rintro _ _ ⟨rfl, rfl⟩
      refine wp_eqb rfl (fun b_79 => ?_) (fun b_79 => ?_)
      · refine wp_run (k := 1) (pc1 := 156) (l1 := [(0, .ref 0), (1, .int (iN (zs))), (2, .int (iN (zi))), (3, .int (iN (zp))), (4, .int (iN (zc)))]) (st1 := [.int (iN (zc))]) (kr1 := (78, 76)) (h1 := zg) rfl ?_
        refine wp_ret (rv := some (.int (iN (zc)))) rfl ?_
        have y_u : zc = zU := by
          rw [← q_u]
          cases zf with
          | zero => rfl
          | succ zf => exact (if_neg (by omega)).symm
        rw [y_u] at q_st q_G ⊢
        exact zk2 zg zK q_fr q_nm1 q_gk q_st q_G
      · refine wp_run (k := 6) (pc1 := 91) (l1 := [(0, .ref 0), (1, .int (iN (zs))), (2, .int (iN (zi))), (3, .int (iN (zp))), (4, .int (iN (zc)))]) (st1 := [.int (iN ((zi) + (zc))), .int (iN (zs)), .ref 31]) (kr1 := (78, 76)) (h1 := zg) (Eq.trans (b := (some (91, [(0, .ref 0), (1, .int (iN (zs))), (2, .int (iN (zi))), (3, .int (iN (zp))), (4, .int (iN (zc)))], [.int ((iN (zi)) + (iN (zc))), .int (iN (zs)), .ref 31], (78, 76), zg) : Option am_C)) rfl (by simp only [Int32.ofInt_add, Int32.ofInt_sub, Int32.ofInt_mul, Int32.ofInt_neg])) ?_
        refine wp_call (md1 := am_m_Shelves_hasPlace) (As := [.ref 31, .int (iN (zs)), .int (iN ((zi) + (zc)))]) (rest := []) (kr1 := (78, 76)) rfl (jt_hasPlace _ (by omega) (by rw [q_fr.2 33 (by decide)]; exact q_z) (zs := zs) (zi := (zi) + (zc)) (by omega) (by omega)) ?_
        rintro _ _ ⟨rfl, rfl⟩
        refine wp_eqb rfl (fun b_94 => ?_) (fun b_94 => ?_)
        · refine wp_run (k := 1) (pc1 := 156) (l1 := [(0, .ref 0), (1, .int (iN (zs))), (2, .int (iN (zi))), (3, .int (iN (zp))), (4, .int (iN (zc)))]) (st1 := [.int (iN (zc))]) (kr1 := (78, 76)) (h1 := zg) rfl ?_
          refine wp_ret (rv := some (.int (iN (zc)))) rfl ?_
          have y_u : zc = zU := by
            rw [← q_u]
            cases zf with
            | zero => rfl
            | succ zf => exact (if_neg (by omega)).symm
          rw [y_u] at q_st q_G ⊢
          exact zk2 zg zK q_fr q_nm1 q_gk q_st q_G
        · refine wp_run (k := 6) (pc1 := 106) (l1 := [(0, .ref 0), (1, .int (iN (zs))), (2, .int (iN (zi))), (3, .int (iN (zp))), (4, .int (iN (zc)))]) (st1 := [.int (iN ((zi) + (zc))), .int (iN (zs)), .ref 31]) (kr1 := (78, 76)) (h1 := zg) (Eq.trans (b := (some (106, [(0, .ref 0), (1, .int (iN (zs))), (2, .int (iN (zi))), (3, .int (iN (zp))), (4, .int (iN (zc)))], [.int ((iN (zi)) + (iN (zc))), .int (iN (zs)), .ref 31], (78, 76), zg) : Option am_C)) rfl (by simp only [Int32.ofInt_add, Int32.ofInt_sub, Int32.ofInt_mul, Int32.ofInt_neg])) ?_
          refine wp_call (md1 := am_m_Shelves_value) (As := [.ref 31, .int (iN (zs)), .int (iN ((zi) + (zc)))]) (rest := []) (kr1 := (78, 76)) rfl (jt_rvalue (zs := zs) (zi := (zi) + (zc)) _ (by omega) (by omega) (by omega)) ?_
          rintro _ _ ⟨rfl, rfl⟩
          obtain ⟨zx, y_xe, y_x⟩ : ∃ zx : Int64, zg.2 32 (20 * zs + ((zi) + (zc)) : Int).toNat = zx ∧ zx.toInt = zY zc := ⟨_, rfl, by rw [q_fr.1]; exact (q_Y zc).symm⟩
          rw [y_xe]
          refine wp_run (k := 4) (pc1 := 115) (l1 := [(0, .ref 0), (1, .int (iN (zs))), (2, .int (iN (zi))), (3, .int (iN (zp))), (4, .int (iN (zc))), (5, .long (zx))]) (st1 := [.int (lg_cmp (zx) (Int64.ofNat 0))]) (kr1 := (78, 76)) (h1 := zg) rfl ?_
          refine wp_clt y_x (show (Int64.ofNat 0).toInt = 0 by decide) rfl (fun b_115 => ?_) (fun b_115 => ?_)
          · refine wp_run (k := 1) (pc1 := 156) (l1 := [(0, .ref 0), (1, .int (iN (zs))), (2, .int (iN (zi))), (3, .int (iN (zp))), (4, .int (iN (zc))), (5, .long (zx))]) (st1 := [.int (iN (zc))]) (kr1 := (78, 76)) (h1 := zg) rfl ?_
            refine wp_ret (rv := some (.int (iN (zc)))) rfl ?_
            have y_u : zc = zU := by
              rw [← q_u]
              cases zf with
              | zero => rfl
              | succ zf => exact (if_neg (by omega)).symm
            rw [y_u] at q_st q_G ⊢
            exact zk2 zg zK q_fr q_nm1 q_gk q_st q_G
          · refine wp_run (k := 3) (pc1 := 124) (l1 := [(0, .ref 0), (1, .int (iN (zs))), (2, .int (iN (zi))), (3, .int (iN (zp))), (4, .int (iN (zc))), (5, .long (zx))]) (st1 := [.int (iN (0)), .ref 1041, .long (zx)]) (kr1 := (78, 76)) (h1 := zg) rfl ?_
            refine wp_iald  (z := 0) (j := 0) (n := 6) (v := iN (99)) rfl rfl (by omega) (by decide) (by decide) ((by decide)) ?_
            refine wp_run (k := 2) (pc1 := 127) (l1 := [(0, .ref 0), (1, .int (iN (zs))), (2, .int (iN (zi))), (3, .int (iN (zp))), (4, .int (iN (zc))), (5, .long (zx))]) (st1 := [.int (lg_cmp (zx) ((iN (99)).toInt64))]) (kr1 := (78, 76)) (h1 := zg) rfl ?_
            refine wp_cle y_x (show (iN 99).toInt64.toInt = 99 by decide) rfl (fun b_127 => ?_) (fun b_127 => ?_)
            · refine wp_run (k := 8) (pc1 := 145) (l1 := [(0, .ref 0), (1, .int (iN (zs))), (2, .int (iN (zi))), (3, .int (iN (zp))), (4, .int (iN (zc))), (5, .long (zx))]) (st1 := [.int ((zx).toInt32), .int (iN (0)), .int (iN ((zp) + (zc))), .ref 1]) (kr1 := (78, 76)) (h1 := zg) (Eq.trans (b := (some (145, [(0, .ref 0), (1, .int (iN (zs))), (2, .int (iN (zi))), (3, .int (iN (zp))), (4, .int (iN (zc))), (5, .long (zx))], [.int ((zx).toInt32), .int (iN (0)), .int ((iN (zp)) + (iN (zc))), .ref 1], (78, 76), zg) : Option am_C)) rfl (by simp only [Int32.ofInt_add, Int32.ofInt_sub, Int32.ofInt_mul, Int32.ofInt_neg])) ?_
              rw [show zx.toInt32 = iN (zY zc) from by rw [l2i_e, y_x]]
              refine wp_call (md1 := am_m_Numbers_become) (As := [.ref 1, .int (iN ((zp) + (zc))), .int (iN (0)), .int (iN (zY zc))]) (rest := []) (kr1 := (78, 76)) rfl (jt_become_1 (zs := zt + zc) _ (by omega) q_nm1 q_gk (zp := (zp) + (zc)) (zw := 0) (zv := zY zc) (by omega) (by omega) q_st) ?_
              rintro _ _ ⟨rfl, fo, fc, rfl, q_n2, q_s2⟩
              refine wp_run (k := 2) (pc1 := 56) (l1 := [(0, .ref 0), (1, .int (iN (zs))), (2, .int (iN (zi))), (3, .int (iN (zp))), (4, .int (iN ((zc) + 1))), (5, .long (zx))]) (st1 := []) (kr1 := (78, 76)) (h1 := am_row (am_row zg 2 fc) 1 fo) (Eq.trans (b := (some (56, [(0, .ref 0), (1, .int (iN (zs))), (2, .int (iN (zi))), (3, .int (iN (zp))), (4, .int ((iN (zc)) + iN (1))), (5, .long (zx))], [], (78, 76), am_row (am_row zg 2 fc) 1 fo) : Option am_C)) rfl (by simp only [Int32.ofInt_add, Int32.ofInt_sub, Int32.ofInt_mul, Int32.ofInt_neg])) ?_
              refine wp_drop [5] (l := [(0, .ref 0), (1, .int (iN (zs))), (2, .int (iN (zi))), (3, .int (iN (zp))), (4, .int (iN ((zc) + 1)))]) rfl rfl ?_
              obtain ⟨zf1, y_k⟩ : ∃ y, zf = y + 1 := ⟨zf - 1, by omega⟩
              subst y_k
              refine z_ih (am_row (am_row zg 2 fc) 1 fo) (zc + 1) (zG1 zK 0 (zp + zc) (zY zc)) zf1 (am_fr_r (am_fr_r q_fr (by decide) _) (by decide) _) ?_ (zGk_up q_gk (by rw [show vmax 0 = 99 from rfl]; omega)) ?_ (by omega) ?_ ?_ (by omega)
              · rw [am_row_s, am_row_n _ _ _ (by decide), am_row_s]; exact q_n2
              · rw [am_row_s, q_s2]; exact congrArg iN (by omega)
              · intro w p
                unfold zG1 zGf
                by_cases y1 : w = 0 ∧ p = zp + zc
                · rw [if_pos y1, if_pos (by omega)]; exact congrArg zY (by omega)
                · rw [if_neg y1, q_G w p]
                  unfold zGf
                  by_cases y2 : w = 0 ∧ zp ≤ p ∧ p < zp + zc
                  · rw [if_pos y2, if_pos (by omega)]
                  · rw [if_neg y2, if_neg (by omega)]
              · rw [← q_u]
                exact (if_pos (show zp + zc < N ∧ zi + zc < Z zs ∧ 0 ≤ zY zc ∧ zY zc ≤ 99 by omega)).symm
            · refine wp_run (k := 2) (pc1 := 156) (l1 := [(0, .ref 0), (1, .int (iN (zs))), (2, .int (iN (zi))), (3, .int (iN (zp))), (4, .int (iN (zc))), (5, .long (zx))]) (st1 := [.int (iN (zc))]) (kr1 := (78, 76)) (h1 := zg) rfl ?_
              refine wp_ret (rv := some (.int (iN (zc)))) rfl ?_
              have y_u : zc = zU := by
                rw [← q_u]
                cases zf with
                | zero => rfl
                | succ zf => exact (if_neg (by omega)).symm
              rw [y_u] at q_st q_G ⊢
              exact zk2 zg zK q_fr q_nm1 q_gk q_st q_G
set_option maxRecDepth 20000 in
set_option maxHeartbeats 4000000 in
theorem jL_from (zd : Nat) (q_d : 5 ≤ zd) {zh : am_H} {N : Int} {G : Int → Int → Int} {S T zu zs0 zs zi zp : Int} {Z : Int → Int} (q_nm : zNm (zh.1 1) (zh.1 2) N G S T) (q_g : zGk N G S T) (q_u : zh.1 25 1 = iN zu) (q_ur : 0 ≤ zu ∧ zu ≤ 12) (q_s : zh.1 1 2 = iN zs0) (q_z : ∀ k : Int, 0 ≤ k → k < 4 → zh.1 33 k.toNat = iN (Z k) ∧ -1 ≤ Z k ∧ Z k ≤ 20) (q_zsr : -2147483648 ≤ zs ∧ zs < 2147483648) (q_zir : -2147483648 ≤ zi ∧ zi < 2147483648) (q_zpr : -2147483648 ≤ zp ∧ zp < 2147483648) : am_wp zd am_m_Lp_from 0 [(0, .ref 0), (1, .int (iN (zs))), (2, .int (iN (zi))), (3, .int (iN (zp)))] [] (78, 76) zh (78, 76) (fun rv h' => ((0 ≤ zs ∧ zs < 4 ∧ 0 ≤ zp ∧ zp < N ∧ 0 ≤ Z zs ∧ 0 ≤ zi) → rv = some (.int (iN (zFn N (Z zs) zp zi (fun c => (zh.2 32 (20 * zs + (zi + c)).toNat).toInt) (N - zp).toNat 0))) ∧ am_fr [1, 2, 25, 26] zh h' ∧ zNtd zh zu h' ∧ zNm (h'.1 1) (h'.1 2) N (zGf G zp (zFn N (Z zs) zp zi (fun c => (zh.2 32 (20 * zs + (zi + c)).toNat).toInt) (N - zp).toNat 0) (fun c => (zh.2 32 (20 * zs + (zi + c)).toNat).toInt)) S T ∧ zGk N (zGf G zp (zFn N (Z zs) zp zi (fun c => (zh.2 32 (20 * zs + (zi + c)).toNat).toInt) (N - zp).toNat 0) (fun c => (zh.2 32 (20 * zs + (zi + c)).toNat).toInt)) S T ∧ h'.1 1 2 = iN (zs0 + (zFn N (Z zs) zp zi (fun c => (zh.2 32 (20 * zs + (zi + c)).toNat).toInt) (N - zp).toNat 0))) ∧ (¬ (0 ≤ zs ∧ zs < 4 ∧ 0 ≤ zp ∧ zp < N ∧ 0 ≤ Z zs ∧ 0 ≤ zi) → rv = some (.int (iN (if ¬ (0 ≤ zs ∧ zs < 4) ∨ ¬ (0 ≤ zp ∧ zp < N) then -1 else if Z zs < 0 then -11 else -13))) ∧ zh = h')) := by
  obtain ⟨zd, rfl⟩ : ∃ y_e, zd = y_e + 5 := ⟨zd - 5, by omega⟩
  have q_N := q_g.1
  have y_z : 0 ≤ zs → zs < 4 → -1 ≤ Z zs ∧ Z zs ≤ 20 := fun y1 y2 => (q_z zs y1 y2).2
  refine wp_run (k := 2) (pc1 := 2) (l1 := [(0, .ref 0), (1, .int (iN (zs))), (2, .int (iN (zi))), (3, .int (iN (zp)))]) (st1 := [.int (iN (4)), .int (iN (zs))]) (kr1 := (78, 76)) (h1 := zh) rfl ?_
  refine wp_call (md1 := am_m_Lp_inside) (As := [.int (iN (zs)), .int (iN (4))]) (rest := []) (kr1 := (78, 76)) rfl (jt_inside _ (by omega) (zi := zs) (ze := 4) (by omega) (by omega)) ?_
  rintro _ _ ⟨rfl, rfl⟩
  refine wp_eqb rfl (fun b_5 => ?_) (fun b_5 => ?_)
  · refine wp_run (k := 1) (pc1 := 20) (l1 := [(0, .ref 0), (1, .int (iN (zs))), (2, .int (iN (zi))), (3, .int (iN (zp)))]) (st1 := [.int (iN (-1))]) (kr1 := (78, 76)) (h1 := zh) rfl ?_
    refine wp_ret (rv := some (.int (iN (-1)))) rfl ?_
    refine ⟨fun y => by omega, fun _ => ⟨?_, rfl⟩⟩
    rw [show (if ¬ (0 ≤ zs ∧ zs < 4) ∨ ¬ (0 ≤ zp ∧ zp < N) then -1 else if Z zs < 0 then -11 else -13) = -1 from ?_]
    (repeat' split) <;> first | rfl | omega | contradiction | (exfalso; omega) | (exfalso; rename_i y_x; exact absurd y_x.2.1 (by assumption)) | (exfalso; rename_i y_x; exact y_x ⟨by omega, by assumption, by omega⟩)
  · refine wp_run (k := 3) (pc1 := 13) (l1 := [(0, .ref 0), (1, .int (iN (zs))), (2, .int (iN (zi))), (3, .int (iN (zp)))]) (st1 := [.int (iN (zp)), .ref 1]) (kr1 := (78, 76)) (h1 := zh) rfl ?_
    refine wp_call (md1 := am_m_Numbers_has) (As := [.ref 1, .int (iN (zp))]) (rest := []) (kr1 := (78, 76)) rfl (jt_has_1 _ (by omega) q_nm q_g (zp := zp) (by omega)) ?_
    rintro _ _ ⟨rfl, rfl⟩
    refine wp_neb rfl (fun b_16 => ?_) (fun b_16 => ?_)
    · refine wp_run (k := 3) (pc1 := 26) (l1 := [(0, .ref 0), (1, .int (iN (zs))), (2, .int (iN (zi))), (3, .int (iN (zp)))]) (st1 := [.int (iN (zs)), .ref 31]) (kr1 := (78, 76)) (h1 := zh) rfl ?_
      refine wp_call (md1 := am_m_Shelves_holds) (As := [.ref 31, .int (iN (zs))]) (rest := []) (kr1 := (78, 76)) rfl (jt_holds _ (by omega) q_z (zs := zs) (by omega)) ?_
      rintro _ _ ⟨rfl, rfl⟩
      refine wp_neb rfl (fun b_29 => ?_) (fun b_29 => ?_)
      · refine wp_run (k := 1) (pc1 := 36) (l1 := [(0, .ref 0), (1, .int (iN (zs))), (2, .int (iN (zi))), (3, .int (iN (zp)))]) (st1 := [.int (iN (zi))]) (kr1 := (78, 76)) (h1 := zh) rfl ?_
        refine wp_ge0 (a := zi) rfl (by omega) (fun b_36 => ?_) (fun b_36 => ?_)
        · refine wp_run (k := 4) (pc1 := 50) (l1 := [(0, .ref 0), (1, .int (iN (zs))), (2, .int (iN (zi))), (3, .int (iN (zp)))]) (st1 := [.ref 1, .ref 25]) (kr1 := (78, 76)) (h1 := zh) rfl ?_
          refine wp_call (md1 := am_m_Changes_note) (As := [.ref 25, .ref 1]) (rest := []) (kr1 := (78, 76)) rfl (jt_note _ (by omega) q_u q_ur) ?_
          rintro _ zg1 ⟨rfl, q_not⟩
          obtain ⟨q_f1, q_nt1⟩ := zNot_c q_not
          have q_nm1 := zNm_f q_f1 q_nm (by decide) (by decide)
          have q_s1 := (congrFun (q_f1.2 1 (by decide)) 2).trans q_s
          refine wp_run (k := 2) (pc1 := 56) (l1 := [(0, .ref 0), (1, .int (iN (zs))), (2, .int (iN (zi))), (3, .int (iN (zp))), (4, .int (iN (0)))]) (st1 := []) (kr1 := (78, 76)) (h1 := zg1) rfl ?_
          have y_u := zFn_rg (N := N) (Zs := Z zs) (p := zp) (i := zi) (Y := (fun c => (zh.2 32 (20 * zs + (zi + c)).toNat).toInt)) (N - zp).toNat 0
          refine jl_from (zh := zg1) (G := G) (zt := zs0) (zY := (fun c => (zh.2 32 (20 * zs + (zi + c)).toNat).toInt)) _ (by omega) (by rw [q_f1.2 33 (by decide)]; exact q_z) (by omega) (by omega) (by omega) (fun c => by rw [q_f1.1]) q_N (fun zg zK y1 y2 y3 y4 y5 => ⟨fun _ => ⟨rfl, am_fr_t (am_fr_m q_f1 (fun c y => by simp only [List.mem_cons, List.not_mem_nil, or_false] at y ⊢; omega)) (am_fr_m y1 (fun c y => by simp only [List.mem_cons, List.not_mem_nil, or_false] at y ⊢; omega)), zNtd_f y1 (by decide) (by decide) q_nt1, zNm_eq y2 (fun w p z1 z2 z3 z4 => y5 w p), ⟨y3.1, fun w p z1 z2 z3 z4 => by rw [← y5 w p]; exact y3.2.1 w p z1 z2 z3 z4, y3.2.2⟩, y4⟩, fun y => by omega⟩) 18 zg1 0 G (N - zp).toNat (am_fr_0 _ _) q_nm1 q_g (by rw [q_s1]; exact congrArg iN (by omega)) (by omega) (fun w p => (if_neg (by omega)).symm) rfl (by omega)
        · refine wp_run (k := 1) (pc1 := 41) (l1 := [(0, .ref 0), (1, .int (iN (zs))), (2, .int (iN (zi))), (3, .int (iN (zp)))]) (st1 := [.int (iN (-13))]) (kr1 := (78, 76)) (h1 := zh) rfl ?_
          refine wp_ret (rv := some (.int (iN (-13)))) rfl ?_
          refine ⟨fun y => by omega, fun _ => ⟨?_, rfl⟩⟩
          rw [show (if ¬ (0 ≤ zs ∧ zs < 4) ∨ ¬ (0 ≤ zp ∧ zp < N) then -1 else if Z zs < 0 then -11 else -13) = -13 from ?_]
          (repeat' split) <;> first | rfl | omega | contradiction | (exfalso; omega) | (exfalso; rename_i y_x; exact absurd y_x.2.1 (by assumption)) | (exfalso; rename_i y_x; exact y_x ⟨by omega, by assumption, by omega⟩)
      · refine wp_run (k := 1) (pc1 := 34) (l1 := [(0, .ref 0), (1, .int (iN (zs))), (2, .int (iN (zi))), (3, .int (iN (zp)))]) (st1 := [.int (iN (-11))]) (kr1 := (78, 76)) (h1 := zh) rfl ?_
        refine wp_ret (rv := some (.int (iN (-11)))) rfl ?_
        refine ⟨fun y => by omega, fun _ => ⟨?_, rfl⟩⟩
        rw [show (if ¬ (0 ≤ zs ∧ zs < 4) ∨ ¬ (0 ≤ zp ∧ zp < N) then -1 else if Z zs < 0 then -11 else -13) = -11 from ?_]
        (repeat' split) <;> first | rfl | omega | contradiction | (exfalso; omega) | (exfalso; rename_i y_x; exact absurd y_x.2.1 (by assumption)) | (exfalso; rename_i y_x; exact y_x ⟨by omega, by assumption, by omega⟩)
    · refine wp_run (k := 1) (pc1 := 20) (l1 := [(0, .ref 0), (1, .int (iN (zs))), (2, .int (iN (zi))), (3, .int (iN (zp)))]) (st1 := [.int (iN (-1))]) (kr1 := (78, 76)) (h1 := zh) rfl ?_
      refine wp_ret (rv := some (.int (iN (-1)))) rfl ?_
      refine ⟨fun y => by omega, fun _ => ⟨?_, rfl⟩⟩
      rw [show (if ¬ (0 ≤ zs ∧ zs < 4) ∨ ¬ (0 ≤ zp ∧ zp < N) then -1 else if Z zs < 0 then -11 else -13) = -1 from ?_]
      (repeat' split) <;> first | rfl | omega | contradiction | (exfalso; omega) | (exfalso; rename_i y_x; exact absurd y_x.2.1 (by assumption)) | (exfalso; rename_i y_x; exact y_x ⟨by omega, by assumption, by omega⟩)
set_option maxRecDepth 20000 in
set_option maxHeartbeats 4000000 in
theorem jl_into (zd : Nat) (q_d : 3 ≤ zd) {zh : am_H} {N : Int} {G : Int → Int → Int} {S T zs zi zw : Int} {Z : Int → Int} (q_nm : zNm (zh.1 1) (zh.1 2) N G S T) (q_g : zGk N G S T) (q_z : ∀ k : Int, 0 ≤ k → k < 4 → zh.1 33 k.toNat = iN (Z k) ∧ -1 ≤ Z k ∧ Z k ≤ 20) (q_pl : zPlan_3 zh N G T) (q_s : 0 ≤ zs ∧ zs < 4) (q_ii : 0 ≤ zi ∧ zi < 2147483648) (q_ww : 0 ≤ zw ∧ zw ≤ 2) {zQ : Option Value → am_H → Prop} (zk2 : ∀ zg : am_H, zF2 32 zh zg → (∀ j : Nat, zg.2 32 j = if 20 * zs + zi ≤ (j : Int) ∧ (j : Int) < 20 * zs + zi + zIn N (Z zs) zi then (iN (zVal N G T zw ((j : Int) - 20 * zs - zi))).toInt64 else zh.2 32 j) → zQ (some (.int (iN (zIn N (Z zs) zi)))) zg) : ∀ (z_n : Nat) (zg : am_H) (zc : Int) (q_f : zF2 32 zh zg) (q_i : 0 ≤ zc ∧ zc ≤ N ∧ (zc = 0 ∨ zi + zc ≤ Z zs)) (q_w : ∀ j : Nat, zg.2 32 j = if 20 * zs + zi ≤ (j : Int) ∧ (j : Int) < 20 * zs + zi + zc then (iN (zVal N G T zw ((j : Int) - 20 * zs - zi))).toInt64 else zh.2 32 j), N + 1 - zc < (z_n : Int) → am_wp zd am_m_Lp_into 49 [(0, .ref 0), (1, .int (iN (zs))), (2, .int (iN (zi))), (3, .int (iN (zw))), (4, .ref 3), (5, .int (iN (zc)))] [] (78, 76) zg (78, 76) zQ := by
  obtain ⟨zd, rfl⟩ : ∃ y_e, zd = y_e + 3 := ⟨zd - 3, by omega⟩
  intro z_n
  induction z_n with
  | zero => intro zg zc q_f q_i q_w q_m; omega
  | succ z_n z_ih =>
    intro zg zc q_f q_i q_w q_m
    have q_N := q_g.1
    have q_tk := zTook_k q_pl.2.1
    have y_z := (q_z zs q_s.1 q_s.2).2
    refine wp_run (k := 3) (pc1 := 55) (l1 := [(0, .ref 0), (1, .int (iN (zs))), (2, .int (iN (zi))), (3, .int (iN (zw))), (4, .ref 3), (5, .int (iN (zc)))]) (st1 := [.ref 1, .int (iN (zc))]) (kr1 := (78, 76)) (h1 := zg) rfl ?_
    refine wp_call (md1 := am_m_Numbers_size) (As := [.ref 1]) (rest := [.int (iN (zc))]) (kr1 := (78, 76)) rfl (jt_size_1 _ (by omega) (by rw [q_f.1]; exact q_nm) q_g) ?_
    rintro _ _ ⟨rfl, rfl⟩
    refine wp_ge (a := zc) (b := N) rfl (by omega) (by omega) (fun b_58 => ?_) (fun b_58 => ?_)
    · refine wp_run (k := 1) (pc1 := 151) (l1 := [(0, .ref 0), (1, .int (iN (zs))), (2, .int (iN (zi))), (3, .int (iN (zw))), (4, .ref 3), (5, .int (iN (zc)))]) (st1 := [.int (iN (zc))]) (kr1 := (78, 76)) (h1 := zg) rfl ?_
      refine wp_ret (rv := some (.int (iN (zc)))) rfl ?_
      have y_c : zc = zIn N (Z zs) zi := by unfold zIn; split <;> omega
      rw [y_c] at q_w ⊢
      exact zk2 zg q_f q_w
    · refine wp_run (k := 4) (pc1 := 67) (l1 := [(0, .ref 0), (1, .int (iN (zs))), (2, .int (iN (zi))), (3, .int (iN (zw))), (4, .ref 3), (5, .int (iN (zc)))]) (st1 := [.int (iN (zi)), .int (iN (zs)), .ref 31]) (kr1 := (78, 76)) (h1 := zg) rfl ?_
      refine wp_call (md1 := am_m_Shelves_hasPlace) (As := [.ref 31, .int (iN (zs)), .int (iN (zi))]) (rest := []) (kr1 := (78, 76)) rfl (jt_hasPlace _ (by omega) (by rw [q_f.1]; exact q_z) (zs := zs) (zi := zi) (by omega) (by omega)) ?_
      rintro _ _ ⟨rfl, rfl⟩
      refine wp_eqb rfl (fun b_70 => ?_) (fun b_70 => ?_)
      · refine wp_run (k := 1) (pc1 := 151) (l1 := [(0, .ref 0), (1, .int (iN (zs))), (2, .int (iN (zi))), (3, .int (iN (zw))), (4, .ref 3), (5, .int (iN (zc)))]) (st1 := [.int (iN (zc))]) (kr1 := (78, 76)) (h1 := zg) rfl ?_
        refine wp_ret (rv := some (.int (iN (zc)))) rfl ?_
        have y_c : zc = zIn N (Z zs) zi := by unfold zIn; split <;> omega
        rw [y_c] at q_w ⊢
        exact zk2 zg q_f q_w
      · refine wp_run (k := 6) (pc1 := 82) (l1 := [(0, .ref 0), (1, .int (iN (zs))), (2, .int (iN (zi))), (3, .int (iN (zw))), (4, .ref 3), (5, .int (iN (zc)))]) (st1 := [.int (iN ((zi) + (zc))), .int (iN (zs)), .ref 31]) (kr1 := (78, 76)) (h1 := zg) (Eq.trans (b := (some (82, [(0, .ref 0), (1, .int (iN (zs))), (2, .int (iN (zi))), (3, .int (iN (zw))), (4, .ref 3), (5, .int (iN (zc)))], [.int ((iN (zi)) + (iN (zc))), .int (iN (zs)), .ref 31], (78, 76), zg) : Option am_C)) rfl (by simp only [Int32.ofInt_add, Int32.ofInt_sub, Int32.ofInt_mul, Int32.ofInt_neg])) ?_
        refine wp_call (md1 := am_m_Shelves_hasPlace) (As := [.ref 31, .int (iN (zs)), .int (iN ((zi) + (zc)))]) (rest := []) (kr1 := (78, 76)) rfl (jt_hasPlace _ (by omega) (by rw [q_f.1]; exact q_z) (zs := zs) (zi := (zi) + (zc)) (by omega) (by omega)) ?_
        rintro _ _ ⟨rfl, rfl⟩
        refine wp_eqb rfl (fun b_85 => ?_) (fun b_85 => ?_)
        · refine wp_run (k := 1) (pc1 := 151) (l1 := [(0, .ref 0), (1, .int (iN (zs))), (2, .int (iN (zi))), (3, .int (iN (zw))), (4, .ref 3), (5, .int (iN (zc)))]) (st1 := [.int (iN (zc))]) (kr1 := (78, 76)) (h1 := zg) rfl ?_
          refine wp_ret (rv := some (.int (iN (zc)))) rfl ?_
          have y_c : zc = zIn N (Z zs) zi := by unfold zIn; split <;> omega
          rw [y_c] at q_w ⊢
          exact zk2 zg q_f q_w
        · refine wp_run (k := 1) (pc1 := 89) (l1 := [(0, .ref 0), (1, .int (iN (zs))), (2, .int (iN (zi))), (3, .int (iN (zw))), (4, .ref 3), (5, .int (iN (zc)))]) (st1 := [.int (iN (zw))]) (kr1 := (78, 76)) (h1 := zg) rfl ?_
          refine wp_ne0 (a := zw) rfl (by omega) (fun b_89 => ?_) (fun b_89 => ?_)
          · refine wp_run (k := 2) (pc1 := 104) (l1 := [(0, .ref 0), (1, .int (iN (zs))), (2, .int (iN (zi))), (3, .int (iN (zw))), (4, .ref 3), (5, .int (iN (zc)))]) (st1 := [.int (iN (1)), .int (iN (zw))]) (kr1 := (78, 76)) (h1 := zg) rfl ?_
            refine wp_ne (a := zw) (b := 1) rfl (by omega) (by omega) (fun b_104 => ?_) (fun b_104 => ?_)
            · refine wp_run (k := 4) (pc1 := 123) (l1 := [(0, .ref 0), (1, .int (iN (zs))), (2, .int (iN (zi))), (3, .int (iN (zw))), (4, .ref 3), (5, .int (iN (zc)))]) (st1 := [.int (iN ((zc) + (1))), .ref 3]) (kr1 := (78, 76)) (h1 := zg) (Eq.trans (b := (some (123, [(0, .ref 0), (1, .int (iN (zs))), (2, .int (iN (zi))), (3, .int (iN (zw))), (4, .ref 3), (5, .int (iN (zc)))], [.int ((iN (zc)) + (iN (1))), .ref 3], (78, 76), zg) : Option am_C)) rfl (by simp only [Int32.ofInt_add, Int32.ofInt_sub, Int32.ofInt_mul, Int32.ofInt_neg])) ?_
              refine wp_call (md1 := am_m_Plan_forwardCost) (As := [.ref 3, .int (iN ((zc) + (1)))]) (rest := []) (kr1 := (78, 76)) rfl (jg_Plan_forwardCost_3 _ (by omega) (zp := zc + 1) (by omega) (by rw [q_f.1]; exact (q_pl.2.2.2.2 (zc + 1) (by omega) (by omega)).1)) ?_
              rintro _ _ ⟨rfl, rfl⟩
              rw [show (zWd G T (zc + 1)).1 = zVal N G T zw zc from by unfold zVal; rw [if_neg (by omega), if_neg (by omega)]]
              refine wp_run (k := 9) (pc1 := 140) (l1 := [(0, .ref 0), (1, .int (iN (zs))), (2, .int (iN (zi))), (3, .int (iN (zw))), (4, .ref 3), (5, .int (iN (zc))), (6, .int (iN (zVal N G T zw zc)))]) (st1 := [.long ((iN (zVal N G T zw zc)).toInt64), .int (iN ((zi) + (zc))), .int (iN (zs)), .ref 31]) (kr1 := (78, 76)) (h1 := zg) (Eq.trans (b := (some (140, [(0, .ref 0), (1, .int (iN (zs))), (2, .int (iN (zi))), (3, .int (iN (zw))), (4, .ref 3), (5, .int (iN (zc))), (6, .int (iN (zVal N G T zw zc)))], [.long ((iN (zVal N G T zw zc)).toInt64), .int ((iN (zi)) + (iN (zc))), .int (iN (zs)), .ref 31], (78, 76), zg) : Option am_C)) rfl (by simp only [Int32.ofInt_add, Int32.ofInt_sub, Int32.ofInt_mul, Int32.ofInt_neg])) ?_
              refine wp_call (md1 := am_m_Shelves_store) (As := [.ref 31, .int (iN (zs)), .int (iN ((zi) + (zc))), .long ((iN (zVal N G T zw zc)).toInt64)]) (rest := []) (kr1 := (78, 76)) rfl (jt_rstore (zh := zg) (zs := zs) (zi := zi + zc) (zx := (iN (zVal N G T zw zc)).toInt64) _ (by omega) (by omega) (by omega)) ?_
              rintro _ _ ⟨rfl, rfl⟩
              refine wp_run (k := 2) (pc1 := 49) (l1 := [(0, .ref 0), (1, .int (iN (zs))), (2, .int (iN (zi))), (3, .int (iN (zw))), (4, .ref 3), (5, .int (iN ((zc) + 1))), (6, .int (iN (zVal N G T zw zc)))]) (st1 := []) (kr1 := (78, 76)) (h1 := am_wl zg 32 (20 * zs + (zi + zc) : Int).toNat ((iN (zVal N G T zw zc)).toInt64)) (Eq.trans (b := (some (49, [(0, .ref 0), (1, .int (iN (zs))), (2, .int (iN (zi))), (3, .int (iN (zw))), (4, .ref 3), (5, .int ((iN (zc)) + iN (1))), (6, .int (iN (zVal N G T zw zc)))], [], (78, 76), am_wl zg 32 (20 * zs + (zi + zc) : Int).toNat ((iN (zVal N G T zw zc)).toInt64)) : Option am_C)) rfl (by simp only [Int32.ofInt_add, Int32.ofInt_sub, Int32.ofInt_mul, Int32.ofInt_neg])) ?_
              refine wp_drop [6] (l := [(0, .ref 0), (1, .int (iN (zs))), (2, .int (iN (zi))), (3, .int (iN (zw))), (4, .ref 3), (5, .int (iN ((zc) + 1)))]) rfl rfl ?_
              refine z_ih (am_wl zg 32 (20 * zs + (zi + zc) : Int).toNat ((iN (zVal N G T zw zc)).toInt64)) (zc + 1) (zF2_w q_f _ _) (by omega) (fun j => ?_) (by omega)
              by_cases y1 : j = (20 * zs + (zi + zc)).toNat
              · subst y1; rw [am_wl_at, if_pos (by omega), show ((20 * zs + (zi + zc)).toNat : Int) - 20 * zs - zi = zc by omega]
              · rw [am_wl_no _ _ _ y1, q_w j]
                by_cases y2 : 20 * zs + zi ≤ (j : Int) ∧ (j : Int) < 20 * zs + zi + zc
                · rw [if_pos y2, if_pos (by omega)]
                · rw [if_neg y2, if_neg (by omega)]
            · refine wp_run (k := 2) (pc1 := 111) (l1 := [(0, .ref 0), (1, .int (iN (zs))), (2, .int (iN (zi))), (3, .int (iN (zw))), (4, .ref 3), (5, .int (iN (zc)))]) (st1 := [.int (iN (zc)), .ref 3]) (kr1 := (78, 76)) (h1 := zg) rfl ?_
              refine wp_call (md1 := am_m_Plan_stock) (As := [.ref 3, .int (iN (zc))]) (rest := []) (kr1 := (78, 76)) rfl (jg_Plan_stock_3 _ (by omega) (zp := zc) (by omega) (by rw [q_f.1]; exact q_tk.2.2.2.2 zc (by omega) (by omega))) ?_
              rintro _ _ ⟨rfl, rfl⟩
              rw [show zSt G (zMB G T N) zc = zVal N G T zw zc from by unfold zVal; rw [if_neg (by omega), if_pos (by omega)]]
              refine wp_run (k := 10) (pc1 := 140) (l1 := [(0, .ref 0), (1, .int (iN (zs))), (2, .int (iN (zi))), (3, .int (iN (zw))), (4, .ref 3), (5, .int (iN (zc))), (6, .int (iN (zVal N G T zw zc)))]) (st1 := [.long ((iN (zVal N G T zw zc)).toInt64), .int (iN ((zi) + (zc))), .int (iN (zs)), .ref 31]) (kr1 := (78, 76)) (h1 := zg) (Eq.trans (b := (some (140, [(0, .ref 0), (1, .int (iN (zs))), (2, .int (iN (zi))), (3, .int (iN (zw))), (4, .ref 3), (5, .int (iN (zc))), (6, .int (iN (zVal N G T zw zc)))], [.long ((iN (zVal N G T zw zc)).toInt64), .int ((iN (zi)) + (iN (zc))), .int (iN (zs)), .ref 31], (78, 76), zg) : Option am_C)) rfl (by simp only [Int32.ofInt_add, Int32.ofInt_sub, Int32.ofInt_mul, Int32.ofInt_neg])) ?_
              refine wp_call (md1 := am_m_Shelves_store) (As := [.ref 31, .int (iN (zs)), .int (iN ((zi) + (zc))), .long ((iN (zVal N G T zw zc)).toInt64)]) (rest := []) (kr1 := (78, 76)) rfl (jt_rstore (zh := zg) (zs := zs) (zi := zi + zc) (zx := (iN (zVal N G T zw zc)).toInt64) _ (by omega) (by omega) (by omega)) ?_
              rintro _ _ ⟨rfl, rfl⟩
              refine wp_run (k := 2) (pc1 := 49) (l1 := [(0, .ref 0), (1, .int (iN (zs))), (2, .int (iN (zi))), (3, .int (iN (zw))), (4, .ref 3), (5, .int (iN ((zc) + 1))), (6, .int (iN (zVal N G T zw zc)))]) (st1 := []) (kr1 := (78, 76)) (h1 := am_wl zg 32 (20 * zs + (zi + zc) : Int).toNat ((iN (zVal N G T zw zc)).toInt64)) (Eq.trans (b := (some (49, [(0, .ref 0), (1, .int (iN (zs))), (2, .int (iN (zi))), (3, .int (iN (zw))), (4, .ref 3), (5, .int ((iN (zc)) + iN (1))), (6, .int (iN (zVal N G T zw zc)))], [], (78, 76), am_wl zg 32 (20 * zs + (zi + zc) : Int).toNat ((iN (zVal N G T zw zc)).toInt64)) : Option am_C)) rfl (by simp only [Int32.ofInt_add, Int32.ofInt_sub, Int32.ofInt_mul, Int32.ofInt_neg])) ?_
              refine wp_drop [6] (l := [(0, .ref 0), (1, .int (iN (zs))), (2, .int (iN (zi))), (3, .int (iN (zw))), (4, .ref 3), (5, .int (iN ((zc) + 1)))]) rfl rfl ?_
              refine z_ih (am_wl zg 32 (20 * zs + (zi + zc) : Int).toNat ((iN (zVal N G T zw zc)).toInt64)) (zc + 1) (zF2_w q_f _ _) (by omega) (fun j => ?_) (by omega)
              by_cases y1 : j = (20 * zs + (zi + zc)).toNat
              · subst y1; rw [am_wl_at, if_pos (by omega), show ((20 * zs + (zi + zc)).toNat : Int) - 20 * zs - zi = zc by omega]
              · rw [am_wl_no _ _ _ y1, q_w j]
                by_cases y2 : 20 * zs + zi ≤ (j : Int) ∧ (j : Int) < 20 * zs + zi + zc
                · rw [if_pos y2, if_pos (by omega)]
                · rw [if_neg y2, if_neg (by omega)]
          · refine wp_run (k := 2) (pc1 := 96) (l1 := [(0, .ref 0), (1, .int (iN (zs))), (2, .int (iN (zi))), (3, .int (iN (zw))), (4, .ref 3), (5, .int (iN (zc)))]) (st1 := [.int (iN (zc)), .ref 3]) (kr1 := (78, 76)) (h1 := zg) rfl ?_
            refine wp_call (md1 := am_m_Plan_made) (As := [.ref 3, .int (iN (zc))]) (rest := []) (kr1 := (78, 76)) rfl (jg_Plan_made_3 _ (by omega) (zp := zc) (by omega) (by rw [q_f.1]; exact q_tk.2.2.2.1 zc (by omega) (by omega))) ?_
            rintro _ _ ⟨rfl, rfl⟩
            rw [show zMB G T N zc = zVal N G T zw zc from by unfold zVal; rw [if_pos (by omega)]]
            refine wp_run (k := 10) (pc1 := 140) (l1 := [(0, .ref 0), (1, .int (iN (zs))), (2, .int (iN (zi))), (3, .int (iN (zw))), (4, .ref 3), (5, .int (iN (zc))), (6, .int (iN (zVal N G T zw zc)))]) (st1 := [.long ((iN (zVal N G T zw zc)).toInt64), .int (iN ((zi) + (zc))), .int (iN (zs)), .ref 31]) (kr1 := (78, 76)) (h1 := zg) (Eq.trans (b := (some (140, [(0, .ref 0), (1, .int (iN (zs))), (2, .int (iN (zi))), (3, .int (iN (zw))), (4, .ref 3), (5, .int (iN (zc))), (6, .int (iN (zVal N G T zw zc)))], [.long ((iN (zVal N G T zw zc)).toInt64), .int ((iN (zi)) + (iN (zc))), .int (iN (zs)), .ref 31], (78, 76), zg) : Option am_C)) rfl (by simp only [Int32.ofInt_add, Int32.ofInt_sub, Int32.ofInt_mul, Int32.ofInt_neg])) ?_
            refine wp_call (md1 := am_m_Shelves_store) (As := [.ref 31, .int (iN (zs)), .int (iN ((zi) + (zc))), .long ((iN (zVal N G T zw zc)).toInt64)]) (rest := []) (kr1 := (78, 76)) rfl (jt_rstore (zh := zg) (zs := zs) (zi := zi + zc) (zx := (iN (zVal N G T zw zc)).toInt64) _ (by omega) (by omega) (by omega)) ?_
            rintro _ _ ⟨rfl, rfl⟩
            refine wp_run (k := 2) (pc1 := 49) (l1 := [(0, .ref 0), (1, .int (iN (zs))), (2, .int (iN (zi))), (3, .int (iN (zw))), (4, .ref 3), (5, .int (iN ((zc) + 1))), (6, .int (iN (zVal N G T zw zc)))]) (st1 := []) (kr1 := (78, 76)) (h1 := am_wl zg 32 (20 * zs + (zi + zc) : Int).toNat ((iN (zVal N G T zw zc)).toInt64)) (Eq.trans (b := (some (49, [(0, .ref 0), (1, .int (iN (zs))), (2, .int (iN (zi))), (3, .int (iN (zw))), (4, .ref 3), (5, .int ((iN (zc)) + iN (1))), (6, .int (iN (zVal N G T zw zc)))], [], (78, 76), am_wl zg 32 (20 * zs + (zi + zc) : Int).toNat ((iN (zVal N G T zw zc)).toInt64)) : Option am_C)) rfl (by simp only [Int32.ofInt_add, Int32.ofInt_sub, Int32.ofInt_mul, Int32.ofInt_neg])) ?_
            refine wp_drop [6] (l := [(0, .ref 0), (1, .int (iN (zs))), (2, .int (iN (zi))), (3, .int (iN (zw))), (4, .ref 3), (5, .int (iN ((zc) + 1)))]) rfl rfl ?_
            refine z_ih (am_wl zg 32 (20 * zs + (zi + zc) : Int).toNat ((iN (zVal N G T zw zc)).toInt64)) (zc + 1) (zF2_w q_f _ _) (by omega) (fun j => ?_) (by omega)
            by_cases y1 : j = (20 * zs + (zi + zc)).toNat
            · subst y1; rw [am_wl_at, if_pos (by omega), show ((20 * zs + (zi + zc)).toNat : Int) - 20 * zs - zi = zc by omega]
            · rw [am_wl_no _ _ _ y1, q_w j]
              by_cases y2 : 20 * zs + zi ≤ (j : Int) ∧ (j : Int) < 20 * zs + zi + zc
              · rw [if_pos y2, if_pos (by omega)]
              · rw [if_neg y2, if_neg (by omega)]
set_option maxRecDepth 20000 in
set_option maxHeartbeats 4000000 in
theorem jL_into (zd : Nat) (q_d : 6 ≤ zd) {zh : am_H} {N : Int} {G : Int → Int → Int} {S T zs0 zk zs zi zw : Int} {Z : Int → Int} (q_nm : zNm (zh.1 1) (zh.1 2) N G S T) (q_g : zGk N G S T) (q_a0 : zh.1 8 0 = iN 0) (q_s : zh.1 1 2 = iN zs0) (q_k : zh.1 3 1 = iN zk) (q_r : 0 ≤ zs0 ∧ zs0 < 2147483648 ∧ 0 ≤ zk ∧ zk < 2147483648) (q_old : zk = zs0 → zPlan_3 zh N G T) (q_z : ∀ k : Int, 0 ≤ k → k < 4 → zh.1 33 k.toNat = iN (Z k) ∧ -1 ≤ Z k ∧ Z k ≤ 20) (q_zsr : -2147483648 ≤ zs ∧ zs < 2147483648) (q_zir : -2147483648 ≤ zi ∧ zi < 2147483648) (q_zwr : -2147483648 ≤ zw ∧ zw < 2147483648) : am_wp zd am_m_Lp_into 0 [(0, .ref 0), (1, .int (iN (zs))), (2, .int (iN (zi))), (3, .int (iN (zw)))] [] (78, 76) zh (78, 76) (fun rv h' => ((0 ≤ zs ∧ zs < 4 ∧ 0 ≤ zw ∧ zw ≤ 2 ∧ 0 ≤ Z zs ∧ 0 ≤ zi) → rv = some (.int (iN (zIn N (Z zs) zi))) ∧ ∃ zg1 : am_H, am_fr [3, 5, 6, 7, 8, 9, 10, 11, 12, 13, 14, 15, 16, 17] zh zg1 ∧ zg1.1 3 1 = iN zs0 ∧ zPlan_3 zg1 N G T ∧ zF2 32 zg1 h' ∧ ∀ j : Nat, h'.2 32 j = if 20 * zs + zi ≤ (j : Int) ∧ (j : Int) < 20 * zs + zi + zIn N (Z zs) zi then (iN (zVal N G T zw ((j : Int) - 20 * zs - zi))).toInt64 else zh.2 32 j) ∧ (¬ (0 ≤ zs ∧ zs < 4 ∧ 0 ≤ zw ∧ zw ≤ 2 ∧ 0 ≤ Z zs ∧ 0 ≤ zi) → rv = some (.int (iN (if ¬ (0 ≤ zs ∧ zs < 4) ∨ ¬ (0 ≤ zw ∧ zw ≤ 2) then -1 else if Z zs < 0 then -11 else -13))) ∧ zh = h')) := by
  obtain ⟨zd, rfl⟩ : ∃ y_e, zd = y_e + 6 := ⟨zd - 6, by omega⟩
  have q_N := q_g.1
  have y_z : 0 ≤ zs → zs < 4 → -1 ≤ Z zs ∧ Z zs ≤ 20 := fun y1 y2 => (q_z zs y1 y2).2
  refine wp_run (k := 2) (pc1 := 2) (l1 := [(0, .ref 0), (1, .int (iN (zs))), (2, .int (iN (zi))), (3, .int (iN (zw)))]) (st1 := [.int (iN (4)), .int (iN (zs))]) (kr1 := (78, 76)) (h1 := zh) rfl ?_
  refine wp_call (md1 := am_m_Lp_inside) (As := [.int (iN (zs)), .int (iN (4))]) (rest := []) (kr1 := (78, 76)) rfl (jt_inside _ (by omega) (zi := zs) (ze := 4) (by omega) (by omega)) ?_
  rintro _ _ ⟨rfl, rfl⟩
  refine wp_eqb rfl (fun b_5 => ?_) (fun b_5 => ?_)
  · refine wp_run (k := 1) (pc1 := 18) (l1 := [(0, .ref 0), (1, .int (iN (zs))), (2, .int (iN (zi))), (3, .int (iN (zw)))]) (st1 := [.int (iN (-1))]) (kr1 := (78, 76)) (h1 := zh) rfl ?_
    refine wp_ret (rv := some (.int (iN (-1)))) rfl ?_
    refine ⟨fun y => by omega, fun _ => ⟨?_, rfl⟩⟩
    rw [show (if ¬ (0 ≤ zs ∧ zs < 4) ∨ ¬ (0 ≤ zw ∧ zw ≤ 2) then -1 else if Z zs < 0 then -11 else -13) = -1 from ?_]
    (repeat' split) <;> first | rfl | omega | contradiction | (exfalso; omega) | (exfalso; rename_i y_x; exact absurd y_x.2.1 (by assumption)) | (exfalso; rename_i y_x; exact y_x ⟨by omega, by assumption, by omega⟩)
  · refine wp_run (k := 1) (pc1 := 9) (l1 := [(0, .ref 0), (1, .int (iN (zs))), (2, .int (iN (zi))), (3, .int (iN (zw)))]) (st1 := [.int (iN (zw))]) (kr1 := (78, 76)) (h1 := zh) rfl ?_
    refine wp_lt0 (a := zw) rfl (by omega) (fun b_9 => ?_) (fun b_9 => ?_)
    · refine wp_run (k := 1) (pc1 := 18) (l1 := [(0, .ref 0), (1, .int (iN (zs))), (2, .int (iN (zi))), (3, .int (iN (zw)))]) (st1 := [.int (iN (-1))]) (kr1 := (78, 76)) (h1 := zh) rfl ?_
      refine wp_ret (rv := some (.int (iN (-1)))) rfl ?_
      refine ⟨fun y => by omega, fun _ => ⟨?_, rfl⟩⟩
      rw [show (if ¬ (0 ≤ zs ∧ zs < 4) ∨ ¬ (0 ≤ zw ∧ zw ≤ 2) then -1 else if Z zs < 0 then -11 else -13) = -1 from ?_]
      (repeat' split) <;> first | rfl | omega | contradiction | (exfalso; omega) | (exfalso; rename_i y_x; exact absurd y_x.2.1 (by assumption)) | (exfalso; rename_i y_x; exact y_x ⟨by omega, by assumption, by omega⟩)
    · refine wp_run (k := 2) (pc1 := 14) (l1 := [(0, .ref 0), (1, .int (iN (zs))), (2, .int (iN (zi))), (3, .int (iN (zw)))]) (st1 := [.int (iN (2)), .int (iN (zw))]) (kr1 := (78, 76)) (h1 := zh) rfl ?_
      refine wp_le (a := zw) (b := 2) rfl (by omega) (by omega) (fun b_14 => ?_) (fun b_14 => ?_)
      · refine wp_run (k := 3) (pc1 := 24) (l1 := [(0, .ref 0), (1, .int (iN (zs))), (2, .int (iN (zi))), (3, .int (iN (zw)))]) (st1 := [.int (iN (zs)), .ref 31]) (kr1 := (78, 76)) (h1 := zh) rfl ?_
        refine wp_call (md1 := am_m_Shelves_holds) (As := [.ref 31, .int (iN (zs))]) (rest := []) (kr1 := (78, 76)) rfl (jt_holds _ (by omega) q_z (zs := zs) (by omega)) ?_
        rintro _ _ ⟨rfl, rfl⟩
        refine wp_neb rfl (fun b_27 => ?_) (fun b_27 => ?_)
        · refine wp_run (k := 1) (pc1 := 34) (l1 := [(0, .ref 0), (1, .int (iN (zs))), (2, .int (iN (zi))), (3, .int (iN (zw)))]) (st1 := [.int (iN (zi))]) (kr1 := (78, 76)) (h1 := zh) rfl ?_
          refine wp_ge0 (a := zi) rfl (by omega) (fun b_34 => ?_) (fun b_34 => ?_)
          · refine wp_run (k := 1) (pc1 := 41) (l1 := [(0, .ref 0), (1, .int (iN (zs))), (2, .int (iN (zi))), (3, .int (iN (zw)))]) (st1 := [.ref 0]) (kr1 := (78, 76)) (h1 := zh) rfl ?_
            refine wp_call (md1 := am_m_Lp_planNow) (As := [.ref 0]) (rest := []) (kr1 := (78, 76)) rfl (jt_planNow (zs := zs0) _ (by omega) q_nm q_g q_a0 q_s q_k q_r q_old) ?_
            rintro _ zg1 ⟨rfl, q_f1, q_k1, q_pl1⟩
            have q_nm1 := zNm_f q_f1 q_nm (by decide) (by decide)
            refine wp_run (k := 3) (pc1 := 49) (l1 := [(0, .ref 0), (1, .int (iN (zs))), (2, .int (iN (zi))), (3, .int (iN (zw))), (4, .ref 3), (5, .int (iN (0)))]) (st1 := []) (kr1 := (78, 76)) (h1 := zg1) rfl ?_
            refine jl_into (zh := zg1) _ (by omega) q_nm1 q_g (by rw [q_f1.2 33 (by decide)]; exact q_z) q_pl1 (by omega) (by omega) (by omega) (fun zg y1 y2 => ⟨fun _ => ⟨rfl, zg1, q_f1, q_k1, q_pl1, y1, fun j => by rw [y2 j, q_f1.1]⟩, fun y => by omega⟩) 18 zg1 0 ⟨rfl, fun _ _ => rfl⟩ (by omega) (fun j => (if_neg (by omega)).symm) (by omega)
          · refine wp_run (k := 1) (pc1 := 39) (l1 := [(0, .ref 0), (1, .int (iN (zs))), (2, .int (iN (zi))), (3, .int (iN (zw)))]) (st1 := [.int (iN (-13))]) (kr1 := (78, 76)) (h1 := zh) rfl ?_
            refine wp_ret (rv := some (.int (iN (-13)))) rfl ?_
            refine ⟨fun y => by omega, fun _ => ⟨?_, rfl⟩⟩
            rw [show (if ¬ (0 ≤ zs ∧ zs < 4) ∨ ¬ (0 ≤ zw ∧ zw ≤ 2) then -1 else if Z zs < 0 then -11 else -13) = -13 from ?_]
            (repeat' split) <;> first | rfl | omega | contradiction | (exfalso; omega) | (exfalso; rename_i y_x; exact absurd y_x.2.1 (by assumption)) | (exfalso; rename_i y_x; exact y_x ⟨by omega, by assumption, by omega⟩)
        · refine wp_run (k := 1) (pc1 := 32) (l1 := [(0, .ref 0), (1, .int (iN (zs))), (2, .int (iN (zi))), (3, .int (iN (zw)))]) (st1 := [.int (iN (-11))]) (kr1 := (78, 76)) (h1 := zh) rfl ?_
          refine wp_ret (rv := some (.int (iN (-11)))) rfl ?_
          refine ⟨fun y => by omega, fun _ => ⟨?_, rfl⟩⟩
          rw [show (if ¬ (0 ≤ zs ∧ zs < 4) ∨ ¬ (0 ≤ zw ∧ zw ≤ 2) then -1 else if Z zs < 0 then -11 else -13) = -11 from ?_]
          (repeat' split) <;> first | rfl | omega | contradiction | (exfalso; omega) | (exfalso; rename_i y_x; exact absurd y_x.2.1 (by assumption)) | (exfalso; rename_i y_x; exact y_x ⟨by omega, by assumption, by omega⟩)
      · refine wp_run (k := 1) (pc1 := 18) (l1 := [(0, .ref 0), (1, .int (iN (zs))), (2, .int (iN (zi))), (3, .int (iN (zw)))]) (st1 := [.int (iN (-1))]) (kr1 := (78, 76)) (h1 := zh) rfl ?_
        refine wp_ret (rv := some (.int (iN (-1)))) rfl ?_
        refine ⟨fun y => by omega, fun _ => ⟨?_, rfl⟩⟩
        rw [show (if ¬ (0 ≤ zs ∧ zs < 4) ∨ ¬ (0 ≤ zw ∧ zw ≤ 2) then -1 else if Z zs < 0 then -11 else -13) = -1 from ?_]
        (repeat' split) <;> first | rfl | omega | contradiction | (exfalso; omega) | (exfalso; rename_i y_x; exact absurd y_x.2.1 (by assumption)) | (exfalso; rename_i y_x; exact y_x ⟨by omega, by assumption, by omega⟩)
