/-! THE REFERENCE's methods: from, into a row, periods, a text -/
set_option maxRecDepth 20000 in
set_option maxHeartbeats 4000000 in
theorem jl_mfrom (zd : Nat) (q_d : 3 ≤ zd) {zh : am_H} {N : Int} {G : Int → Int → Int} {S T zs zi zp zU : Int} {Z zY : Int → Int} (q_z : ∀ k : Int, 0 ≤ k → k < 4 → zh.1 74 k.toNat = iN (Z k) ∧ -1 ≤ Z k ∧ Z k ≤ 20) (q_s : 0 ≤ zs ∧ zs < 4) (q_ii : 0 ≤ zi ∧ zi < 2147483648) (q_p : 0 ≤ zp ∧ zp < N) (q_Y : ∀ c : Int, zY c = (zh.2 75 (20 * zs + (zi + c)).toNat).toInt) (q_N : 1 ≤ N ∧ N ≤ 16) {zQ : Option Value → am_H → Prop} (zk2 : ∀ (zg : am_H) (zK : Int → Int → Int), am_fr [56] zh zg → zMm (zg.1 55) (zg.1 56) N zK S T → (∀ w p : Int, zK w p = zGf G zp zU zY w p) → am_wp zd am_m_Model_from 114 [(0, .ref 55), (1, .int (iN (zs))), (2, .int (iN (zi))), (3, .int (iN (zp))), (4, .int (iN (0))), (5, .int (iN (zU)))] [] (78, 76) zg (78, 76) zQ) : ∀ (z_n : Nat) (zg : am_H) (zc : Int) (zK : Int → Int → Int) (zf : Nat) (q_fr : am_fr [56] zh zg) (q_nm1 : zMm (zg.1 55) (zg.1 56) N zK S T) (q_i : 0 ≤ zc ∧ zp + zc ≤ N ∧ zp + zc + zf = N) (q_G : ∀ w p : Int, zK w p = zGf G zp zc zY w p) (q_u : zFn N (Z zs) zp zi zY zf zc = zU), N + 1 - zc < (z_n : Int) → am_wp zd am_m_Model_from 36 [(0, .ref 55), (1, .int (iN (zs))), (2, .int (iN (zi))), (3, .int (iN (zp))), (4, .int (iN (0))), (5, .int (iN (zc)))] [] (78, 76) zg (78, 76) zQ := by
  obtain ⟨zd, rfl⟩ : ∃ y_e, zd = y_e + 3 := ⟨zd - 3, by omega⟩
  intro z_n
  induction z_n with
  | zero => intro zg zc zK zf q_fr q_nm1 q_i q_G q_u q_m; omega
  | succ z_n z_ih =>
    intro zg zc zK zf q_fr q_nm1 q_i q_G q_u q_m
    have y_z := (q_z zs q_s.1 q_s.2).2
    refine wp_run (k := 5) (pc1 := 44) (l1 := [(0, .ref 55), (1, .int (iN (zs))), (2, .int (iN (zi))), (3, .int (iN (zp))), (4, .int (iN (0))), (5, .int (iN (zc)))]) (st1 := [.int (iN (N)), .int (iN ((zp) + (zc)))]) (kr1 := (78, 76)) (h1 := zg) (Eq.trans (b := (some (44, [(0, .ref 55), (1, .int (iN (zs))), (2, .int (iN (zi))), (3, .int (iN (zp))), (4, .int (iN (0))), (5, .int (iN (zc)))], [.int (zg.1 55 0), .int ((iN (zp)) + (iN (zc)))], (78, 76), zg) : Option am_C)) rfl (by simp only [q_nm1.1, Int32.ofInt_add, Int32.ofInt_sub, Int32.ofInt_mul, Int32.ofInt_neg])) ?_
    refine wp_ge (a := (zp) + (zc)) (b := N) rfl (by omega) (by omega) (fun b_44 => ?_) (fun b_44 => ?_)
    · have y_u : zc = zU := by
        rw [← q_u]
        cases zf with
        | zero => rfl
        | succ zf => exact (if_neg (by omega)).symm
      rw [y_u] at q_G ⊢
      exact zk2 zg zK q_fr q_nm1 q_G
    · refine wp_run (k := 4) (pc1 := 54) (l1 := [(0, .ref 55), (1, .int (iN (zs))), (2, .int (iN (zi))), (3, .int (iN (zp))), (4, .int (iN (0))), (5, .int (iN (zc)))]) (st1 := [.int (iN (zs)), .ref 74, .int (iN (zc))]) (kr1 := (78, 76)) (h1 := zg) rfl ?_
      refine wp_iald (f := zg.1 74) (z := zs) (j := zs.toNat) (n := 4) (v := iN (Z zs)) rfl rfl (by omega) (by omega) (by decide) ((congrFun (q_fr.2 74 (by decide)) _).trans (q_z zs (by omega) (by omega)).1) ?_
      refine wp_run (k := 2) (pc1 := 57) (l1 := [(0, .ref 55), (1, .int (iN (zs))), (2, .int (iN (zi))), (3, .int (iN (zp))), (4, .int (iN (0))), (5, .int (iN (zc)))]) (st1 := [.int (iN ((Z zs) - (zi))), .int (iN (zc))]) (kr1 := (78, 76)) (h1 := zg) (Eq.trans (b := (some (57, [(0, .ref 55), (1, .int (iN (zs))), (2, .int (iN (zi))), (3, .int (iN (zp))), (4, .int (iN (0))), (5, .int (iN (zc)))], [.int ((iN (Z zs)) - (iN (zi))), .int (iN (zc))], (78, 76), zg) : Option am_C)) rfl (by simp only [Int32.ofInt_add, Int32.ofInt_sub, Int32.ofInt_mul, Int32.ofInt_neg])) ?_
      refine wp_ge (a := zc) (b := (Z zs) - (zi)) rfl (by omega) (by omega) (fun b_57 => ?_) (fun b_57 => ?_)
      · have y_u : zc = zU := by
          rw [← q_u]
          cases zf with
          | zero => rfl
          | succ zf => exact (if_neg (by omega)).symm
        rw [y_u] at q_G ⊢
        exact zk2 zg zK q_fr q_nm1 q_G
      · obtain ⟨zx, y_xe, y_x⟩ : ∃ zx : Int64, zg.2 75 (20 * zs + (zi + zc) : Int).toNat = zx ∧ zx.toInt = zY zc := ⟨_, rfl, by rw [q_fr.1]; exact (q_Y zc).symm⟩
        refine wp_run (k := 9) (pc1 := 73) (l1 := [(0, .ref 55), (1, .int (iN (zs))), (2, .int (iN (zi))), (3, .int (iN (zp))), (4, .int (iN (0))), (5, .int (iN (zc)))]) (st1 := [.int (iN ((((20) * (zs)) + (zi)) + (zc))), .ref 75]) (kr1 := (78, 76)) (h1 := zg) (Eq.trans (b := (some (73, [(0, .ref 55), (1, .int (iN (zs))), (2, .int (iN (zi))), (3, .int (iN (zp))), (4, .int (iN (0))), (5, .int (iN (zc)))], [.int ((((iN (20)) * (iN (zs))) + (iN (zi))) + (iN (zc))), .ref 75], (78, 76), zg) : Option am_C)) rfl (by simp only [Int32.ofInt_add, Int32.ofInt_sub, Int32.ofInt_mul, Int32.ofInt_neg])) ?_
        refine wp_lald (z := (((20) * (zs)) + (zi)) + (zc)) (j := (20 * zs + (zi + zc)).toNat) (n := 80) (v := zx) rfl (by decide) (by decide) rfl rfl (by omega) (by omega) (by decide) y_xe ?_
        refine wp_run (k := 2) (pc1 := 78) (l1 := [(0, .ref 55), (1, .int (iN (zs))), (2, .int (iN (zi))), (3, .int (iN (zp))), (4, .int (iN (0))), (5, .int (iN (zc)))]) (st1 := [.long ((99 : Int64)), .long (Int64.ofNat 0), .long (zx)]) (kr1 := (78, 76)) (h1 := zg) rfl ?_
        refine wp_call (md1 := am_m_Model_isIn) (As := [.long (zx), .long (Int64.ofNat 0), .long ((99 : Int64))]) (rest := []) (kr1 := (78, 76)) rfl (jt_isIn _ (by omega) (va := zx) (za := zY zc) y_x (show (Int64.ofNat 0).toInt = 0 by decide) (show (99 : Int64).toInt = 99 by decide)) ?_
        rintro _ _ ⟨rfl, rfl⟩
        refine wp_eqb rfl (fun b_81 => ?_) (fun b_81 => ?_)
        · have y_u : zc = zU := by
            rw [← q_u]
            cases zf with
            | zero => rfl
            | succ zf => exact (if_neg (by omega)).symm
          rw [y_u] at q_G ⊢
          exact zk2 zg zK q_fr q_nm1 q_G
        · refine wp_run (k := 14) (pc1 := 105) (l1 := [(0, .ref 55), (1, .int (iN (zs))), (2, .int (iN (zi))), (3, .int (iN (zp))), (4, .int (iN (0))), (5, .int (iN (zc)))]) (st1 := [.int (iN ((((20) * (zs)) + (zi)) + (zc))), .ref 75, .int (iN ((zp) + (zc))), .ref 56]) (kr1 := (78, 76)) (h1 := zg) (Eq.trans (b := (some (105, [(0, .ref 55), (1, .int (iN (zs))), (2, .int (iN (zi))), (3, .int (iN (zp))), (4, .int (iN (0))), (5, .int (iN (zc)))], [.int ((((iN (20)) * (iN (zs))) + (iN (zi))) + (iN (zc))), .ref 75, .int ((iN (zp)) + (iN (zc))), .ref 56], (78, 76), zg) : Option am_C)) rfl (by simp only [Int32.ofInt_add, Int32.ofInt_sub, Int32.ofInt_mul, Int32.ofInt_neg])) ?_
          refine wp_lald (z := (((20) * (zs)) + (zi)) + (zc)) (j := (20 * zs + (zi + zc)).toNat) (n := 80) (v := zx) rfl (by decide) (by decide) rfl rfl (by omega) (by omega) (by decide) y_xe ?_
          refine wp_run (k := 1) (pc1 := 107) (l1 := [(0, .ref 55), (1, .int (iN (zs))), (2, .int (iN (zi))), (3, .int (iN (zp))), (4, .int (iN (0))), (5, .int (iN (zc)))]) (st1 := [.int ((zx).toInt32), .int (iN ((zp) + (zc))), .ref 56]) (kr1 := (78, 76)) (h1 := zg) rfl ?_
          rw [show zx.toInt32 = iN (zY zc) from by rw [l2i_e, y_x]]
          refine wp_iast (z := (zp) + (zc)) (j := (zp + zc).toNat) (n := 98) rfl (by decide) (by decide) rfl rfl (by omega) (by omega) (by decide) ?_
          refine wp_run (k := 2) (pc1 := 36) (l1 := [(0, .ref 55), (1, .int (iN (zs))), (2, .int (iN (zi))), (3, .int (iN (zp))), (4, .int (iN (0))), (5, .int (iN ((zc) + 1)))]) (st1 := []) (kr1 := (78, 76)) (h1 := am_wr zg 56 ((zp + zc).toNat) (iN (zY zc))) (Eq.trans (b := (some (36, [(0, .ref 55), (1, .int (iN (zs))), (2, .int (iN (zi))), (3, .int (iN (zp))), (4, .int (iN (0))), (5, .int ((iN (zc)) + iN (1)))], [], (78, 76), am_wr zg 56 ((zp + zc).toNat) (iN (zY zc))) : Option am_C)) rfl (by simp only [Int32.ofInt_add, Int32.ofInt_sub, Int32.ofInt_mul, Int32.ofInt_neg])) ?_
          obtain ⟨zf1, y_k⟩ : ∃ y, zf = y + 1 := ⟨zf - 1, by omega⟩
          subst y_k
          refine z_ih (am_wr zg 56 ((zp + zc).toNat) (iN (zY zc))) (zc + 1) (zG1 zK 0 (zp + zc) (zY zc)) zf1 (am_fr_w q_fr (by decide) _ _) (zMm_wr q_N.2 q_nm1 (by omega) (by omega) (by omega)) (by omega) ?_ ?_ (by omega)
          · intro w p
            unfold zG1 zGf
            by_cases y1 : w = 0 ∧ p = zp + zc
            · rw [if_pos y1, if_pos (by omega)]; exact congrArg zY (by omega)
            · rw [if_neg y1, q_G w p]
              unfold zGf
              by_cases y2 : w = 0 ∧ zp ≤ p ∧ p < zp + zc
              · rw [if_pos y2, if_pos (by omega)]
              · rw [if_neg y2, if_neg (by omega)]
          · rw [← q_u]
            exact (if_pos (show zp + zc < N ∧ zi + zc < Z zs ∧ 0 ≤ zY zc ∧ zY zc ≤ 99 by omega)).symm
set_option maxRecDepth 20000 in
set_option maxHeartbeats 4000000 in
theorem jR_from (zd : Nat) (q_d : 4 ≤ zd) {zh : am_H} {N : Int} {G : Int → Int → Int} {S T : Int} {zu zs zi zp : Int} {Z : Int → Int} (q_nm : zMm (zh.1 55) (zh.1 56) N G S T) (q_g : zGk N G S T) (q_u : zh.1 55 4 = iN zu) (q_ur : 0 ≤ zu ∧ zu ≤ 12) (q_z : ∀ k : Int, 0 ≤ k → k < 4 → zh.1 74 k.toNat = iN (Z k) ∧ -1 ≤ Z k ∧ Z k ≤ 20) (q_zsr : -2147483648 ≤ zs ∧ zs < 2147483648) (q_zir : -2147483648 ≤ zi ∧ zi < 2147483648) (q_zpr : -2147483648 ≤ zp ∧ zp < 2147483648) : am_wp zd am_m_Model_from 0 [(0, .ref 55), (1, .int (iN (zs))), (2, .int (iN (zi))), (3, .int (iN (zp)))] [] (78, 76) zh (78, 76) (fun rv h' => ((0 ≤ zs ∧ zs < 4 ∧ 0 ≤ zp ∧ zp < N ∧ 0 ≤ Z zs ∧ 0 ≤ zi) → rv = some (.int (iN (zFn N (Z zs) zp zi (fun c => (zh.2 75 (20 * zs + (zi + c)).toNat).toInt) (N - zp).toNat 0))) ∧ zRC zh zu h' N (zGf G zp (zFn N (Z zs) zp zi (fun c => (zh.2 75 (20 * zs + (zi + c)).toNat).toInt) (N - zp).toNat 0) (fun c => (zh.2 75 (20 * zs + (zi + c)).toNat).toInt)) S T) ∧ (¬ (0 ≤ zs ∧ zs < 4 ∧ 0 ≤ zp ∧ zp < N ∧ 0 ≤ Z zs ∧ 0 ≤ zi) → rv = some (.int (iN (if ¬ (0 ≤ zs ∧ zs < 4) ∨ ¬ (0 ≤ zp ∧ zp < N) then -1 else if Z zs < 0 then -11 else -13))) ∧ zh = h')) := by
  obtain ⟨zd, rfl⟩ : ∃ y_e, zd = y_e + 4 := ⟨zd - 4, by omega⟩
  have q_N := q_g.1
  have y_z : 0 ≤ zs → zs < 4 → -1 ≤ Z zs ∧ Z zs ≤ 20 := fun y1 y2 => (q_z zs y1 y2).2
  refine wp_run (k := 1) (pc1 := 1) (l1 := [(0, .ref 55), (1, .int (iN (zs))), (2, .int (iN (zi))), (3, .int (iN (zp)))]) (st1 := [.int (iN (zs))]) (kr1 := (78, 76)) (h1 := zh) rfl ?_
  refine wp_call (md1 := am_m_Model_isShelf) (As := [.int (iN (zs))]) (rest := []) (kr1 := (78, 76)) rfl (jm_isShelf _ (by omega) (zs := zs) (by omega)) ?_
  rintro _ _ ⟨rfl, rfl⟩
  refine wp_eqb rfl (fun b_4 => ?_) (fun b_4 => ?_)
  · refine wp_run (k := 1) (pc1 := 16) (l1 := [(0, .ref 55), (1, .int (iN (zs))), (2, .int (iN (zi))), (3, .int (iN (zp)))]) (st1 := [.int (iN (-1))]) (kr1 := (78, 76)) (h1 := zh) rfl ?_
    refine wp_ret (rv := some (.int (iN (-1)))) rfl ?_
    refine ⟨fun y => by omega, fun _ => ⟨?_, rfl⟩⟩
    rw [show (if ¬ (0 ≤ zs ∧ zs < 4) ∨ ¬ (0 ≤ zp ∧ zp < N) then -1 else if Z zs < 0 then -11 else -13) = -1 from ?_]
    (repeat' split) <;> first | rfl | omega | contradiction | (exfalso; omega) | (exfalso; rename_i y_x; exact absurd y_x.2.1 (by assumption)) | (exfalso; rename_i y_x; exact y_x ⟨by omega, by assumption, by omega⟩)
  · refine wp_run (k := 2) (pc1 := 9) (l1 := [(0, .ref 55), (1, .int (iN (zs))), (2, .int (iN (zi))), (3, .int (iN (zp)))]) (st1 := [.int (iN (zp)), .ref 55]) (kr1 := (78, 76)) (h1 := zh) rfl ?_
    refine wp_call (md1 := am_m_Model_isPeriod) (As := [.ref 55, .int (iN (zp))]) (rest := []) (kr1 := (78, 76)) rfl (jm_isPeriod _ (by omega) q_nm q_g (zp := zp) (by omega)) ?_
    rintro _ _ ⟨rfl, rfl⟩
    refine wp_neb rfl (fun b_12 => ?_) (fun b_12 => ?_)
    · refine wp_run (k := 3) (pc1 := 20) (l1 := [(0, .ref 55), (1, .int (iN (zs))), (2, .int (iN (zi))), (3, .int (iN (zp)))]) (st1 := [.int (iN (zi)), .int (iN (zs)), .ref 55]) (kr1 := (78, 76)) (h1 := zh) rfl ?_
      refine wp_call (md1 := am_m_Model_wrongRow) (As := [.ref 55, .int (iN (zs)), .int (iN (zi))]) (rest := []) (kr1 := (78, 76)) rfl (jm_wrongRow _ (by omega) q_z (zs := zs) (zi := zi) (by omega) (by omega)) ?_
      rintro _ _ ⟨rfl, rfl⟩
      obtain ⟨zo, y_o, y_o1⟩ : ∃ zo : Int, (if Z zs < 0 then -11 else if zi < 0 then -13 else 0) = zo ∧ ((Z zs < 0 ∧ zo = -11) ∨ (¬ Z zs < 0 ∧ zi < 0 ∧ zo = -13) ∨ (¬ Z zs < 0 ∧ ¬ zi < 0 ∧ zo = 0)) := by
        by_cases y1 : Z zs < 0
        · exact ⟨_, if_pos y1, Or.inl ⟨y1, rfl⟩⟩
        · by_cases y2 : zi < 0
          · exact ⟨_, (if_neg y1).trans (if_pos y2), Or.inr (Or.inl ⟨y1, y2, rfl⟩)⟩
          · exact ⟨_, (if_neg y1).trans (if_neg y2), Or.inr (Or.inr ⟨y1, y2, rfl⟩)⟩
      rw [y_o]
      refine wp_run (k := 2) (pc1 := 27) (l1 := [(0, .ref 55), (1, .int (iN (zs))), (2, .int (iN (zi))), (3, .int (iN (zp))), (4, .int (iN (zo)))]) (st1 := [.int (iN (zo))]) (kr1 := (78, 76)) (h1 := zh) rfl ?_
      refine wp_eq0 (a := zo) rfl (by omega) (fun b_27 => ?_) (fun b_27 => ?_)
      · refine wp_run (k := 2) (pc1 := 36) (l1 := [(0, .ref 55), (1, .int (iN (zs))), (2, .int (iN (zi))), (3, .int (iN (zp))), (4, .int (iN (zo))), (5, .int (iN (0)))]) (st1 := []) (kr1 := (78, 76)) (h1 := zh) rfl ?_
        rw [show zo = 0 by omega]
        refine jl_mfrom (zh := zh) (G := G) (zY := (fun c => (zh.2 75 (20 * zs + (zi + c)).toNat).toInt)) _ (by omega) q_z (by omega) (by omega) (by omega) (fun c => rfl) q_N ?_ 18 zh 0 G (N - zp).toNat (am_fr_0 _ _) q_nm (by omega) (fun w p => (if_neg (by omega)).symm) rfl (by omega)
        intro zg1 zK q_f1 q_n1 q_G
        refine wp_run (k := 1) (pc1 := 115) (l1 := [(0, .ref 55), (1, .int (iN (zs))), (2, .int (iN (zi))), (3, .int (iN (zp))), (4, .int (iN (0))), (5, .int (iN ((zFn N (Z zs) zp zi (fun c => (zh.2 75 (20 * zs + (zi + c)).toNat).toInt) (N - zp).toNat 0))))]) (st1 := [.ref 55]) (kr1 := (78, 76)) (h1 := zg1) rfl ?_
        refine wp_call (md1 := am_m_Model_changed) (As := [.ref 55]) (rest := []) (kr1 := (78, 76)) rfl (jm_changed (zu := zu) _ (by omega) ((congrFun (q_f1.2 55 (by decide)) 4).trans q_u) q_ur) ?_
        rintro _ zg2 ⟨rfl, q_ch⟩
        refine wp_run (k := 1) (pc1 := 120) (l1 := [(0, .ref 55), (1, .int (iN (zs))), (2, .int (iN (zi))), (3, .int (iN (zp))), (4, .int (iN (0))), (5, .int (iN ((zFn N (Z zs) zp zi (fun c => (zh.2 75 (20 * zs + (zi + c)).toNat).toInt) (N - zp).toNat 0))))]) (st1 := [.int (iN ((zFn N (Z zs) zp zi (fun c => (zh.2 75 (20 * zs + (zi + c)).toNat).toInt) (N - zp).toNat 0)))]) (kr1 := (78, 76)) (h1 := zg2) rfl ?_
        refine wp_ret (rv := some (.int (iN ((zFn N (Z zs) zp zi (fun c => (zh.2 75 (20 * zs + (zi + c)).toNat).toInt) (N - zp).toNat 0))))) rfl ?_
        exact ⟨fun _ => ⟨rfl, zg1, q_f1, zMm_eq q_n1 (fun w p _ _ _ _ => q_G w p), q_ch⟩, fun y => by omega⟩
      · refine wp_run (k := 1) (pc1 := 32) (l1 := [(0, .ref 55), (1, .int (iN (zs))), (2, .int (iN (zi))), (3, .int (iN (zp))), (4, .int (iN (zo)))]) (st1 := [.int (iN (zo))]) (kr1 := (78, 76)) (h1 := zh) rfl ?_
        refine wp_ret (rv := some (.int (iN (zo)))) rfl ?_
        refine ⟨fun y => by omega, fun _ => ⟨?_, rfl⟩⟩
        rw [show (if ¬ (0 ≤ zs ∧ zs < 4) ∨ ¬ (0 ≤ zp ∧ zp < N) then -1 else if Z zs < 0 then -11 else -13) = zo from ?_]
        (repeat' split) <;> first | rfl | omega | contradiction | (exfalso; omega) | (exfalso; rename_i y_x; exact absurd y_x.2.1 (by assumption)) | (exfalso; rename_i y_x; exact y_x ⟨by omega, by assumption, by omega⟩)
    · refine wp_run (k := 1) (pc1 := 16) (l1 := [(0, .ref 55), (1, .int (iN (zs))), (2, .int (iN (zi))), (3, .int (iN (zp)))]) (st1 := [.int (iN (-1))]) (kr1 := (78, 76)) (h1 := zh) rfl ?_
      refine wp_ret (rv := some (.int (iN (-1)))) rfl ?_
      refine ⟨fun y => by omega, fun _ => ⟨?_, rfl⟩⟩
      rw [show (if ¬ (0 ≤ zs ∧ zs < 4) ∨ ¬ (0 ≤ zp ∧ zp < N) then -1 else if Z zs < 0 then -11 else -13) = -1 from ?_]
      (repeat' split) <;> first | rfl | omega | contradiction | (exfalso; omega) | (exfalso; rename_i y_x; exact absurd y_x.2.1 (by assumption)) | (exfalso; rename_i y_x; exact y_x ⟨by omega, by assumption, by omega⟩)
set_option maxRecDepth 20000 in
set_option maxHeartbeats 4000000 in
theorem jl_minto (zd : Nat) (q_d : 4 ≤ zd) {zh : am_H} {N : Int} {G : Int → Int → Int} {S T : Int} {zs zi zw : Int} {Z : Int → Int} (q_nm : zMm (zh.1 55) (zh.1 56) N G S T) (q_g : zGk N G S T) (q_z : ∀ k : Int, 0 ≤ k → k < 4 → zh.1 74 k.toNat = iN (Z k) ∧ -1 ≤ Z k ∧ Z k ≤ 20) (q_mk : zHd (zh.1 66) (zMB G T N) 16) (q_w : ∀ x : Int, 0 ≤ x → x ≤ N → zh.1 67 x.toNat = iN (zTv G T x)) (q_s : 0 ≤ zs ∧ zs < 4) (q_ii : 0 ≤ zi ∧ zi < 2147483648) (q_ww : 0 ≤ zw ∧ zw ≤ 2) {zQ : Option Value → am_H → Prop} (zk2 : ∀ zg : am_H, zF2 75 zh zg → (∀ j : Nat, zg.2 75 j = if 20 * zs + zi ≤ (j : Int) ∧ (j : Int) < 20 * zs + zi + zIn N (Z zs) zi then (iN (zVal N G T zw ((j : Int) - 20 * zs - zi))).toInt64 else zh.2 75 j) → zQ (some (.int (iN (zIn N (Z zs) zi)))) zg) : ∀ (z_n : Nat) (zg : am_H) (zc : Int) (q_f : zF2 75 zh zg) (q_i : 0 ≤ zc ∧ zc ≤ N ∧ (zc = 0 ∨ zi + zc ≤ Z zs)) (q_x : ∀ j : Nat, zg.2 75 j = if 20 * zs + zi ≤ (j : Int) ∧ (j : Int) < 20 * zs + zi + zc then (iN (zVal N G T zw ((j : Int) - 20 * zs - zi))).toInt64 else zh.2 75 j), N + 1 - zc < (z_n : Int) → am_wp zd am_m_Model_into 49 [(0, .ref 55), (1, .int (iN (zs))), (2, .int (iN (zi))), (3, .int (iN (zw))), (4, .int (iN (0))), (5, .int (iN (zc)))] [] (78, 76) zg (78, 76) zQ := by
  obtain ⟨zd, rfl⟩ : ∃ y_e, zd = y_e + 4 := ⟨zd - 4, by omega⟩
  intro z_n
  induction z_n with
  | zero => intro zg zc q_f q_i q_x q_m; omega
  | succ z_n z_ih =>
    intro zg zc q_f q_i q_x q_m
    have q_N := q_g.1
    have y_z := (q_z zs q_s.1 q_s.2).2
    refine wp_run (k := 3) (pc1 := 55) (l1 := [(0, .ref 55), (1, .int (iN (zs))), (2, .int (iN (zi))), (3, .int (iN (zw))), (4, .int (iN (0))), (5, .int (iN (zc)))]) (st1 := [.int (iN (N)), .int (iN (zc))]) (kr1 := (78, 76)) (h1 := zg) (Eq.trans (b := (some (55, [(0, .ref 55), (1, .int (iN (zs))), (2, .int (iN (zi))), (3, .int (iN (zw))), (4, .int (iN (0))), (5, .int (iN (zc)))], [.int (zg.1 55 0), .int (iN (zc))], (78, 76), zg) : Option am_C)) rfl (by simp only [(show (zg).1 55 0 = iN N from by rw [q_f.1]; exact q_nm.1), Int32.ofInt_add, Int32.ofInt_sub, Int32.ofInt_mul, Int32.ofInt_neg])) ?_
    refine wp_ge (a := zc) (b := N) rfl (by omega) (by omega) (fun b_55 => ?_) (fun b_55 => ?_)
    · refine wp_run (k := 1) (pc1 := 136) (l1 := [(0, .ref 55), (1, .int (iN (zs))), (2, .int (iN (zi))), (3, .int (iN (zw))), (4, .int (iN (0))), (5, .int (iN (zc)))]) (st1 := [.int (iN (zc))]) (kr1 := (78, 76)) (h1 := zg) rfl ?_
      refine wp_ret (rv := some (.int (iN (zc)))) rfl ?_
      have y_c : zc = zIn N (Z zs) zi := by unfold zIn; split <;> omega
      rw [y_c] at q_x ⊢
      exact zk2 zg q_f q_x
    · refine wp_run (k := 4) (pc1 := 65) (l1 := [(0, .ref 55), (1, .int (iN (zs))), (2, .int (iN (zi))), (3, .int (iN (zw))), (4, .int (iN (0))), (5, .int (iN (zc)))]) (st1 := [.int (iN (zs)), .ref 74, .int (iN (zc))]) (kr1 := (78, 76)) (h1 := zg) rfl ?_
      refine wp_iald (f := zg.1 74) (z := zs) (j := zs.toNat) (n := 4) (v := iN (Z zs)) rfl rfl (by omega) (by omega) (by decide) (by rw [q_f.1]; exact (q_z zs (by omega) (by omega)).1) ?_
      refine wp_run (k := 2) (pc1 := 68) (l1 := [(0, .ref 55), (1, .int (iN (zs))), (2, .int (iN (zi))), (3, .int (iN (zw))), (4, .int (iN (0))), (5, .int (iN (zc)))]) (st1 := [.int (iN ((Z zs) - (zi))), .int (iN (zc))]) (kr1 := (78, 76)) (h1 := zg) (Eq.trans (b := (some (68, [(0, .ref 55), (1, .int (iN (zs))), (2, .int (iN (zi))), (3, .int (iN (zw))), (4, .int (iN (0))), (5, .int (iN (zc)))], [.int ((iN (Z zs)) - (iN (zi))), .int (iN (zc))], (78, 76), zg) : Option am_C)) rfl (by simp only [Int32.ofInt_add, Int32.ofInt_sub, Int32.ofInt_mul, Int32.ofInt_neg])) ?_
      refine wp_ge (a := zc) (b := (Z zs) - (zi)) rfl (by omega) (by omega) (fun b_68 => ?_) (fun b_68 => ?_)
      · refine wp_run (k := 1) (pc1 := 136) (l1 := [(0, .ref 55), (1, .int (iN (zs))), (2, .int (iN (zi))), (3, .int (iN (zw))), (4, .int (iN (0))), (5, .int (iN (zc)))]) (st1 := [.int (iN (zc))]) (kr1 := (78, 76)) (h1 := zg) rfl ?_
        refine wp_ret (rv := some (.int (iN (zc)))) rfl ?_
        have y_c : zc = zIn N (Z zs) zi := by unfold zIn; split <;> omega
        rw [y_c] at q_x ⊢
        exact zk2 zg q_f q_x
      · refine wp_run (k := 10) (pc1 := 85) (l1 := [(0, .ref 55), (1, .int (iN (zs))), (2, .int (iN (zi))), (3, .int (iN (zw))), (4, .int (iN (0))), (5, .int (iN (zc)))]) (st1 := [.int (iN (zw)), .int (iN ((((20) * (zs)) + (zi)) + (zc))), .ref 75]) (kr1 := (78, 76)) (h1 := zg) (Eq.trans (b := (some (85, [(0, .ref 55), (1, .int (iN (zs))), (2, .int (iN (zi))), (3, .int (iN (zw))), (4, .int (iN (0))), (5, .int (iN (zc)))], [.int (iN (zw)), .int ((((iN (20)) * (iN (zs))) + (iN (zi))) + (iN (zc))), .ref 75], (78, 76), zg) : Option am_C)) rfl (by simp only [Int32.ofInt_add, Int32.ofInt_sub, Int32.ofInt_mul, Int32.ofInt_neg])) ?_
        refine wp_ne0 (a := zw) rfl (by omega) (fun b_85 => ?_) (fun b_85 => ?_)
        · refine wp_run (k := 2) (pc1 := 101) (l1 := [(0, .ref 55), (1, .int (iN (zs))), (2, .int (iN (zi))), (3, .int (iN (zw))), (4, .int (iN (0))), (5, .int (iN (zc)))]) (st1 := [.int (iN (1)), .int (iN (zw)), .int (iN ((((20) * (zs)) + (zi)) + (zc))), .ref 75]) (kr1 := (78, 76)) (h1 := zg) rfl ?_
          refine wp_ne (a := zw) (b := 1) rfl (by omega) (by omega) (fun b_101 => ?_) (fun b_101 => ?_)
          · refine wp_run (k := 4) (pc1 := 123) (l1 := [(0, .ref 55), (1, .int (iN (zs))), (2, .int (iN (zi))), (3, .int (iN (zw))), (4, .int (iN (0))), (5, .int (iN (zc)))]) (st1 := [.int (iN ((zc) + (1))), .ref 55, .int (iN ((((20) * (zs)) + (zi)) + (zc))), .ref 75]) (kr1 := (78, 76)) (h1 := zg) (Eq.trans (b := (some (123, [(0, .ref 55), (1, .int (iN (zs))), (2, .int (iN (zi))), (3, .int (iN (zw))), (4, .int (iN (0))), (5, .int (iN (zc)))], [.int ((iN (zc)) + (iN (1))), .ref 55, .int (iN ((((20) * (zs)) + (zi)) + (zc))), .ref 75], (78, 76), zg) : Option am_C)) rfl (by simp only [Int32.ofInt_add, Int32.ofInt_sub, Int32.ofInt_mul, Int32.ofInt_neg])) ?_
            refine wp_call (md1 := am_m_Model_forwardOf) (As := [.ref 55, .int (iN ((zc) + (1)))]) (rest := [.int (iN ((((20) * (zs)) + (zi)) + (zc))), .ref 75]) (kr1 := (78, 76)) rfl (jm_forwardOf _ (by omega) (by rw [q_f.1]; exact q_nm) q_g (zt := zc + 1) (by omega) (by rw [q_f.1]; exact q_w)) ?_
            rintro _ _ ⟨rfl, rfl⟩
            rw [show (zWd G T (zc + 1)).1 = zVal N G T zw zc from by unfold zVal; rw [if_neg (by omega), if_neg (by omega)]]
            refine wp_run (k := 1) (pc1 := 127) (l1 := [(0, .ref 55), (1, .int (iN (zs))), (2, .int (iN (zi))), (3, .int (iN (zw))), (4, .int (iN (0))), (5, .int (iN (zc)))]) (st1 := [.long ((iN (zVal N G T zw zc)).toInt64), .int (iN ((((20) * (zs)) + (zi)) + (zc))), .ref 75]) (kr1 := (78, 76)) (h1 := zg) rfl ?_
            refine wp_last (z := (((20) * (zs)) + (zi)) + (zc)) (j := (20 * zs + (zi + zc)).toNat) (n := 80) rfl (by decide) (by decide) rfl rfl (by omega) (by omega) (by decide) ?_
            refine wp_run (k := 2) (pc1 := 49) (l1 := [(0, .ref 55), (1, .int (iN (zs))), (2, .int (iN (zi))), (3, .int (iN (zw))), (4, .int (iN (0))), (5, .int (iN ((zc) + 1)))]) (st1 := []) (kr1 := (78, 76)) (h1 := am_wl zg 75 ((20 * zs + (zi + zc)).toNat) ((iN (zVal N G T zw zc)).toInt64)) (Eq.trans (b := (some (49, [(0, .ref 55), (1, .int (iN (zs))), (2, .int (iN (zi))), (3, .int (iN (zw))), (4, .int (iN (0))), (5, .int ((iN (zc)) + iN (1)))], [], (78, 76), am_wl zg 75 ((20 * zs + (zi + zc)).toNat) ((iN (zVal N G T zw zc)).toInt64)) : Option am_C)) rfl (by simp only [Int32.ofInt_add, Int32.ofInt_sub, Int32.ofInt_mul, Int32.ofInt_neg])) ?_
            refine z_ih (am_wl zg 75 ((20 * zs + (zi + zc)).toNat) ((iN (zVal N G T zw zc)).toInt64)) (zc + 1) (zF2_w q_f _ _) (by omega) (fun j => ?_) (by omega)
            by_cases y1 : j = (20 * zs + (zi + zc)).toNat
            · subst y1; rw [am_wl_at, if_pos (by omega), show ((20 * zs + (zi + zc)).toNat : Int) - 20 * zs - zi = zc by omega]
            · rw [am_wl_no _ _ _ y1, q_x j]
              by_cases y2 : 20 * zs + zi ≤ (j : Int) ∧ (j : Int) < 20 * zs + zi + zc
              · rw [if_pos y2, if_pos (by omega)]
              · rw [if_neg y2, if_neg (by omega)]
          · refine wp_run (k := 4) (pc1 := 111) (l1 := [(0, .ref 55), (1, .int (iN (zs))), (2, .int (iN (zi))), (3, .int (iN (zw))), (4, .int (iN (0))), (5, .int (iN (zc)))]) (st1 := [.int (iN (zc)), .ref 66, .ref 55, .int (iN ((((20) * (zs)) + (zi)) + (zc))), .ref 75]) (kr1 := (78, 76)) (h1 := zg) rfl ?_
            refine wp_call (md1 := am_m_Model_stock) (As := [.ref 55, .ref 66, .int (iN (zc))]) (rest := [.int (iN ((((20) * (zs)) + (zi)) + (zc))), .ref 75]) (kr1 := (78, 76)) rfl (jm_stock_66 _ (by omega) (by rw [q_f.1]; exact q_nm) q_g (B := zMB G T N) (by rw [q_f.1]; exact fun p y1 y2 => q_mk p y1 (by omega)) (zp := zc) (by omega)) ?_
            rintro _ _ ⟨rfl, rfl⟩
            rw [show zSt G (zMB G T N) zc = zVal N G T zw zc from by unfold zVal; rw [if_neg (by omega), if_pos (by omega)]]
            refine wp_run (k := 2) (pc1 := 127) (l1 := [(0, .ref 55), (1, .int (iN (zs))), (2, .int (iN (zi))), (3, .int (iN (zw))), (4, .int (iN (0))), (5, .int (iN (zc)))]) (st1 := [.long ((iN (zVal N G T zw zc)).toInt64), .int (iN ((((20) * (zs)) + (zi)) + (zc))), .ref 75]) (kr1 := (78, 76)) (h1 := zg) rfl ?_
            refine wp_last (z := (((20) * (zs)) + (zi)) + (zc)) (j := (20 * zs + (zi + zc)).toNat) (n := 80) rfl (by decide) (by decide) rfl rfl (by omega) (by omega) (by decide) ?_
            refine wp_run (k := 2) (pc1 := 49) (l1 := [(0, .ref 55), (1, .int (iN (zs))), (2, .int (iN (zi))), (3, .int (iN (zw))), (4, .int (iN (0))), (5, .int (iN ((zc) + 1)))]) (st1 := []) (kr1 := (78, 76)) (h1 := am_wl zg 75 ((20 * zs + (zi + zc)).toNat) ((iN (zVal N G T zw zc)).toInt64)) (Eq.trans (b := (some (49, [(0, .ref 55), (1, .int (iN (zs))), (2, .int (iN (zi))), (3, .int (iN (zw))), (4, .int (iN (0))), (5, .int ((iN (zc)) + iN (1)))], [], (78, 76), am_wl zg 75 ((20 * zs + (zi + zc)).toNat) ((iN (zVal N G T zw zc)).toInt64)) : Option am_C)) rfl (by simp only [Int32.ofInt_add, Int32.ofInt_sub, Int32.ofInt_mul, Int32.ofInt_neg])) ?_
            refine z_ih (am_wl zg 75 ((20 * zs + (zi + zc)).toNat) ((iN (zVal N G T zw zc)).toInt64)) (zc + 1) (zF2_w q_f _ _) (by omega) (fun j => ?_) (by omega)
            by_cases y1 : j = (20 * zs + (zi + zc)).toNat
            · subst y1; rw [am_wl_at, if_pos (by omega), show ((20 * zs + (zi + zc)).toNat : Int) - 20 * zs - zi = zc by omega]
            · rw [am_wl_no _ _ _ y1, q_x j]
              by_cases y2 : 20 * zs + zi ≤ (j : Int) ∧ (j : Int) < 20 * zs + zi + zc
              · rw [if_pos y2, if_pos (by omega)]
              · rw [if_neg y2, if_neg (by omega)]
        · refine wp_run (k := 3) (pc1 := 94) (l1 := [(0, .ref 55), (1, .int (iN (zs))), (2, .int (iN (zi))), (3, .int (iN (zw))), (4, .int (iN (0))), (5, .int (iN (zc)))]) (st1 := [.int (iN (zc)), .ref 66, .int (iN ((((20) * (zs)) + (zi)) + (zc))), .ref 75]) (kr1 := (78, 76)) (h1 := zg) rfl ?_
          refine wp_iald (f := zg.1 66) (z := zc) (j := zc.toNat) (n := 16) (v := iN (zVal N G T zw zc)) rfl rfl (by omega) (by omega) (by decide) (by rw [q_f.1, show zVal N G T zw zc = zMB G T N zc from by unfold zVal; rw [if_pos (by omega)]]; exact q_mk zc (by omega) (by omega)) ?_
          refine wp_run (k := 2) (pc1 := 127) (l1 := [(0, .ref 55), (1, .int (iN (zs))), (2, .int (iN (zi))), (3, .int (iN (zw))), (4, .int (iN (0))), (5, .int (iN (zc)))]) (st1 := [.long ((iN (zVal N G T zw zc)).toInt64), .int (iN ((((20) * (zs)) + (zi)) + (zc))), .ref 75]) (kr1 := (78, 76)) (h1 := zg) rfl ?_
          refine wp_last (z := (((20) * (zs)) + (zi)) + (zc)) (j := (20 * zs + (zi + zc)).toNat) (n := 80) rfl (by decide) (by decide) rfl rfl (by omega) (by omega) (by decide) ?_
          refine wp_run (k := 2) (pc1 := 49) (l1 := [(0, .ref 55), (1, .int (iN (zs))), (2, .int (iN (zi))), (3, .int (iN (zw))), (4, .int (iN (0))), (5, .int (iN ((zc) + 1)))]) (st1 := []) (kr1 := (78, 76)) (h1 := am_wl zg 75 ((20 * zs + (zi + zc)).toNat) ((iN (zVal N G T zw zc)).toInt64)) (Eq.trans (b := (some (49, [(0, .ref 55), (1, .int (iN (zs))), (2, .int (iN (zi))), (3, .int (iN (zw))), (4, .int (iN (0))), (5, .int ((iN (zc)) + iN (1)))], [], (78, 76), am_wl zg 75 ((20 * zs + (zi + zc)).toNat) ((iN (zVal N G T zw zc)).toInt64)) : Option am_C)) rfl (by simp only [Int32.ofInt_add, Int32.ofInt_sub, Int32.ofInt_mul, Int32.ofInt_neg])) ?_
          refine z_ih (am_wl zg 75 ((20 * zs + (zi + zc)).toNat) ((iN (zVal N G T zw zc)).toInt64)) (zc + 1) (zF2_w q_f _ _) (by omega) (fun j => ?_) (by omega)
          by_cases y1 : j = (20 * zs + (zi + zc)).toNat
          · subst y1; rw [am_wl_at, if_pos (by omega), show ((20 * zs + (zi + zc)).toNat : Int) - 20 * zs - zi = zc by omega]
          · rw [am_wl_no _ _ _ y1, q_x j]
            by_cases y2 : 20 * zs + zi ≤ (j : Int) ∧ (j : Int) < 20 * zs + zi + zc
            · rw [if_pos y2, if_pos (by omega)]
            · rw [if_neg y2, if_neg (by omega)]
set_option maxRecDepth 20000 in
set_option maxHeartbeats 4000000 in
theorem jR_into (zd : Nat) (q_d : 8 ≤ zd) {zh : am_H} {N : Int} {G : Int → Int → Int} {S T : Int} {zs zi zw : Int} {Z : Int → Int} (q_nm : zMm (zh.1 55) (zh.1 56) N G S T) (q_g : zGk N G S T) (q_z : ∀ k : Int, 0 ≤ k → k < 4 → zh.1 74 k.toNat = iN (Z k) ∧ -1 ≤ Z k ∧ Z k ≤ 20) (q_zsr : -2147483648 ≤ zs ∧ zs < 2147483648) (q_zir : -2147483648 ≤ zi ∧ zi < 2147483648) (q_zwr : -2147483648 ≤ zw ∧ zw < 2147483648) : am_wp zd am_m_Model_into 0 [(0, .ref 55), (1, .int (iN (zs))), (2, .int (iN (zi))), (3, .int (iN (zw)))] [] (78, 76) zh (78, 76) (fun rv h' => ((0 ≤ zs ∧ zs < 4 ∧ 0 ≤ zw ∧ zw ≤ 2 ∧ 0 ≤ Z zs ∧ 0 ≤ zi) → rv = some (.int (iN (zIn N (Z zs) zi))) ∧ ∃ zg1 : am_H, zRS zh zg1 ∧ zF2 75 zg1 h' ∧ ∀ j : Nat, h'.2 75 j = if 20 * zs + zi ≤ (j : Int) ∧ (j : Int) < 20 * zs + zi + zIn N (Z zs) zi then (iN (zVal N G T zw ((j : Int) - 20 * zs - zi))).toInt64 else zh.2 75 j) ∧ (¬ (0 ≤ zs ∧ zs < 4 ∧ 0 ≤ zw ∧ zw ≤ 2 ∧ 0 ≤ Z zs ∧ 0 ≤ zi) → rv = some (.int (iN (if ¬ (0 ≤ zs ∧ zs < 4) ∨ ¬ (0 ≤ zw ∧ zw ≤ 2) then -1 else if Z zs < 0 then -11 else -13))) ∧ zh = h')) := by
  obtain ⟨zd, rfl⟩ : ∃ y_e, zd = y_e + 8 := ⟨zd - 8, by omega⟩
  have q_N := q_g.1
  have y_z : 0 ≤ zs → zs < 4 → -1 ≤ Z zs ∧ Z zs ≤ 20 := fun y1 y2 => (q_z zs y1 y2).2
  refine wp_run (k := 1) (pc1 := 1) (l1 := [(0, .ref 55), (1, .int (iN (zs))), (2, .int (iN (zi))), (3, .int (iN (zw)))]) (st1 := [.int (iN (zs))]) (kr1 := (78, 76)) (h1 := zh) rfl ?_
  refine wp_call (md1 := am_m_Model_isShelf) (As := [.int (iN (zs))]) (rest := []) (kr1 := (78, 76)) rfl (jm_isShelf _ (by omega) (zs := zs) (by omega)) ?_
  rintro _ _ ⟨rfl, rfl⟩
  refine wp_eqb rfl (fun b_4 => ?_) (fun b_4 => ?_)
  · refine wp_run (k := 1) (pc1 := 20) (l1 := [(0, .ref 55), (1, .int (iN (zs))), (2, .int (iN (zi))), (3, .int (iN (zw)))]) (st1 := [.int (iN (-1))]) (kr1 := (78, 76)) (h1 := zh) rfl ?_
    refine wp_ret (rv := some (.int (iN (-1)))) rfl ?_
    refine ⟨fun y => by omega, fun _ => ⟨?_, rfl⟩⟩
    rw [show (if ¬ (0 ≤ zs ∧ zs < 4) ∨ ¬ (0 ≤ zw ∧ zw ≤ 2) then -1 else if Z zs < 0 then -11 else -13) = -1 from ?_]
    (repeat' split) <;> first | rfl | omega | contradiction | (exfalso; omega) | (exfalso; rename_i y_x; exact absurd y_x.2.1 (by assumption)) | (exfalso; rename_i y_x; exact y_x ⟨by omega, by assumption, by omega⟩)
  · refine wp_run (k := 4) (pc1 := 13) (l1 := [(0, .ref 55), (1, .int (iN (zs))), (2, .int (iN (zi))), (3, .int (iN (zw)))]) (st1 := [.long ((2 : Int64)), .long (Int64.ofNat 0), .long ((iN (zw)).toInt64)]) (kr1 := (78, 76)) (h1 := zh) rfl ?_
    refine wp_call (md1 := am_m_Model_isIn) (As := [.long ((iN (zw)).toInt64), .long (Int64.ofNat 0), .long ((2 : Int64))]) (rest := []) (kr1 := (78, 76)) rfl (jt_isIn _ (by omega) (i2l_i (z := zw) (by omega)) (show (Int64.ofNat 0 : Int64).toInt = 0 by decide) (show ((2 : Int64) : Int64).toInt = 2 by decide)) ?_
    rintro _ _ ⟨rfl, rfl⟩
    refine wp_neb rfl (fun b_16 => ?_) (fun b_16 => ?_)
    · refine wp_run (k := 3) (pc1 := 24) (l1 := [(0, .ref 55), (1, .int (iN (zs))), (2, .int (iN (zi))), (3, .int (iN (zw)))]) (st1 := [.int (iN (zi)), .int (iN (zs)), .ref 55]) (kr1 := (78, 76)) (h1 := zh) rfl ?_
      refine wp_call (md1 := am_m_Model_wrongRow) (As := [.ref 55, .int (iN (zs)), .int (iN (zi))]) (rest := []) (kr1 := (78, 76)) rfl (jm_wrongRow _ (by omega) q_z (zs := zs) (zi := zi) (by omega) (by omega)) ?_
      rintro _ _ ⟨rfl, rfl⟩
      obtain ⟨zo, y_o, y_o1⟩ : ∃ zo : Int, (if Z zs < 0 then -11 else if zi < 0 then -13 else 0) = zo ∧ ((Z zs < 0 ∧ zo = -11) ∨ (¬ Z zs < 0 ∧ zi < 0 ∧ zo = -13) ∨ (¬ Z zs < 0 ∧ ¬ zi < 0 ∧ zo = 0)) := by
        by_cases y1 : Z zs < 0
        · exact ⟨_, if_pos y1, Or.inl ⟨y1, rfl⟩⟩
        · by_cases y2 : zi < 0
          · exact ⟨_, (if_neg y1).trans (if_pos y2), Or.inr (Or.inl ⟨y1, y2, rfl⟩)⟩
          · exact ⟨_, (if_neg y1).trans (if_neg y2), Or.inr (Or.inr ⟨y1, y2, rfl⟩)⟩
      rw [y_o]
      refine wp_run (k := 2) (pc1 := 31) (l1 := [(0, .ref 55), (1, .int (iN (zs))), (2, .int (iN (zi))), (3, .int (iN (zw))), (4, .int (iN (zo)))]) (st1 := [.int (iN (zo))]) (kr1 := (78, 76)) (h1 := zh) rfl ?_
      refine wp_eq0 (a := zo) rfl (by omega) (fun b_31 => ?_) (fun b_31 => ?_)
      · refine wp_run (k := 1) (pc1 := 38) (l1 := [(0, .ref 55), (1, .int (iN (zs))), (2, .int (iN (zi))), (3, .int (iN (zw))), (4, .int (iN (zo)))]) (st1 := [.ref 55]) (kr1 := (78, 76)) (h1 := zh) rfl ?_
        refine wp_call (md1 := am_m_Model_thePlan) (As := [.ref 55]) (rest := []) (kr1 := (78, 76)) rfl (jm_thePlan _ (by omega) q_nm q_g) ?_
        rintro _ zg1 ⟨rfl, q_f1, q_s1, q_tm1⟩
        have q_R1 : zRS zh zg1 := zRS_s q_f1 (fun c y => by simp only [List.mem_cons, List.not_mem_nil, or_false] at y ⊢; omega) (fun zs y1 _ _ => q_s1 zs y1) (k1 := 20) (k2 := 20) (k3 := 20) (by decide)
        have q_nm1 := zRS_mm q_R1 q_nm
        have q_tk := zTookM_k q_tm1
        have y_K := zIsN_le q_g q_tk.1
        have y_mhk := zMB_hk (T := T) q_g
        refine wp_run (k := 2) (pc1 := 43) (l1 := [(0, .ref 55), (1, .int (iN (zs))), (2, .int (iN (zi))), (3, .int (iN (zw))), (4, .int (iN (zo)))]) (st1 := [.ref 55]) (kr1 := (78, 76)) (h1 := zg1) rfl ?_
        refine wp_call (md1 := am_m_Model_forwards) (As := [.ref 55]) (rest := []) (kr1 := (78, 76)) rfl (jm_forwards _ (by omega) q_nm1 q_g) ?_
        rintro _ zg2 ⟨rfl, q_f2, q_w2⟩
        have q_R2 : zRS zh zg2 := zRS_t q_R1 (zRS_f q_f2 (fun c y => by simp only [List.mem_cons, List.not_mem_nil, or_false] at y ⊢; omega) (by decide))
        have q_nm2 := zRS_mm q_R2 q_nm
        refine wp_run (k := 2) (pc1 := 49) (l1 := [(0, .ref 55), (1, .int (iN (zs))), (2, .int (iN (zi))), (3, .int (iN (zw))), (4, .int (iN (zo))), (5, .int (iN (0)))]) (st1 := []) (kr1 := (78, 76)) (h1 := zg2) rfl ?_
        rw [show zo = 0 by omega]
        exact jl_minto (zh := zg2) _ (by omega) q_nm2 q_g (by rw [q_R2.1.2 74 (by decide)]; exact q_z) (by rw [q_f2.2 66 (by decide)]; exact q_tk.2.2.2) q_w2 (by omega) (by omega) (by omega) (fun zg y1 y2 => ⟨fun _ => ⟨rfl, zg2, q_R2, y1, fun j => by rw [y2 j, q_R2.1.1]⟩, fun y => by omega⟩) 18 zg2 0 ⟨rfl, fun _ _ => rfl⟩ (by omega) (fun j => (if_neg (by omega)).symm) (by omega)
      · refine wp_run (k := 1) (pc1 := 36) (l1 := [(0, .ref 55), (1, .int (iN (zs))), (2, .int (iN (zi))), (3, .int (iN (zw))), (4, .int (iN (zo)))]) (st1 := [.int (iN (zo))]) (kr1 := (78, 76)) (h1 := zh) rfl ?_
        refine wp_ret (rv := some (.int (iN (zo)))) rfl ?_
        refine ⟨fun y => by omega, fun _ => ⟨?_, rfl⟩⟩
        rw [show (if ¬ (0 ≤ zs ∧ zs < 4) ∨ ¬ (0 ≤ zw ∧ zw ≤ 2) then -1 else if Z zs < 0 then -11 else -13) = zo from ?_]
        (repeat' split) <;> first | rfl | omega | contradiction | (exfalso; omega) | (exfalso; rename_i y_x; exact absurd y_x.2.1 (by assumption)) | (exfalso; rename_i y_x; exact y_x ⟨by omega, by assumption, by omega⟩)
    · refine wp_run (k := 1) (pc1 := 20) (l1 := [(0, .ref 55), (1, .int (iN (zs))), (2, .int (iN (zi))), (3, .int (iN (zw)))]) (st1 := [.int (iN (-1))]) (kr1 := (78, 76)) (h1 := zh) rfl ?_
      refine wp_ret (rv := some (.int (iN (-1)))) rfl ?_
      refine ⟨fun y => by omega, fun _ => ⟨?_, rfl⟩⟩
      rw [show (if ¬ (0 ≤ zs ∧ zs < 4) ∨ ¬ (0 ≤ zw ∧ zw ≤ 2) then -1 else if Z zs < 0 then -11 else -13) = -1 from ?_]
      (repeat' split) <;> first | rfl | omega | contradiction | (exfalso; omega) | (exfalso; rename_i y_x; exact absurd y_x.2.1 (by assumption)) | (exfalso; rename_i y_x; exact y_x ⟨by omega, by assumption, by omega⟩)
