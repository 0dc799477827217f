/-! WHAT BOTH OBJECTS ARE between two calls -/
def zSta : Type := (Int) × (Int → Int → Int) × (Int) × (Int) × (Int → Int) × (Int) × (Int) × (Int → Int → Int → Int) × (Int → Int) × (Int → Int) × (Int) × (Int → Int) × (Int → Int) × (Int → Int64) × (Int) × (Int → Int → Int) × (Int) × (Int) × (Int → Int)
abbrev zSta.xN (P : zSta) : Int := P.1
abbrev zSta.xG (P : zSta) : Int → Int → Int := P.2.1
abbrev zSta.xS (P : zSta) : Int := P.2.2.1
abbrev zSta.xT (P : zSta) : Int := P.2.2.2.1
abbrev zSta.xB (P : zSta) : Int → Int := P.2.2.2.2.1
abbrev zSta.xU (P : zSta) : Int := P.2.2.2.2.2.1
abbrev zSta.xV (P : zSta) : Int := P.2.2.2.2.2.2.1
abbrev zSta.xGH (P : zSta) : Int → Int → Int → Int := P.2.2.2.2.2.2.2.1
abbrev zSta.xSH (P : zSta) : Int → Int := P.2.2.2.2.2.2.2.2.1
abbrev zSta.xTH (P : zSta) : Int → Int := P.2.2.2.2.2.2.2.2.2.1
abbrev zSta.xL (P : zSta) : Int := P.2.2.2.2.2.2.2.2.2.2.1
abbrev zSta.xF (P : zSta) : Int → Int := P.2.2.2.2.2.2.2.2.2.2.2.1
abbrev zSta.xZ (P : zSta) : Int → Int := P.2.2.2.2.2.2.2.2.2.2.2.2.1
abbrev zSta.xY (P : zSta) : Int → Int64 := P.2.2.2.2.2.2.2.2.2.2.2.2.2.1
abbrev zSta.xM (P : zSta) : Int := P.2.2.2.2.2.2.2.2.2.2.2.2.2.2.1
abbrev zSta.xIG (P : zSta) : Int → Int → Int := P.2.2.2.2.2.2.2.2.2.2.2.2.2.2.2.1
abbrev zSta.xIS (P : zSta) : Int := P.2.2.2.2.2.2.2.2.2.2.2.2.2.2.2.2.1
abbrev zSta.xIT (P : zSta) : Int := P.2.2.2.2.2.2.2.2.2.2.2.2.2.2.2.2.2.1
abbrev zSta.xIB (P : zSta) : Int → Int := P.2.2.2.2.2.2.2.2.2.2.2.2.2.2.2.2.2.2
/-- a state, its parts one by one -/
abbrev zSt8 (xN : Int) (xG : Int → Int → Int) (xS : Int) (xT : Int) (xB : Int → Int) (xU : Int) (xV : Int) (xGH : Int → Int → Int → Int) (xSH : Int → Int) (xTH : Int → Int) (xL : Int) (xF : Int → Int) (xZ : Int → Int) (xY : Int → Int64) (xM : Int) (xIG : Int → Int → Int) (xIS : Int) (xIT : Int) (xIB : Int → Int) : zSta := (xN, xG, xS, xT, xB, xU, xV, xGH, xSH, xTH, xL, xF, xZ, xY, xM, xIG, xIS, xIT, xIB)
/-- a row of numbers that lies from zo on -/
def zRw (fc : Nat → Int32) (zo : Int) (N : Int) (G : Int → Int → Int) (S T : Int) : Prop := (∀ w p : Int, 0 ≤ w → w < 6 → 0 ≤ p → p < N → fc (zo + 16 * w + p).toNat = iN (G w p)) ∧ fc (zo + 96).toNat = iN S ∧ fc (zo + 97).toNat = iN T
/-- what is so of the numbers alone -/
def zPu (P : zSta) : Prop := zGk P.xN P.xG P.xS P.xT ∧ zHk P.xN P.xB ∧ (0 ≤ P.xU ∧ P.xU ≤ P.xV ∧ P.xV ≤ 12) ∧ ((∀ k : Int, 0 ≤ k → k ≤ P.xV → zGk P.xN (P.xGH k) (P.xSH k) (P.xTH k)) ∧ P.xGH P.xU = P.xG ∧ P.xSH P.xU = P.xS ∧ P.xTH P.xU = P.xT) ∧ ((0 ≤ P.xL ∧ P.xL ≤ 120) ∧ ∀ k : Int, 0 ≤ k → k < P.xL → 32 ≤ P.xF k ∧ P.xF k ≤ 126) ∧ (∀ k : Int, 0 ≤ k → k < 4 → -1 ≤ P.xZ k ∧ P.xZ k ≤ 20) ∧ ((0 ≤ P.xM ∧ P.xM ≤ 16) ∧ (¬ P.xM = 0 → zGk P.xM P.xIG P.xIS P.xIT ∧ zHk P.xM P.xIB))
/-- the class's changes -/
def zJc (ra rb : Nat → Int32) (P : zSta) : Prop := ra 1 = iN P.xU ∧ ra 2 = iN P.xV ∧ ∀ k : Int, 0 ≤ k → k ≤ P.xV → ¬ (k = P.xU ∧ P.xU = P.xV) → zRw rb (98 * k) P.xN (P.xGH k) (P.xSH k) (P.xTH k)
/-- a tape -/
def zJt (rl : Int32) (rc : Nat → Int32) (P : zSta) : Prop := rl = iN P.xL ∧ ∀ k : Int, 0 ≤ k → k < P.xL → rc k.toNat = iN (P.xF k)
/-- the shelves -/
def zJs (ra : Nat → Int32) (rb : Nat → Int64) (P : zSta) : Prop := (∀ k : Int, 0 ≤ k → k < 4 → ra k.toNat = iN (P.xZ k)) ∧ ∀ k i : Int, 0 ≤ k → k < 4 → 0 ≤ i → i < P.xZ k → rb (20 * k + i).toNat = P.xY (20 * k + i)
/-- the class's image -/
def zJi (r0 ra rb rc : Nat → Int32) (P : zSta) : Prop := r0 13 = iN (if P.xM = 0 then 0 else 1) ∧ (¬ P.xM = 0 → zNm ra rb P.xM P.xIG P.xIS P.xIT ∧ zHd rc P.xIB 16)
/-- what the class keeps of what it has reckoned -/
def zJb (n : Nat) (h : am_H) (N : Int) (G : Int → Int → Int) (S T zs zk zb zt zj : Int) : Prop := (h.1 1 2 = iN zs ∧ h.1 3 1 = iN zk ∧ h.1 18 0 = iN zb ∧ h.1 34 2 = iN zt ∧ h.1 36 1 = iN zj) ∧ (0 ≤ zs ∧ zs ≤ 5000 * ((n : Int) + 1)) ∧ (0 ≤ zk ∧ zk ≤ zs) ∧ (0 ≤ zb ∧ zb ≤ zs) ∧ (0 ≤ zj ∧ zj ≤ zt ∧ zt ≤ 5000 * ((n : Int) + 1)) ∧ (h.1 8 0 = iN 0 ∧ h.1 41 0 = iN 0) ∧ (zk = zs → zPlan_3 h N G T) ∧ (zb = zs → zBnd h N G S T)
def zJk (n : Nat) (h : am_H) (N : Int) (G : Int → Int → Int) (S T : Int) : Prop := ∃ zs zk zb zt zj : Int, zJb n h N G S T zs zk zb zt zj
/-- the class between two calls -/
def zIL (n : Nat) (P : zSta) (h : am_H) : Prop := zNm (h.1 1) (h.1 2) P.xN P.xG P.xS P.xT ∧ zHd (h.1 24) P.xB 16 ∧ zJc (h.1 25) (h.1 26) P ∧ zJt (h.1 27 1) (h.1 28) P ∧ zJs (h.1 33) (h.2 32) P ∧ zJi (h.1 0) (h.1 51) (h.1 52) (h.1 54) P ∧ zJk n h P.xN P.xG P.xS P.xT
/-- the reference between two calls -/
def zIR (P : zSta) (h : am_H) : Prop := zMm (h.1 55) (h.1 56) P.xN P.xG P.xS P.xT ∧ zHd (h.1 57) P.xB P.xN ∧ (h.1 55 4 = iN P.xU ∧ h.1 55 5 = iN P.xV ∧ ∀ k : Int, 0 ≤ k → k ≤ P.xV → zRw (h.1 58) (98 * k) P.xN (P.xGH k) (P.xSH k) (P.xTH k)) ∧ zJt (h.1 55 7) (h.1 59) P ∧ zJs (h.1 74) (h.2 75) P ∧ (h.1 55 36 = iN P.xM ∧ (¬ P.xM = 0 → zRw (h.1 76) 0 P.xM P.xIG P.xIS P.xIT ∧ zHd (h.1 77) P.xIB P.xM))
/-- the reference's cells stand as they stood -/
def zKL (h h' : am_H) : Prop := ∀ c : Nat, 55 ≤ c → h'.1 c = h.1 c ∧ h'.2 c = h.2 c
/-- the class's cells stand as they stood -/
def zKR (h h' : am_H) : Prop := (∀ c : Nat, c ∉ [55, 56, 57, 58, 59, 60, 61, 62, 63, 64, 65, 66, 67, 68, 69, 70, 71, 72, 73, 74, 75, 76, 77] → h'.1 c = h.1 c) ∧ ∀ c : Nat, c < 55 → h'.2 c = h.2 c
theorem zKL_0 (h : am_H) : zKL h h := fun _ _ => ⟨rfl, rfl⟩
theorem zKR_0 (h : am_H) : zKR h h := ⟨fun _ _ => rfl, fun _ _ => rfl⟩
theorem zKL_f {ks : List Nat} {h h' : am_H} (q : am_fr ks h h') (q1 : ∀ c, c ∈ ks → c < 55) : zKL h h' := fun c y => ⟨q.2 c (fun z => by have := q1 c z; omega), by rw [q.1]⟩
theorem zKR_f {ks : List Nat} {h h' : am_H} (q : am_fr ks h h') (q1 : ∀ c, c ∈ ks → c ∈ [55, 56, 57, 58, 59, 60, 61, 62, 63, 64, 65, 66, 67, 68, 69, 70, 71, 72, 73, 74, 75, 76, 77]) : zKR h h' := ⟨fun c y => q.2 c (fun z => y (q1 c z)), fun c _ => by rw [q.1]⟩
theorem zKL_t {h h1 h' : am_H} (q : zKL h h1) (q1 : zKL h1 h') : zKL h h' := fun c y => ⟨(q1 c y).1.trans (q c y).1, (q1 c y).2.trans (q c y).2⟩
theorem zKR_t {h h1 h' : am_H} (q : zKR h h1) (q1 : zKR h1 h') : zKR h h' := ⟨fun c y => (q1.1 c y).trans (q.1 c y), fun c y => (q1.2 c y).trans (q.2 c y)⟩
theorem zKL_2 {c0 : Nat} {h h' : am_H} (q : zF2 c0 h h') (q0 : c0 < 55) : zKL h h' := fun c y => ⟨by rw [q.1], q.2 c (by omega)⟩
theorem zKR_2 {c0 : Nat} {h h' : am_H} (q : zF2 c0 h h') (q0 : 55 ≤ c0) : zKR h h' := ⟨fun c _ => by rw [q.1], fun c y => q.2 c (by omega)⟩
theorem zIR_k {P : zSta} {h h' : am_H} (q : zKL h h') (q1 : zIR P h) : zIR P h' := by
  unfold zIR at q1 ⊢
  rw [(q 55 (by decide)).1, (q 56 (by decide)).1, (q 57 (by decide)).1, (q 58 (by decide)).1, (q 59 (by decide)).1, (q 74 (by decide)).1, (q 75 (by decide)).2, (q 76 (by decide)).1, (q 77 (by decide)).1]
  exact q1
/-- the class's side of the invariant, where only other cells were written -/
theorem zJk_f {ks : List Nat} {n m : Nat} {h h' : am_H} {N : Int} {G : Int → Int → Int} {S T : Int} (q_nm : n ≤ m) (q : ∀ c, c ∉ ks → h'.1 c = h.1 c) (q1 : ∀ c, c ∈ [1, 3, 5, 6, 7, 8, 9, 10, 11, 12, 13, 14, 15, 16, 17, 18, 19, 21, 34, 36, 41] → c ∉ ks) (q2 : zJk n h N G S T) : zJk m h' N G S T := by
  obtain ⟨zs, zk, zb, zt, zj, ⟨a1, a2, a3, a4, a5⟩, b1, b2, b3, b4, ⟨c1, c2⟩, e1, e2⟩ := q2
  have qf : am_fr ks (h.1, h'.2) h' := ⟨rfl, q⟩
  refine ⟨zs, zk, zb, zt, zj, ⟨?_, ?_, ?_, ?_, ?_⟩, by omega, b2, b3, by omega, ⟨?_, ?_⟩, fun y => ?_, fun y => ?_⟩
  · rw [q 1 (q1 _ (by decide))]; exact a1
  · rw [q 3 (q1 _ (by decide))]; exact a2
  · rw [q 18 (q1 _ (by decide))]; exact a3
  · rw [q 34 (q1 _ (by decide))]; exact a4
  · rw [q 36 (q1 _ (by decide))]; exact a5
  · rw [q 8 (q1 _ (by decide))]; exact c1
  · rw [q 41 (q1 _ (by decide))]; exact c2
  · exact zPlan_f_3 qf (fun c z => q1 c (by revert z; revert c; decide)) (show zPlan_3 (h.1, h'.2) N G T from e1 y)
  · exact zBnd_f qf (q1 _ (by decide)) (q1 _ (by decide)) (q1 _ (by decide)) (show zBnd (h.1, h'.2) N G S T from e2 y)
theorem zJk_s {n m : Nat} {h : am_H} {N : Int} {G : Int → Int → Int} {S T : Int} (q_nm : n ≤ m) (q2 : zJk n h N G S T) : zJk m h N G S T := zJk_f (ks := []) q_nm (fun _ _ => rfl) (fun _ _ y => by cases y) q2
theorem zIL_k {n : Nat} {P : zSta} {h h' : am_H} (q : zKR h h') (q1 : zIL n P h) : zIL n P h' := by
  unfold zIL at q1 ⊢
  rw [q.1 1 (by decide), q.1 2 (by decide), q.1 24 (by decide), q.1 25 (by decide), q.1 26 (by decide), q.1 27 (by decide), q.1 28 (by decide), q.1 33 (by decide), q.2 32 (by decide), q.1 0 (by decide), q.1 51 (by decide), q.1 52 (by decide), q.1 54 (by decide)]
  exact ⟨q1.1, q1.2.1, q1.2.2.1, q1.2.2.2.1, q1.2.2.2.2.1, q1.2.2.2.2.2.1, zJk_f (Nat.le_refl n) q.1 (by decide) q1.2.2.2.2.2.2⟩
