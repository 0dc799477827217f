/-! ONE CELL CHANGES, OR COMES -/
theorem am_in_spec {i : Int32} {n : Nat} (h : am_in i n = true) : ¬ (i < 0 ∨ n ≤ i.toNatClampNeg) := by
  unfold am_in at h
  rw [Bool.and_eq_true] at h
  rintro (z | z)
  · have h1 := h.1
    rw [decide_eq_true z] at h1
    cases h1
  · have h2 := Nat.le_of_ble_eq_true h.2
    omega
theorem am_in_lt {i : Int32} {n : Nat} (h : am_in i n = true) : i.toNatClampNeg < n := Nat.not_le.mp fun z => am_in_spec h (Or.inr z)
theorem am_wr_ne {h : am_H} {c k c' : Nat} {v : Int32} (hne : c' ≠ c) : (am_wr h c k v).1 c' = h.1 c' := by
  funext j
  show (if c' = c ∧ j = k then v else h.1 c' j) = h.1 c' j
  rw [if_neg (fun z => hne z.1)]
theorem am_wr_eq {h : am_H} {c k j : Nat} {v : Int32} : (am_wr h c k v).1 c j = if j = k then v else h.1 c j := by
  show (if c = c ∧ j = k then v else h.1 c j) = _
  by_cases z : j = k
  · rw [if_pos ⟨rfl, z⟩, if_pos z]
  · rw [if_neg (fun q => z q.2), if_neg z]
theorem am_wl_ne {h : am_H} {c k c' : Nat} {v : Int64} (hne : c' ≠ c) : (am_wl h c k v).2 c' = h.2 c' := by
  funext j
  show (if c' = c ∧ j = k then v else h.2 c' j) = h.2 c' j
  rw [if_neg (fun z => hne z.1)]
theorem am_wl_eq {h : am_H} {c k j : Nat} {v : Int64} : (am_wl h c k v).2 c j = if j = k then v else h.2 c j := by
  show (if c = c ∧ j = k then v else h.2 c j) = _
  by_cases z : j = k
  · rw [if_pos ⟨rfl, z⟩, if_pos z]
  · rw [if_neg (fun q => z q.2), if_neg z]
theorem am_z_ne1 {h : am_H} {c c' : Nat} (hne : c' ≠ c) : (am_z h c).1 c' = h.1 c' := by
  funext j
  show (if c' = c then 0 else h.1 c' j) = h.1 c' j
  rw [if_neg hne]
theorem am_z_ne2 {h : am_H} {c c' : Nat} (hne : c' ≠ c) : (am_z h c).2 c' = h.2 c' := by
  funext j
  show (if c' = c then 0 else h.2 c' j) = h.2 c' j
  rw [if_neg hne]
theorem am_z_1 {h : am_H} {c j : Nat} : (am_z h c).1 c j = 0 := if_pos rfl
theorem am_z_2 {h : am_H} {c j : Nat} : (am_z h c).2 c j = 0 := if_pos rfl
section CELLS
variable {D : va_G} {ty : Nat → ClassId} {b : Nat} {xs : Nat → Int32} {L : Nat} {kr kr' : Nat × Nat} {h h' : am_H} {H H1 : Heap} {c0 : Nat}
/-- cell c0 is new, all others stay -/
theorem am_RP.one (X : am_RP D ty b xs L kr h H) (hc : c0 < kr.1) (h1 : ∀ c, c ≠ c0 → h'.1 c = h.1 c) (h2 : ∀ c, c ≠ c0 → h'.2 c = h.2 c) (hk : kr'.1 = kr.1) (hf : ∀ c, c ≠ c0 → ∀ k, am_fv b kr' h c k = am_fv b kr h c k) (z : H1.size = H.size) (oq : ∀ q : Nat, q ≠ b + c0 → H1[q]? = H[q]?) (hn : am_ce D ty b kr' h' H1 c0) : am_RP D ty b xs L kr' h' H1 := by
  obtain ⟨⟨a1, a2⟩, ⟨a3, a4⟩, a5⟩ := X
  refine ⟨⟨by rw [z, hk]; exact a1, by rw [hk]; exact a2⟩, ⟨by rw [h1 1050 (by omega)]; exact a3, by rw [h1 1051 (by omega)]; exact a4⟩, fun c hc2 => ?_⟩
  by_cases e : c = c0
  · subst e; exact hn
  · exact (a5 c (by rw [← hk]; exact hc2)).to (h1 c e) (h2 c e) (hf c e) (oq _ (by omega))
theorem am_fv_wr {c k c' j : Nat} {v : Int32} (hne : c' ≠ c) : am_fv b kr (am_wr h c k v) c' j = am_fv b kr h c' j := by
  unfold am_fv
  rw [am_wr_ne hne]
theorem am_RP.wi (X : am_RP D ty b xs L kr h H) (hc : c0 < kr.1) {t k : Nat} {v : Int32} (ht : t = 1 ∨ t = 2) (hs : (am_shp c0).1 = t) (z : H1.size = H.size) (oq : ∀ q : Nat, q ≠ b + c0 → H1[q]? = H[q]?)
    (e : H1[b + c0]? = some ((arrV (ty t) (am_shp c0).2 (fun j => .int (h.1 c0 j))).setSlot k (.int v))) : am_RP D ty b xs L kr (am_wr h c0 k v) H1 := by
  have e2 : H1[b + c0]? = some (arrV (ty t) (am_shp c0).2 (fun j => .int ((am_wr h c0 k v).1 c0 j))) := by
    rw [e, arrV_store]
    congr 2
    funext j
    rw [am_wr_eq]
    unfold updV
    by_cases q : j = k
    · rw [if_pos q, if_pos q]
    · rw [if_neg q, if_neg q]
  refine X.one hc (fun c hne => am_wr_ne hne) (fun c _ => rfl) rfl (fun c _ k => rfl) z oq ⟨fun q => ?_, fun q => ?_, fun q => ?_, fun q => ?_⟩
  · omega
  · have : t = 1 := by omega
    subst this; exact e2
  · have : t = 2 := by omega
    subst this; exact e2
  · omega
theorem am_RP.wlong (X : am_RP D ty b xs L kr h H) (hc : c0 < kr.1) {k : Nat} {v : Int64} (hs : (am_shp c0).1 = 3) (z : H1.size = H.size) (oq : ∀ q : Nat, q ≠ b + c0 → H1[q]? = H[q]?)
    (e : H1[b + c0]? = some ((arrV (ty 3) (am_shp c0).2 (fun j => .long (h.2 c0 j))).setSlot k (.long v))) : am_RP D ty b xs L kr (am_wl h c0 k v) H1 := by
  have e2 : H1[b + c0]? = some (arrV (ty 3) (am_shp c0).2 (fun j => .long ((am_wl h c0 k v).2 c0 j))) := by
    rw [e, arrV_store]
    congr 2
    funext j
    rw [am_wl_eq]
    unfold updV
    by_cases q : j = k
    · rw [if_pos q, if_pos q]
    · rw [if_neg q, if_neg q]
  refine X.one hc (fun c _ => rfl) (fun c hne => am_wl_ne hne) rfl (fun c _ k => rfl) z oq ⟨fun q => ?_, fun q => ?_, fun q => ?_, fun q => e2⟩ <;> omega
theorem am_fv_put (k : Nat) (v : Int32) (hr : (am_rt c0 k).2 = 1000) (j : Nat) : updV (am_fv b kr h c0) k (.int v) j = am_fv b kr (am_wr h c0 k v) c0 j := by
  unfold updV
  by_cases q : j = k
  · subst q
    rw [if_pos rfl]
    unfold am_fv
    rw [hr, am_wr_eq, if_pos rfl]
    rfl
  · rw [if_neg q]
    unfold am_fv
    rw [am_wr_eq, if_neg q]
theorem am_ri_inj {c k c' k' : Nat} (h1 : (am_rt c k).2 ≠ 1000) (e : (am_rt c' k').2 = (am_rt c k).2) : c' = c ∧ k' = k := by
  rcases am_rt_or c k with z | ⟨z, -⟩
  · exact absurd z h1
  · rcases am_rt_or c' k' with y | ⟨y, -⟩
    · exact absurd (e.symm.trans y) h1
    · rw [e, z] at y
      cases y
      exact ⟨rfl, rfl⟩
theorem am_fv_ref (k : Nat) (hr : (am_rt c0 k).2 = kr.2) (hr2 : (am_rt c0 k).2 ≠ 1000) (c j : Nat) (hne : ¬ (c = c0 ∧ j = k)) : am_fv b (kr.1, kr.2 + 1) h c j = am_fv b kr h c j := by
  unfold am_fv
  have n1 : (am_rt c j).2 ≠ kr.2 := fun z => hne (am_ri_inj hr2 (z.trans hr.symm))
  have e : Nat.blt (am_rt c j).2 (kr.2 + 1) = Nat.blt (am_rt c j).2 kr.2 := by
    rw [Bool.eq_iff_iff]
    constructor
    · intro z
      have := Nat.le_of_ble_eq_true z
      exact Nat.ble_eq_true_of_le (by omega)
    · intro z
      have := Nat.le_of_ble_eq_true z
      exact Nat.ble_eq_true_of_le (by omega)
  show (bif _ then _ else bif Nat.blt (am_rt c j).2 (kr.2 + 1) then _ else _) = _
  rw [e]
theorem am_fv_pref (k : Nat) (hr : (am_rt c0 k).2 = kr.2) (hr2 : (am_rt c0 k).2 ≠ 1000) (j : Nat) : updV (am_fv b kr h c0) k (.ref (b + (am_rt c0 k).1)) j = am_fv b (kr.1, kr.2 + 1) h c0 j := by
  unfold updV
  by_cases q : j = k
  · subst q
    rw [if_pos rfl]
    unfold am_fv
    have e1 : Nat.beq (am_rt c0 j).2 1000 = false := by
      cases z : Nat.beq (am_rt c0 j).2 1000 with
      | false => rfl
      | true => exact absurd (Nat.eq_of_beq_eq_true z) hr2
    have e2 : Nat.blt (am_rt c0 j).2 (kr.2 + 1) = true := Nat.ble_eq_true_of_le (by omega)
    rw [e1]
    show _ = (bif Nat.blt (am_rt c0 j).2 (kr.2 + 1) then _ else _)
    rw [e2]
    rfl
  · rw [if_neg q, am_fv_ref k hr hr2 c0 j (fun z => q z.2)]
/-- a cell comes -/
theorem am_RP.new (X : am_RP D ty b xs L kr h H) (hk : kr.1 < 1000) (z : H1.size = b + kr.1 + 1) (oq : ∀ q : Nat, q < b + kr.1 → H1[q]? = H[q]?) (hn : am_ce D ty b (kr.1 + 1, kr.2) (am_z h kr.1) H1 kr.1) : am_RP D ty b xs L (kr.1 + 1, kr.2) (am_z h kr.1) H1 := by
  obtain ⟨⟨a1, a2⟩, ⟨a3, a4⟩, a5⟩ := X
  refine ⟨⟨by rw [z]; rfl, hk⟩, ⟨by rw [am_z_ne1 (by omega)]; exact a3, by rw [am_z_ne1 (by omega)]; exact a4⟩, fun c hc => ?_⟩
  have hc : c < kr.1 + 1 := hc
  by_cases e : c = kr.1
  · subst e; exact hn
  · exact (a5 c (by omega)).to (am_z_ne1 e) (am_z_ne2 e) (fun k => rfl) (oq _ (by omega))
end CELLS
def am_cs (c : Nat) : Nat := bif Nat.beq (am_shp c).1 0 then am_nf (am_shp c).2 else (am_shp c).2
def am_S : Nat → Nat
  | 0 => 0
  | k + 1 => am_S k + am_cs k
theorem am_S_mono {i j : Nat} (h : i ≤ j) : am_S i ≤ am_S j := by
  induction j with
  | zero => rw [Nat.le_zero.mp h]; exact Nat.le_refl _
  | succ j ih =>
    by_cases e : i = j + 1
    · subst e; exact Nat.le_refl _
    · exact Nat.le_trans (ih (by omega)) (Nat.le_add_right _ _)
