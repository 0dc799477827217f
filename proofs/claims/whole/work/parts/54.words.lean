/-! TEXTS THAT ARE READ: words -/
def zWl (w : Nat) : List Int := bif Nat.beq w 0 then [100, 101, 109, 97, 110, 100] else bif Nat.beq w 1 then [115, 101, 116, 117, 112] else bif Nat.beq w 2 then [109, 97, 107, 105, 110, 103] else bif Nat.beq w 3 then [104, 111, 108, 100, 105, 110, 103] else bif Nat.beq w 4 then [108, 97, 116, 101] else [114, 111, 111, 109]
def zWb (w : Nat) (k : Nat) : Int := (zWl w).getD k 0
def zSg (F : Int → Int) (L i : Int) : Int := if 0 ≤ i ∧ i < L then F i else -1
/-- the word w stands from i up to j -/
def zMt (F : Int → Int) (w : Nat) (i j : Int) : Prop := j - i = ((zWl w).length : Int) ∧ ∀ k : Nat, k < (zWl w).length → F (i + k) = zWb w k
theorem js_len_0 (zd : Nat) (q_d : 1 ≤ zd) {zh : am_H} : am_wp zd am_m_String_length 0 [(0, .ref 1000)] [] (78, 76) zh (78, 76) (fun rv h' => rv = some (.int (iN 6)) ∧ zh = h') := by
  obtain ⟨zd, rfl⟩ : ∃ y_e, zd = y_e + 1 := ⟨zd - 1, by omega⟩
  exact ⟨20, some (.int (iN 6)), zh, rfl, rfl, rfl⟩
theorem js_at_0 (zd : Nat) (q_d : 3 ≤ zd) {zh : am_H} {zi : Nat} (q_i : zi < 6) : am_wp zd am_m_String_charAt 0 [(0, .ref 1000), (1, .int (iN (zi : Int)))] [] (78, 76) zh (78, 76) (fun rv h' => rv = some (.int (iN (zWb 0 zi))) ∧ zh = h') := by
  obtain ⟨zd, rfl⟩ : ∃ y_e, zd = y_e + 3 := ⟨zd - 3, by omega⟩
  rcases (show zi = 0 ∨ zi = 1 ∨ zi = 2 ∨ zi = 3 ∨ zi = 4 ∨ zi = 5 by omega) with rfl | rfl | rfl | rfl | rfl | rfl
  · exact ⟨60, some (.int (iN 100)), zh, rfl, rfl, rfl⟩
  · exact ⟨60, some (.int (iN 101)), zh, rfl, rfl, rfl⟩
  · exact ⟨60, some (.int (iN 109)), zh, rfl, rfl, rfl⟩
  · exact ⟨60, some (.int (iN 97)), zh, rfl, rfl, rfl⟩
  · exact ⟨60, some (.int (iN 110)), zh, rfl, rfl, rfl⟩
  · exact ⟨60, some (.int (iN 100)), zh, rfl, rfl, rfl⟩
theorem js_len_1 (zd : Nat) (q_d : 1 ≤ zd) {zh : am_H} : am_wp zd am_m_String_length 0 [(0, .ref 1001)] [] (78, 76) zh (78, 76) (fun rv h' => rv = some (.int (iN 5)) ∧ zh = h') := by
  obtain ⟨zd, rfl⟩ : ∃ y_e, zd = y_e + 1 := ⟨zd - 1, by omega⟩
  exact ⟨20, some (.int (iN 5)), zh, rfl, rfl, rfl⟩
theorem js_at_1 (zd : Nat) (q_d : 3 ≤ zd) {zh : am_H} {zi : Nat} (q_i : zi < 5) : am_wp zd am_m_String_charAt 0 [(0, .ref 1001), (1, .int (iN (zi : Int)))] [] (78, 76) zh (78, 76) (fun rv h' => rv = some (.int (iN (zWb 1 zi))) ∧ zh = h') := by
  obtain ⟨zd, rfl⟩ : ∃ y_e, zd = y_e + 3 := ⟨zd - 3, by omega⟩
  rcases (show zi = 0 ∨ zi = 1 ∨ zi = 2 ∨ zi = 3 ∨ zi = 4 by omega) with rfl | rfl | rfl | rfl | rfl
  · exact ⟨60, some (.int (iN 115)), zh, rfl, rfl, rfl⟩
  · exact ⟨60, some (.int (iN 101)), zh, rfl, rfl, rfl⟩
  · exact ⟨60, some (.int (iN 116)), zh, rfl, rfl, rfl⟩
  · exact ⟨60, some (.int (iN 117)), zh, rfl, rfl, rfl⟩
  · exact ⟨60, some (.int (iN 112)), zh, rfl, rfl, rfl⟩
theorem js_len_2 (zd : Nat) (q_d : 1 ≤ zd) {zh : am_H} : am_wp zd am_m_String_length 0 [(0, .ref 1002)] [] (78, 76) zh (78, 76) (fun rv h' => rv = some (.int (iN 6)) ∧ zh = h') := by
  obtain ⟨zd, rfl⟩ : ∃ y_e, zd = y_e + 1 := ⟨zd - 1, by omega⟩
  exact ⟨20, some (.int (iN 6)), zh, rfl, rfl, rfl⟩
theorem js_at_2 (zd : Nat) (q_d : 3 ≤ zd) {zh : am_H} {zi : Nat} (q_i : zi < 6) : am_wp zd am_m_String_charAt 0 [(0, .ref 1002), (1, .int (iN (zi : Int)))] [] (78, 76) zh (78, 76) (fun rv h' => rv = some (.int (iN (zWb 2 zi))) ∧ zh = h') := by
  obtain ⟨zd, rfl⟩ : ∃ y_e, zd = y_e + 3 := ⟨zd - 3, by omega⟩
  rcases (show zi = 0 ∨ zi = 1 ∨ zi = 2 ∨ zi = 3 ∨ zi = 4 ∨ zi = 5 by omega) with rfl | rfl | rfl | rfl | rfl | rfl
  · exact ⟨60, some (.int (iN 109)), zh, rfl, rfl, rfl⟩
  · exact ⟨60, some (.int (iN 97)), zh, rfl, rfl, rfl⟩
  · exact ⟨60, some (.int (iN 107)), zh, rfl, rfl, rfl⟩
  · exact ⟨60, some (.int (iN 105)), zh, rfl, rfl, rfl⟩
  · exact ⟨60, some (.int (iN 110)), zh, rfl, rfl, rfl⟩
  · exact ⟨60, some (.int (iN 103)), zh, rfl, rfl, rfl⟩
theorem js_len_3 (zd : Nat) (q_d : 1 ≤ zd) {zh : am_H} : am_wp zd am_m_String_length 0 [(0, .ref 1003)] [] (78, 76) zh (78, 76) (fun rv h' => rv = some (.int (iN 7)) ∧ zh = h') := by
  obtain ⟨zd, rfl⟩ : ∃ y_e, zd = y_e + 1 := ⟨zd - 1, by omega⟩
  exact ⟨20, some (.int (iN 7)), zh, rfl, rfl, rfl⟩
theorem js_at_3 (zd : Nat) (q_d : 3 ≤ zd) {zh : am_H} {zi : Nat} (q_i : zi < 7) : am_wp zd am_m_String_charAt 0 [(0, .ref 1003), (1, .int (iN (zi : Int)))] [] (78, 76) zh (78, 76) (fun rv h' => rv = some (.int (iN (zWb 3 zi))) ∧ zh = h') := by
  obtain ⟨zd, rfl⟩ : ∃ y_e, zd = y_e + 3 := ⟨zd - 3, by omega⟩
  rcases (show zi = 0 ∨ zi = 1 ∨ zi = 2 ∨ zi = 3 ∨ zi = 4 ∨ zi = 5 ∨ zi = 6 by omega) with rfl | rfl | rfl | rfl | rfl | rfl | rfl
  · exact ⟨60, some (.int (iN 104)), zh, rfl, rfl, rfl⟩
  · exact ⟨60, some (.int (iN 111)), zh, rfl, rfl, rfl⟩
  · exact ⟨60, some (.int (iN 108)), zh, rfl, rfl, rfl⟩
  · exact ⟨60, some (.int (iN 100)), zh, rfl, rfl, rfl⟩
  · exact ⟨60, some (.int (iN 105)), zh, rfl, rfl, rfl⟩
  · exact ⟨60, some (.int (iN 110)), zh, rfl, rfl, rfl⟩
  · exact ⟨60, some (.int (iN 103)), zh, rfl, rfl, rfl⟩
theorem js_len_4 (zd : Nat) (q_d : 1 ≤ zd) {zh : am_H} : am_wp zd am_m_String_length 0 [(0, .ref 1004)] [] (78, 76) zh (78, 76) (fun rv h' => rv = some (.int (iN 4)) ∧ zh = h') := by
  obtain ⟨zd, rfl⟩ : ∃ y_e, zd = y_e + 1 := ⟨zd - 1, by omega⟩
  exact ⟨20, some (.int (iN 4)), zh, rfl, rfl, rfl⟩
theorem js_at_4 (zd : Nat) (q_d : 3 ≤ zd) {zh : am_H} {zi : Nat} (q_i : zi < 4) : am_wp zd am_m_String_charAt 0 [(0, .ref 1004), (1, .int (iN (zi : Int)))] [] (78, 76) zh (78, 76) (fun rv h' => rv = some (.int (iN (zWb 4 zi))) ∧ zh = h') := by
  obtain ⟨zd, rfl⟩ : ∃ y_e, zd = y_e + 3 := ⟨zd - 3, by omega⟩
  rcases (show zi = 0 ∨ zi = 1 ∨ zi = 2 ∨ zi = 3 by omega) with rfl | rfl | rfl | rfl
  · exact ⟨60, some (.int (iN 108)), zh, rfl, rfl, rfl⟩
  · exact ⟨60, some (.int (iN 97)), zh, rfl, rfl, rfl⟩
  · exact ⟨60, some (.int (iN 116)), zh, rfl, rfl, rfl⟩
  · exact ⟨60, some (.int (iN 101)), zh, rfl, rfl, rfl⟩
theorem js_len_5 (zd : Nat) (q_d : 1 ≤ zd) {zh : am_H} : am_wp zd am_m_String_length 0 [(0, .ref 1005)] [] (78, 76) zh (78, 76) (fun rv h' => rv = some (.int (iN 4)) ∧ zh = h') := by
  obtain ⟨zd, rfl⟩ : ∃ y_e, zd = y_e + 1 := ⟨zd - 1, by omega⟩
  exact ⟨20, some (.int (iN 4)), zh, rfl, rfl, rfl⟩
theorem js_at_5 (zd : Nat) (q_d : 3 ≤ zd) {zh : am_H} {zi : Nat} (q_i : zi < 4) : am_wp zd am_m_String_charAt 0 [(0, .ref 1005), (1, .int (iN (zi : Int)))] [] (78, 76) zh (78, 76) (fun rv h' => rv = some (.int (iN (zWb 5 zi))) ∧ zh = h') := by
  obtain ⟨zd, rfl⟩ : ∃ y_e, zd = y_e + 3 := ⟨zd - 3, by omega⟩
  rcases (show zi = 0 ∨ zi = 1 ∨ zi = 2 ∨ zi = 3 by omega) with rfl | rfl | rfl | rfl
  · exact ⟨60, some (.int (iN 114)), zh, rfl, rfl, rfl⟩
  · exact ⟨60, some (.int (iN 111)), zh, rfl, rfl, rfl⟩
  · exact ⟨60, some (.int (iN 111)), zh, rfl, rfl, rfl⟩
  · exact ⟨60, some (.int (iN 109)), zh, rfl, rfl, rfl⟩
theorem js_len_6 (zd : Nat) (q_d : 1 ≤ zd) {zh : am_H} : am_wp zd am_m_String_length 0 [(0, .ref 1006)] [] (78, 76) zh (78, 76) (fun rv h' => rv = some (.int (iN 6)) ∧ zh = h') := by
  obtain ⟨zd, rfl⟩ : ∃ y_e, zd = y_e + 1 := ⟨zd - 1, by omega⟩
  exact ⟨20, some (.int (iN 6)), zh, rfl, rfl, rfl⟩
theorem js_at_6 (zd : Nat) (q_d : 3 ≤ zd) {zh : am_H} {zi : Nat} (q_i : zi < 6) : am_wp zd am_m_String_charAt 0 [(0, .ref 1006), (1, .int (iN (zi : Int)))] [] (78, 76) zh (78, 76) (fun rv h' => rv = some (.int (iN (zWb 0 zi))) ∧ zh = h') := by
  obtain ⟨zd, rfl⟩ : ∃ y_e, zd = y_e + 3 := ⟨zd - 3, by omega⟩
  rcases (show zi = 0 ∨ zi = 1 ∨ zi = 2 ∨ zi = 3 ∨ zi = 4 ∨ zi = 5 by omega) with rfl | rfl | rfl | rfl | rfl | rfl
  · exact ⟨60, some (.int (iN 100)), zh, rfl, rfl, rfl⟩
  · exact ⟨60, some (.int (iN 101)), zh, rfl, rfl, rfl⟩
  · exact ⟨60, some (.int (iN 109)), zh, rfl, rfl, rfl⟩
  · exact ⟨60, some (.int (iN 97)), zh, rfl, rfl, rfl⟩
  · exact ⟨60, some (.int (iN 110)), zh, rfl, rfl, rfl⟩
  · exact ⟨60, some (.int (iN 100)), zh, rfl, rfl, rfl⟩
theorem js_len_7 (zd : Nat) (q_d : 1 ≤ zd) {zh : am_H} : am_wp zd am_m_String_length 0 [(0, .ref 1007)] [] (78, 76) zh (78, 76) (fun rv h' => rv = some (.int (iN 5)) ∧ zh = h') := by
  obtain ⟨zd, rfl⟩ : ∃ y_e, zd = y_e + 1 := ⟨zd - 1, by omega⟩
  exact ⟨20, some (.int (iN 5)), zh, rfl, rfl, rfl⟩
theorem js_at_7 (zd : Nat) (q_d : 3 ≤ zd) {zh : am_H} {zi : Nat} (q_i : zi < 5) : am_wp zd am_m_String_charAt 0 [(0, .ref 1007), (1, .int (iN (zi : Int)))] [] (78, 76) zh (78, 76) (fun rv h' => rv = some (.int (iN (zWb 1 zi))) ∧ zh = h') := by
  obtain ⟨zd, rfl⟩ : ∃ y_e, zd = y_e + 3 := ⟨zd - 3, by omega⟩
  rcases (show zi = 0 ∨ zi = 1 ∨ zi = 2 ∨ zi = 3 ∨ zi = 4 by omega) with rfl | rfl | rfl | rfl | rfl
  · exact ⟨60, some (.int (iN 115)), zh, rfl, rfl, rfl⟩
  · exact ⟨60, some (.int (iN 101)), zh, rfl, rfl, rfl⟩
  · exact ⟨60, some (.int (iN 116)), zh, rfl, rfl, rfl⟩
  · exact ⟨60, some (.int (iN 117)), zh, rfl, rfl, rfl⟩
  · exact ⟨60, some (.int (iN 112)), zh, rfl, rfl, rfl⟩
theorem js_len_8 (zd : Nat) (q_d : 1 ≤ zd) {zh : am_H} : am_wp zd am_m_String_length 0 [(0, .ref 1008)] [] (78, 76) zh (78, 76) (fun rv h' => rv = some (.int (iN 6)) ∧ zh = h') := by
  obtain ⟨zd, rfl⟩ : ∃ y_e, zd = y_e + 1 := ⟨zd - 1, by omega⟩
  exact ⟨20, some (.int (iN 6)), zh, rfl, rfl, rfl⟩
theorem js_at_8 (zd : Nat) (q_d : 3 ≤ zd) {zh : am_H} {zi : Nat} (q_i : zi < 6) : am_wp zd am_m_String_charAt 0 [(0, .ref 1008), (1, .int (iN (zi : Int)))] [] (78, 76) zh (78, 76) (fun rv h' => rv = some (.int (iN (zWb 2 zi))) ∧ zh = h') := by
  obtain ⟨zd, rfl⟩ : ∃ y_e, zd = y_e + 3 := ⟨zd - 3, by omega⟩
  rcases (show zi = 0 ∨ zi = 1 ∨ zi = 2 ∨ zi = 3 ∨ zi = 4 ∨ zi = 5 by omega) with rfl | rfl | rfl | rfl | rfl | rfl
  · exact ⟨60, some (.int (iN 109)), zh, rfl, rfl, rfl⟩
  · exact ⟨60, some (.int (iN 97)), zh, rfl, rfl, rfl⟩
  · exact ⟨60, some (.int (iN 107)), zh, rfl, rfl, rfl⟩
  · exact ⟨60, some (.int (iN 105)), zh, rfl, rfl, rfl⟩
  · exact ⟨60, some (.int (iN 110)), zh, rfl, rfl, rfl⟩
  · exact ⟨60, some (.int (iN 103)), zh, rfl, rfl, rfl⟩
theorem js_len_9 (zd : Nat) (q_d : 1 ≤ zd) {zh : am_H} : am_wp zd am_m_String_length 0 [(0, .ref 1009)] [] (78, 76) zh (78, 76) (fun rv h' => rv = some (.int (iN 7)) ∧ zh = h') := by
  obtain ⟨zd, rfl⟩ : ∃ y_e, zd = y_e + 1 := ⟨zd - 1, by omega⟩
  exact ⟨20, some (.int (iN 7)), zh, rfl, rfl, rfl⟩
theorem js_at_9 (zd : Nat) (q_d : 3 ≤ zd) {zh : am_H} {zi : Nat} (q_i : zi < 7) : am_wp zd am_m_String_charAt 0 [(0, .ref 1009), (1, .int (iN (zi : Int)))] [] (78, 76) zh (78, 76) (fun rv h' => rv = some (.int (iN (zWb 3 zi))) ∧ zh = h') := by
  obtain ⟨zd, rfl⟩ : ∃ y_e, zd = y_e + 3 := ⟨zd - 3, by omega⟩
  rcases (show zi = 0 ∨ zi = 1 ∨ zi = 2 ∨ zi = 3 ∨ zi = 4 ∨ zi = 5 ∨ zi = 6 by omega) with rfl | rfl | rfl | rfl | rfl | rfl | rfl
  · exact ⟨60, some (.int (iN 104)), zh, rfl, rfl, rfl⟩
  · exact ⟨60, some (.int (iN 111)), zh, rfl, rfl, rfl⟩
  · exact ⟨60, some (.int (iN 108)), zh, rfl, rfl, rfl⟩
  · exact ⟨60, some (.int (iN 100)), zh, rfl, rfl, rfl⟩
  · exact ⟨60, some (.int (iN 105)), zh, rfl, rfl, rfl⟩
  · exact ⟨60, some (.int (iN 110)), zh, rfl, rfl, rfl⟩
  · exact ⟨60, some (.int (iN 103)), zh, rfl, rfl, rfl⟩
theorem js_len_10 (zd : Nat) (q_d : 1 ≤ zd) {zh : am_H} : am_wp zd am_m_String_length 0 [(0, .ref 1010)] [] (78, 76) zh (78, 76) (fun rv h' => rv = some (.int (iN 4)) ∧ zh = h') := by
  obtain ⟨zd, rfl⟩ : ∃ y_e, zd = y_e + 1 := ⟨zd - 1, by omega⟩
  exact ⟨20, some (.int (iN 4)), zh, rfl, rfl, rfl⟩
theorem js_at_10 (zd : Nat) (q_d : 3 ≤ zd) {zh : am_H} {zi : Nat} (q_i : zi < 4) : am_wp zd am_m_String_charAt 0 [(0, .ref 1010), (1, .int (iN (zi : Int)))] [] (78, 76) zh (78, 76) (fun rv h' => rv = some (.int (iN (zWb 4 zi))) ∧ zh = h') := by
  obtain ⟨zd, rfl⟩ : ∃ y_e, zd = y_e + 3 := ⟨zd - 3, by omega⟩
  rcases (show zi = 0 ∨ zi = 1 ∨ zi = 2 ∨ zi = 3 by omega) with rfl | rfl | rfl | rfl
  · exact ⟨60, some (.int (iN 108)), zh, rfl, rfl, rfl⟩
  · exact ⟨60, some (.int (iN 97)), zh, rfl, rfl, rfl⟩
  · exact ⟨60, some (.int (iN 116)), zh, rfl, rfl, rfl⟩
  · exact ⟨60, some (.int (iN 101)), zh, rfl, rfl, rfl⟩
theorem js_len_11 (zd : Nat) (q_d : 1 ≤ zd) {zh : am_H} : am_wp zd am_m_String_length 0 [(0, .ref 1011)] [] (78, 76) zh (78, 76) (fun rv h' => rv = some (.int (iN 4)) ∧ zh = h') := by
  obtain ⟨zd, rfl⟩ : ∃ y_e, zd = y_e + 1 := ⟨zd - 1, by omega⟩
  exact ⟨20, some (.int (iN 4)), zh, rfl, rfl, rfl⟩
theorem js_at_11 (zd : Nat) (q_d : 3 ≤ zd) {zh : am_H} {zi : Nat} (q_i : zi < 4) : am_wp zd am_m_String_charAt 0 [(0, .ref 1011), (1, .int (iN (zi : Int)))] [] (78, 76) zh (78, 76) (fun rv h' => rv = some (.int (iN (zWb 5 zi))) ∧ zh = h') := by
  obtain ⟨zd, rfl⟩ : ∃ y_e, zd = y_e + 3 := ⟨zd - 3, by omega⟩
  rcases (show zi = 0 ∨ zi = 1 ∨ zi = 2 ∨ zi = 3 by omega) with rfl | rfl | rfl | rfl
  · exact ⟨60, some (.int (iN 114)), zh, rfl, rfl, rfl⟩
  · exact ⟨60, some (.int (iN 111)), zh, rfl, rfl, rfl⟩
  · exact ⟨60, some (.int (iN 111)), zh, rfl, rfl, rfl⟩
  · exact ⟨60, some (.int (iN 109)), zh, rfl, rfl, rfl⟩
