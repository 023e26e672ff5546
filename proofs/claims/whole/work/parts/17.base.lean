section SpBase
variable {X : sp_X} {N d : Nat} {Rt : sp_Rt} {a : sp_Ac} {pc : Nat} {ls st : List Value} {g : sp_G}
theorem sr_getIv (hA : sp_Act X N d Rt a) {idx ci j i c : Nat} {v : Int32} (hi : decode (sp_b N) pc = .ok (.getfield idx, 3)) (hf : sp_okF N idx ci j i = true) (hci : ci < 9) (hc : c < sp_K) (hk : sp_kd c = ci) (ht : sp_ft ci j = 0 ∨ sp_ft ci j = 3) (hv : g.1 c j = v) (k : sp_Ev X a N (pc + 3) ls (.int v :: st) g) : sp_Ev X a N pc ls (.ref c :: st) g := sr_getI hA hi hf hci hc hk ht (by rw [hv]; exact k)
theorem sr_getLv (hA : sp_Act X N d Rt a) {idx ci j i c : Nat} {v : Int64} (hi : decode (sp_b N) pc = .ok (.getfield idx, 3)) (hf : sp_okF N idx ci j i = true) (hci : ci < 9) (hc : c < sp_K) (hk : sp_kd c = ci) (ht : sp_ft ci j = 1) (hv : g.2 c j = v) (k : sp_Ev X a N (pc + 3) ls (.long v :: st) g) : sp_Ev X a N pc ls (.ref c :: st) g := sr_getL hA hi hf hci hc hk ht (by rw [hv]; exact k)
theorem sr_ialdNv (hA : sp_Act X N d Rt a) {c i : Nat} {v : Int32} (hi : decode (sp_b N) pc = .ok (.iaload, 1)) (hc : c < sp_K) (hk : sp_kd c = 10) {n : Nat} (hn : sp_ln c = n) (hin : i < n) (hs : n < 2 ^ 31) (hv : g.1 c i = v) (k : sp_Ev X a N (pc + 1) ls (.int v :: st) g) : sp_Ev X a N pc ls (.int (nI i) :: .ref c :: st) g := sr_ialdN hA hi hc hk hn hin hs (by rw [hv]; exact k)
theorem sr_baldNv (hA : sp_Act X N d Rt a) {c i : Nat} {v : Int32} (hi : decode (sp_b N) pc = .ok (.baload, 1)) (hc : c < sp_K) (hk : sp_kd c = 11) {n : Nat} (hn : sp_ln c = n) (hin : i < n) (hs : n < 2 ^ 31) (hv : g.1 c i = v) (k : sp_Ev X a N (pc + 1) ls (.int v :: st) g) : sp_Ev X a N pc ls (.int (nI i) :: .ref c :: st) g := sr_baldN hA hi hc hk hn hin hs (by rw [hv]; exact k)
theorem sr_zaldNv (hA : sp_Act X N d Rt a) {c i : Nat} {v : Int32} (hi : decode (sp_b N) pc = .ok (.baload, 1)) (hc : c < sp_K) (hk : sp_kd c = 12) {n : Nat} (hn : sp_ln c = n) (hin : i < n) (hs : n < 2 ^ 31) (hv : g.1 c i = v) (k : sp_Ev X a N (pc + 1) ls (.int v :: st) g) : sp_Ev X a N pc ls (.int (nI i) :: .ref c :: st) g := sr_zaldN hA hi hc hk hn hin hs (by rw [hv]; exact k)
theorem sr_laldNv (hA : sp_Act X N d Rt a) {c i : Nat} {v : Int64} (hi : decode (sp_b N) pc = .ok (.laload, 1)) (hc : c < sp_K) (hk : sp_kd c = 13) {n : Nat} (hn : sp_ln c = n) (hin : i < n) (hs : n < 2 ^ 31) (hv : g.2 c i = v) (k : sp_Ev X a N (pc + 1) ls (.long v :: st) g) : sp_Ev X a N pc ls (.int (nI i) :: .ref c :: st) g := sr_laldN hA hi hc hk hn hin hs (by rw [hv]; exact k)
theorem sp_mmy : sp_y 48 = Lib.Math.min.name := by decide +kernel
theorem sp_mmy2 : sp_y 49 = Lib.Math.max.name := by decide +kernel
theorem sn_4 : sp_has 470 (.static Lib.Math.min.name) = true := by decide +kernel
theorem sn_5 : sp_has 473 (.static Lib.Math.max.name) = true := by decide +kernel
theorem sn_6 : sp_has 77 (.initialized "java/lang/Math") = true := by decide +kernel
theorem sn_7 : sp_has 471 (.code Lib.Math.min.name Lib.Math.min.code 2 (some .int)) = true := by decide +kernel
theorem sn_8 : sp_has 474 (.code Lib.Math.max.name Lib.Math.max.code 2 (some .int)) = true := by decide +kernel
theorem sr_mmin (hA : sp_Act X N d Rt a) {idx i5 : Nat} {x y : Int32} (hi : decode (sp_b N) pc = .ok (.invokestatic idx, 3)) (hL : sp_okL N idx 48 i5 = true) (hd : 1 ≤ d) (hrest : (st.map fun v => v.category).sum ≤ 8) (k : sp_Ev X a N (pc + 3) ls (.int (if y < x then y else x) :: st) g) : sp_Ev X a N pc ls (.int y :: .int x :: st) g := fun H locs sl hw hl => by
  have hcat : ((st.map (sp_rv X)).map fun v => v.category).sum ≤ 8 := by
    rw [List.map_map, show ((fun v : Value => v.category) ∘ sp_rv X) = (fun v => v.category) from funext (sp_rv_cat X)]
    exact hrest
  unfold sp_okL at hL
  rw [sp_mmy] at hL
  have hfr := hA.2.2.2.2.2.2.2.1
  have hlo := hA.2.2.2.2.2.2.2.2.1
  exact va_mmin hA.1 hA.2.1 (by rw [hA.2.2.1]; exact hl.1.symm) hA.2.2.2.1 (hA.2.2.2.2.1 _ (sp_in hL)) (hA.2.2.2.2.1 _ (sp_in sn_4)) (hA.2.2.2.2.1 _ (sp_in sn_6)) (hA.2.2.2.2.1 _ (sp_in sn_7)) (by omega) (by omega) hA.2.2.2.2.2.2.2.2.2.1 hA.2.2.2.2.2.2.2.2.2.2.1 hi (k H locs sl hw hl)
theorem sr_mmax (hA : sp_Act X N d Rt a) {idx i5 : Nat} {x y : Int32} (hi : decode (sp_b N) pc = .ok (.invokestatic idx, 3)) (hL : sp_okL N idx 49 i5 = true) (hd : 1 ≤ d) (hrest : (st.map fun v => v.category).sum ≤ 8) (k : sp_Ev X a N (pc + 3) ls (.int (if x < y then y else x) :: st) g) : sp_Ev X a N pc ls (.int y :: .int x :: st) g := fun H locs sl hw hl => by
  have hcat : ((st.map (sp_rv X)).map fun v => v.category).sum ≤ 8 := by
    rw [List.map_map, show ((fun v : Value => v.category) ∘ sp_rv X) = (fun v => v.category) from funext (sp_rv_cat X)]
    exact hrest
  unfold sp_okL at hL
  rw [sp_mmy2] at hL
  have hfr := hA.2.2.2.2.2.2.2.1
  have hlo := hA.2.2.2.2.2.2.2.2.1
  exact va_mmax hA.1 hA.2.1 (by rw [hA.2.2.1]; exact hl.1.symm) hA.2.2.2.1 (hA.2.2.2.2.1 _ (sp_in hL)) (hA.2.2.2.2.1 _ (sp_in sn_5)) (hA.2.2.2.2.1 _ (sp_in sn_6)) (hA.2.2.2.2.1 _ (sp_in sn_8)) (by omega) (by omega) hA.2.2.2.2.2.2.2.2.2.1 hA.2.2.2.2.2.2.2.2.2.2.1 hi (k H locs sl hw hl)
end SpBase
/-! numbers below 0 against small ones -/
theorem sp_toI {k : Nat} (hk : k < 2 ^ 31) : (nI k).toInt = (k : Int) := nI_toInt hk
theorem sp_lt0 {x : Int32} (h : x < 0) : x.toInt < 0 := by simpa using Int32.lt_iff_toInt_lt.mp h
theorem sp_n1 {x : Int32} (h : x < 0) {k : Nat} (hk : k < 2 ^ 31) : x < nI k := Int32.lt_iff_toInt_lt.mpr (by have := sp_lt0 h; rw [sp_toI hk]; omega)
theorem sp_n2 {x : Int32} (h : x < 0) {k : Nat} (hk : k < 2 ^ 31) : x ≤ nI k := Int32.le_iff_toInt_le.mpr (by have := sp_lt0 h; rw [sp_toI hk]; omega)
theorem sp_n4 {x : Int32} (h : x < 0) {k : Nat} (hk : k < 2 ^ 31) : ¬ nI k ≤ x := fun q => by have := sp_lt0 h; have q := Int32.le_iff_toInt_le.mp q; rw [sp_toI hk] at q; omega
theorem sp_n5 {x : Int32} (h : x < 0) {k : Nat} (hk : k < 2 ^ 31) : ¬ nI k < x := fun q => by have := sp_lt0 h; have q := Int32.lt_iff_toInt_lt.mp q; rw [sp_toI hk] at q; omega
theorem sp_n3 {x : Int32} (h : x < 0) {k : Nat} (hk : k < 2 ^ 31) : ¬ x = nI k := fun q => sp_n4 h hk (by rw [q]; exact Int32.le_refl _)
theorem sp_m1 {x : Int32} (h : x < 0) : ¬ x = 0 := sp_n3 h (k := 0) (by omega)
theorem sp_m2 {x : Int32} (h : x < 0) : x ≤ 0 := sp_n2 h (k := 0) (by omega)
theorem sp_m4 {x : Int32} (h : x < 0) : ¬ 0 ≤ x := sp_n4 h (k := 0) (by omega)
theorem sp_m5 {x : Int32} (h : x < 0) : ¬ 0 < x := sp_n5 h (k := 0) (by omega)
/-- every int is below 0 or a small number -/
theorem sp_cls (x : Int32) : x < 0 ∨ ∃ k, k < 2 ^ 31 ∧ x = nI k := by
  by_cases h : x < 0
  · exact Or.inl h
  · exact Or.inr (nI_of h)
