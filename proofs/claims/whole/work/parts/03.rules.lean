section SpRules
variable {X : sp_X} {N d : Nat} {Rt : sp_Rt} {a : sp_Ac} {pc : Nat} {ls st : List Value} {g : sp_G}
/-! locals -/
def sp_kl (ls : List Value) (i : Nat) : List Value := match i with
  | 0 => ls
  | k + 1 => match ls[k]? with
    | some w => if w.category = 2 then ls.set k .null else ls
    | none => ls
def sp_s1 (ls : List Value) (i : Nat) (v : Value) : List Value := (sp_kl ls i).set i v
def sp_s2 (ls : List Value) (i : Nat) (v : Value) : List Value := ((sp_kl ls i).set i v).set (i + 1) .null
def sp_lv (X : sp_X) (ls : List Value) : List (Nat × Value) := (List.range ls.length).filterMap (fun (i : Nat) => match ls[i]? with
  | some Value.null => none
  | some v => some (i, sp_rv X v)
  | none => none)
theorem sp_lv_mem {X : sp_X} {ls : List Value} {i : Nat} {v : Value} (h : ls[i]? = some v) (hv : v ≠ .null) : (i, sp_rv X v) ∈ sp_lv X ls := by
  refine List.mem_filterMap.mpr ⟨i, List.mem_range.mpr (List.getElem?_eq_some_iff.mp h).1, ?_⟩
  rw [h]
  cases v <;> first | rfl | exact absurd rfl hv
theorem sp_lv_has {X : sp_X} {sl : Array Slot} {n : Nat} {ls : List Value} (h : sp_LH X sl n ls) : lv_has sl n (sp_lv X ls) := by
  refine ⟨h.1, h.2.1, fun q hq => ?_⟩
  obtain ⟨i, -, hi⟩ := List.mem_filterMap.mp hq
  split at hi
  · cases hi
  · next v hne heq =>
    cases hi
    exact h.2.2 i v heq hne
  · cases hi
theorem sp_kl_at {ls : List Value} {i j : Nat} {w : Value} (h : (sp_kl ls i)[j]? = some w) (hw : w ≠ .null) : ls[j]? = some w ∧ ¬ (j + 1 = i ∧ w.category = 2) := by
  cases i with
  | zero => exact ⟨h, fun q => by omega⟩
  | succ k =>
    have h : (match ls[k]? with
      | some w => if w.category = 2 then ls.set k .null else ls
      | none => ls)[j]? = some w := h
    split at h
    · next u hu =>
      split at h
      · next hc =>
        by_cases hj : j = k
        · subst hj
          rw [List.getElem?_set_self (List.getElem?_eq_some_iff.mp hu).1] at h
          exact absurd (Option.some.inj h).symm hw
        · rw [List.getElem?_set_ne (fun e => hj e.symm)] at h
          exact ⟨h, fun q => hj (by omega)⟩
      · next hc =>
        refine ⟨h, fun q => ?_⟩
        have e : j = k := by omega
        rw [e, hu] at h
        exact hc (by rw [Option.some.inj h]; exact q.2)
    · next hu =>
      refine ⟨h, fun q => ?_⟩
      have e : j = k := by omega
      rw [e, hu] at h
      cases h
theorem sp_LH1 {X : sp_X} {sl : Array Slot} {n i : Nat} {ls : List Value} {v : Value} (h : lv_has sl n ((i, sp_rv X v) :: (sp_lv X ls).filter (fun q => !(q.1 == i) && !(q.1 + 1 == i && q.2.category == 2)))) : sp_LH X sl n (sp_s1 ls i v) := by
  refine ⟨h.1, h.2.1, fun j w hj hw => ?_⟩
  unfold sp_s1 at hj
  by_cases e : j = i
  · subst e
    have hlt : j < (sp_kl ls j).length := by
      have := (List.getElem?_eq_some_iff.mp hj).1
      simpa using this
    rw [List.getElem?_set_self hlt] at hj
    cases hj
    exact h.2.2 _ List.mem_cons_self
  · rw [List.getElem?_set_ne (fun q => e q.symm)] at hj
    obtain ⟨h1, h2⟩ := sp_kl_at hj hw
    refine h.2.2 (j, sp_rv X w) (List.mem_cons_of_mem _ (List.mem_filter.mpr ⟨sp_lv_mem h1 hw, ?_⟩))
    rw [sp_rv_cat]
    simp only [Bool.and_eq_true, Bool.not_eq_true', beq_eq_false_iff_ne, ne_eq, Bool.and_eq_false_iff]
    refine ⟨e, ?_⟩
    by_cases e2 : j + 1 = i
    · exact Or.inr (fun q => h2 ⟨e2, q⟩)
    · exact Or.inl e2
theorem sp_LH2 {X : sp_X} {sl : Array Slot} {n i : Nat} {ls : List Value} {v : Value} (h : lv_has sl n ((i, sp_rv X v) :: (sp_lv X ls).filter (fun q => !(q.1 == i) && (!(q.1 == i + 1) && !(q.1 + 1 == i && q.2.category == 2))))) : sp_LH X sl n (sp_s2 ls i v) := by
  refine ⟨h.1, h.2.1, fun j w hj hw => ?_⟩
  unfold sp_s2 at hj
  by_cases e1 : j = i + 1
  · subst e1
    have hlt : i + 1 < ((sp_kl ls i).set i v).length := by
      have := (List.getElem?_eq_some_iff.mp hj).1
      simpa using this
    rw [List.getElem?_set_self hlt] at hj
    exact absurd (Option.some.inj hj).symm hw
  · rw [List.getElem?_set_ne (fun q => e1 q.symm)] at hj
    by_cases e : j = i
    · subst e
      have hlt : j < (sp_kl ls j).length := by
        have := (List.getElem?_eq_some_iff.mp hj).1
        simpa using this
      rw [List.getElem?_set_self hlt] at hj
      cases hj
      exact h.2.2 _ List.mem_cons_self
    · rw [List.getElem?_set_ne (fun q => e q.symm)] at hj
      obtain ⟨h1, h2⟩ := sp_kl_at hj hw
      refine h.2.2 (j, sp_rv X w) (List.mem_cons_of_mem _ (List.mem_filter.mpr ⟨sp_lv_mem h1 hw, ?_⟩))
      rw [sp_rv_cat]
      simp only [Bool.and_eq_true, Bool.not_eq_true', beq_eq_false_iff_ne, ne_eq, Bool.and_eq_false_iff]
      refine ⟨e, e1, ?_⟩
      by_cases e2 : j + 1 = i
      · exact Or.inr (fun q => h2 ⟨e2, q⟩)
      · exact Or.inl e2
/-! constants and loads -/
theorem sr_iconst (hA : sp_Act X N d Rt a) {n : Int} {v : Int32} (hi : decode (sp_b N) pc = .ok (.iconst n, 1)) (hv : Int32.ofInt n = v) (k : sp_Ev X a N (pc + 1) ls (.int v :: st) g) : sp_Ev X a N pc ls st g := fun H locs sl hw hl => lv_iconst hA.1 hA.2.1 hi hv (k H locs sl hw hl)
theorem sr_bipush (hA : sp_Act X N d Rt a) {n : Int} {v : Int32} (hi : decode (sp_b N) pc = .ok (.bipush n, 2)) (hv : (Int8.ofInt n).toInt32 = v) (k : sp_Ev X a N (pc + 2) ls (.int v :: st) g) : sp_Ev X a N pc ls st g := fun H locs sl hw hl => lv_bipush hA.1 hA.2.1 hi hv (k H locs sl hw hl)
theorem sr_sipush (hA : sp_Act X N d Rt a) {n : Int} {v : Int32} (hi : decode (sp_b N) pc = .ok (.sipush n, 3)) (hv : (Int16.ofInt n).toInt32 = v) (k : sp_Ev X a N (pc + 3) ls (.int v :: st) g) : sp_Ev X a N pc ls st g := fun H locs sl hw hl => lv_sipush hA.1 hA.2.1 hi hv (k H locs sl hw hl)
theorem sr_lconst (hA : sp_Act X N d Rt a) {n : Fin 2} {v : Int64} (hi : decode (sp_b N) pc = .ok (.lconst n, 1)) (hv : Int64.ofNat (n : Nat) = v) (k : sp_Ev X a N (pc + 1) ls (.long v :: st) g) : sp_Ev X a N pc ls st g := fun H locs sl hw hl => lv_lconst hA.1 hA.2.1 hi hv (k H locs sl hw hl)
theorem sr_ldc (hA : sp_Act X N d Rt a) {idx i : Nat} {v : Int32} (hi : decode (sp_b N) pc = .ok (.ldc idx, 2)) (hc : sp_okC N idx i v = true) (k : sp_Ev X a N (pc + 2) ls (.int v :: st) g) : sp_Ev X a N pc ls st g := fun H locs sl hw hl => lv_ldc hA.1 hA.2.1 hA.2.2.2.1 (hA.2.2.2.2.1 _ (sp_in hc)) hi (k H locs sl hw hl)
theorem sr_ldcw (hA : sp_Act X N d Rt a) {idx i : Nat} {v : Int32} (hi : decode (sp_b N) pc = .ok (.ldc_w idx, 3)) (hc : sp_okC N idx i v = true) (k : sp_Ev X a N (pc + 3) ls (.int v :: st) g) : sp_Ev X a N pc ls st g := fun H locs sl hw hl => lv_ldcw hA.1 hA.2.1 hA.2.2.2.1 (hA.2.2.2.2.1 _ (sp_in hc)) hi (k H locs sl hw hl)
theorem sr_ldc2 (hA : sp_Act X N d Rt a) {idx i : Nat} {v : Int64} (hi : decode (sp_b N) pc = .ok (.ldc2_w idx, 3)) (hc : sp_okCL N idx i v = true) (k : sp_Ev X a N (pc + 3) ls (.long v :: st) g) : sp_Ev X a N pc ls st g := fun H locs sl hw hl => lv_ldc2 hA.1 hA.2.1 hA.2.2.2.1 (hA.2.2.2.2.1 _ (sp_in hc)) hi (k H locs sl hw hl)
theorem sr_iload_n (hA : sp_Act X N d Rt a) {i : Fin 4} {x : Int32} (hi : decode (sp_b N) pc = .ok (.iload_n i, 1)) (hv : ls[(i : Nat)]? = some (.int x)) (k : sp_Ev X a N (pc + 1) ls (.int x :: st) g) : sp_Ev X a N pc ls st g := fun H locs sl hw hl => lv_iload_n hA.1 hA.2.1 hi rfl (hl.2.2 _ _ hv (by simp)) (k H locs sl hw hl)
theorem sr_iload (hA : sp_Act X N d Rt a) {i : Nat} {x : Int32} (hi : decode (sp_b N) pc = .ok (.iload i, 2)) (hv : ls[i]? = some (.int x)) (k : sp_Ev X a N (pc + 2) ls (.int x :: st) g) : sp_Ev X a N pc ls st g := fun H locs sl hw hl => lv_iload hA.1 hA.2.1 hi (hl.2.2 _ _ hv (by simp)) (k H locs sl hw hl)
theorem sr_lload_n (hA : sp_Act X N d Rt a) {i : Fin 4} {x : Int64} (hi : decode (sp_b N) pc = .ok (.lload_n i, 1)) (hv : ls[(i : Nat)]? = some (.long x)) (k : sp_Ev X a N (pc + 1) ls (.long x :: st) g) : sp_Ev X a N pc ls st g := fun H locs sl hw hl => lv_lload_n hA.1 hA.2.1 hi rfl (hl.2.2 _ _ hv (by simp)) (k H locs sl hw hl)
theorem sr_lload (hA : sp_Act X N d Rt a) {i : Nat} {x : Int64} (hi : decode (sp_b N) pc = .ok (.lload i, 2)) (hv : ls[i]? = some (.long x)) (k : sp_Ev X a N (pc + 2) ls (.long x :: st) g) : sp_Ev X a N pc ls st g := fun H locs sl hw hl => lv_lload hA.1 hA.2.1 hi (hl.2.2 _ _ hv (by simp)) (k H locs sl hw hl)
theorem sr_aload_n (hA : sp_Act X N d Rt a) {i : Fin 4} {x : Nat} (hi : decode (sp_b N) pc = .ok (.aload_n i, 1)) (hv : ls[(i : Nat)]? = some (.ref x)) (k : sp_Ev X a N (pc + 1) ls (.ref x :: st) g) : sp_Ev X a N pc ls st g := fun H locs sl hw hl => lv_aload_n hA.1 hA.2.1 hi rfl (hl.2.2 _ _ hv (by simp)) (k H locs sl hw hl)
theorem sr_aload (hA : sp_Act X N d Rt a) {i : Nat} {x : Nat} (hi : decode (sp_b N) pc = .ok (.aload i, 2)) (hv : ls[i]? = some (.ref x)) (k : sp_Ev X a N (pc + 2) ls (.ref x :: st) g) : sp_Ev X a N pc ls st g := fun H locs sl hw hl => lv_aload hA.1 hA.2.1 hi (hl.2.2 _ _ hv (by simp)) (k H locs sl hw hl)
theorem sr_istore_n (hA : sp_Act X N d Rt a) {j : Fin 4} {i : Nat} {x : Int32} {ls1 : List Value} (hi : decode (sp_b N) pc = .ok (.istore_n j, 1)) (hj : (j : Nat) = i) (hn : i < sp_l N) (he : sp_s1 ls i (.int x) = ls1) (k : sp_Ev X a N (pc + 1) ls1 st g) : sp_Ev X a N pc ls (.int x :: st) g := fun H locs sl hw hl => lv_istore_n (x := x) (lv := sp_lv X ls) hA.1 hA.2.1 hi hj (sp_lv_has hl) hn rfl (fun sl1 hl1 => k H locs sl1 hw (he ▸ sp_LH1 (v := .int x) hl1))
theorem sr_istore (hA : sp_Act X N d Rt a) {i : Nat} {x : Int32} {ls1 : List Value} (hi : decode (sp_b N) pc = .ok (.istore i, 2)) (hn : i < sp_l N) (he : sp_s1 ls i (.int x) = ls1) (k : sp_Ev X a N (pc + 2) ls1 st g) : sp_Ev X a N pc ls (.int x :: st) g := fun H locs sl hw hl => lv_istore (x := x) (lv := sp_lv X ls) hA.1 hA.2.1 hi (sp_lv_has hl) hn rfl (fun sl1 hl1 => k H locs sl1 hw (he ▸ sp_LH1 (v := .int x) hl1))
theorem sr_astore_n (hA : sp_Act X N d Rt a) {j : Fin 4} {i : Nat} {x : Nat} {ls1 : List Value} (hi : decode (sp_b N) pc = .ok (.astore_n j, 1)) (hj : (j : Nat) = i) (hn : i < sp_l N) (he : sp_s1 ls i (.ref x) = ls1) (k : sp_Ev X a N (pc + 1) ls1 st g) : sp_Ev X a N pc ls (.ref x :: st) g := fun H locs sl hw hl => lv_astore_n (lv := sp_lv X ls) hA.1 hA.2.1 hi hj (sp_lv_has hl) hn rfl (fun sl1 hl1 => k H locs sl1 hw (he ▸ sp_LH1 (v := .ref x) hl1))
theorem sr_astore (hA : sp_Act X N d Rt a) {i : Nat} {x : Nat} {ls1 : List Value} (hi : decode (sp_b N) pc = .ok (.astore i, 2)) (hn : i < sp_l N) (he : sp_s1 ls i (.ref x) = ls1) (k : sp_Ev X a N (pc + 2) ls1 st g) : sp_Ev X a N pc ls (.ref x :: st) g := fun H locs sl hw hl => lv_astore (lv := sp_lv X ls) hA.1 hA.2.1 hi (sp_lv_has hl) hn rfl (fun sl1 hl1 => k H locs sl1 hw (he ▸ sp_LH1 (v := .ref x) hl1))
theorem sr_lstore_n (hA : sp_Act X N d Rt a) {j : Fin 4} {i : Nat} {x : Int64} {ls1 : List Value} (hi : decode (sp_b N) pc = .ok (.lstore_n j, 1)) (hj : (j : Nat) = i) (hn : i + 1 < sp_l N) (he : sp_s2 ls i (.long x) = ls1) (k : sp_Ev X a N (pc + 1) ls1 st g) : sp_Ev X a N pc ls (.long x :: st) g := fun H locs sl hw hl => lv_lstore_n (x := x) (lv := sp_lv X ls) hA.1 hA.2.1 hi hj (sp_lv_has hl) hn rfl (fun sl1 hl1 => k H locs sl1 hw (he ▸ sp_LH2 (v := .long x) hl1))
theorem sr_lstore (hA : sp_Act X N d Rt a) {i : Nat} {x : Int64} {ls1 : List Value} (hi : decode (sp_b N) pc = .ok (.lstore i, 2)) (hn : i + 1 < sp_l N) (he : sp_s2 ls i (.long x) = ls1) (k : sp_Ev X a N (pc + 2) ls1 st g) : sp_Ev X a N pc ls (.long x :: st) g := fun H locs sl hw hl => lv_lstore (x := x) (lv := sp_lv X ls) hA.1 hA.2.1 hi (sp_lv_has hl) hn rfl (fun sl1 hl1 => k H locs sl1 hw (he ▸ sp_LH2 (v := .long x) hl1))
theorem sr_iinc (hA : sp_Act X N d Rt a) {i : Nat} {n : Int} {x v : Int32} {ls1 : List Value} (hi : decode (sp_b N) pc = .ok (.iinc i n, 3)) (hx : ls[i]? = some (.int x)) (hv : x + Int32.ofInt n = v) (hn : i < sp_l N) (he : sp_s1 ls i (.int v) = ls1) (k : sp_Ev X a N (pc + 3) ls1 st g) : sp_Ev X a N pc ls st g := fun H locs sl hw hl => by
  obtain ⟨q, hq⟩ := List.getElem?_of_mem (sp_lv_mem (X := X) hx (by simp))
  exact lv_iinc (lv := sp_lv X ls) hA.1 hA.2.1 hi (sp_lv_has hl) hq hv hn rfl (fun sl1 hl1 => k H locs sl1 hw (he ▸ sp_LH1 (v := .int v) hl1))
/-! numbers -/
theorem sr_iadd (hA : sp_Act X N d Rt a) {x y : Int32} (hi : decode (sp_b N) pc = .ok (.iadd, 1)) (k : sp_Ev X a N (pc + 1) ls (.int (x + y) :: st) g) : sp_Ev X a N pc ls (.int y :: .int x :: st) g := fun H locs sl hw hl => lv_iadd hA.1 hA.2.1 hi (k H locs sl hw hl)
theorem sr_isub (hA : sp_Act X N d Rt a) {x y : Int32} (hi : decode (sp_b N) pc = .ok (.isub, 1)) (k : sp_Ev X a N (pc + 1) ls (.int (x - y) :: st) g) : sp_Ev X a N pc ls (.int y :: .int x :: st) g := fun H locs sl hw hl => lv_isub hA.1 hA.2.1 hi (k H locs sl hw hl)
theorem sr_imul (hA : sp_Act X N d Rt a) {x y : Int32} (hi : decode (sp_b N) pc = .ok (.imul, 1)) (k : sp_Ev X a N (pc + 1) ls (.int (x * y) :: st) g) : sp_Ev X a N pc ls (.int y :: .int x :: st) g := fun H locs sl hw hl => lv_imul hA.1 hA.2.1 hi (k H locs sl hw hl)
theorem sr_iand (hA : sp_Act X N d Rt a) {x y : Int32} (hi : decode (sp_b N) pc = .ok (.iand, 1)) (k : sp_Ev X a N (pc + 1) ls (.int (x &&& y) :: st) g) : sp_Ev X a N pc ls (.int y :: .int x :: st) g := fun H locs sl hw hl => lv_iand hA.1 hA.2.1 hi (k H locs sl hw hl)
theorem sr_ior (hA : sp_Act X N d Rt a) {x y : Int32} (hi : decode (sp_b N) pc = .ok (.ior, 1)) (k : sp_Ev X a N (pc + 1) ls (.int (x ||| y) :: st) g) : sp_Ev X a N pc ls (.int y :: .int x :: st) g := fun H locs sl hw hl => lv_ior hA.1 hA.2.1 hi (k H locs sl hw hl)
theorem sr_ixor (hA : sp_Act X N d Rt a) {x y : Int32} (hi : decode (sp_b N) pc = .ok (.ixor, 1)) (k : sp_Ev X a N (pc + 1) ls (.int (x ^^^ y) :: st) g) : sp_Ev X a N pc ls (.int y :: .int x :: st) g := fun H locs sl hw hl => lv_ixor hA.1 hA.2.1 hi (k H locs sl hw hl)
theorem sr_ishl (hA : sp_Act X N d Rt a) {x y : Int32} (hi : decode (sp_b N) pc = .ok (.ishl, 1)) (k : sp_Ev X a N (pc + 1) ls (.int (x <<< (y &&& 31)) :: st) g) : sp_Ev X a N pc ls (.int y :: .int x :: st) g := fun H locs sl hw hl => lv_ishl hA.1 hA.2.1 hi (k H locs sl hw hl)
theorem sr_ishr (hA : sp_Act X N d Rt a) {x y : Int32} (hi : decode (sp_b N) pc = .ok (.ishr, 1)) (k : sp_Ev X a N (pc + 1) ls (.int (x >>> (y &&& 31)) :: st) g) : sp_Ev X a N pc ls (.int y :: .int x :: st) g := fun H locs sl hw hl => lv_ishr hA.1 hA.2.1 hi (k H locs sl hw hl)
theorem sr_iushr (hA : sp_Act X N d Rt a) {x y : Int32} (hi : decode (sp_b N) pc = .ok (.iushr, 1)) (k : sp_Ev X a N (pc + 1) ls (.int ((x.toUInt32 >>> (y.toUInt32 &&& Int32.toUInt32 31)).toInt32) :: st) g) : sp_Ev X a N pc ls (.int y :: .int x :: st) g := fun H locs sl hw hl => lv_iushr hA.1 hA.2.1 hi rfl (k H locs sl hw hl)
theorem sr_idiv (hA : sp_Act X N d Rt a) {x y : Int32} (hi : decode (sp_b N) pc = .ok (.idiv, 1)) (hne : ¬ y = 0) (k : sp_Ev X a N (pc + 1) ls (.int (x / y) :: st) g) : sp_Ev X a N pc ls (.int y :: .int x :: st) g := fun H locs sl hw hl => lv_idiv hA.1 hA.2.1 hi hne (k H locs sl hw hl)
theorem sr_irem (hA : sp_Act X N d Rt a) {x y : Int32} (hi : decode (sp_b N) pc = .ok (.irem, 1)) (hne : ¬ y = 0) (k : sp_Ev X a N (pc + 1) ls (.int (x - x / y * y) :: st) g) : sp_Ev X a N pc ls (.int y :: .int x :: st) g := fun H locs sl hw hl => lv_irem hA.1 hA.2.1 hi hne (k H locs sl hw hl)
theorem sr_ineg (hA : sp_Act X N d Rt a) {x : Int32} (hi : decode (sp_b N) pc = .ok (.ineg, 1)) (k : sp_Ev X a N (pc + 1) ls (.int (-x) :: st) g) : sp_Ev X a N pc ls (.int x :: st) g := fun H locs sl hw hl => lv_ineg hA.1 hA.2.1 hi (k H locs sl hw hl)
theorem sr_ladd (hA : sp_Act X N d Rt a) {x y : Int64} (hi : decode (sp_b N) pc = .ok (.ladd, 1)) (k : sp_Ev X a N (pc + 1) ls (.long (x + y) :: st) g) : sp_Ev X a N pc ls (.long y :: .long x :: st) g := fun H locs sl hw hl => lv_ladd hA.1 hA.2.1 hi (k H locs sl hw hl)
theorem sr_lsub (hA : sp_Act X N d Rt a) {x y : Int64} (hi : decode (sp_b N) pc = .ok (.lsub, 1)) (k : sp_Ev X a N (pc + 1) ls (.long (x - y) :: st) g) : sp_Ev X a N pc ls (.long y :: .long x :: st) g := fun H locs sl hw hl => lv_lsub hA.1 hA.2.1 hi (k H locs sl hw hl)
theorem sr_lmul (hA : sp_Act X N d Rt a) {x y : Int64} (hi : decode (sp_b N) pc = .ok (.lmul, 1)) (k : sp_Ev X a N (pc + 1) ls (.long (x * y) :: st) g) : sp_Ev X a N pc ls (.long y :: .long x :: st) g := fun H locs sl hw hl => lv_lmul hA.1 hA.2.1 hi (k H locs sl hw hl)
theorem sr_land (hA : sp_Act X N d Rt a) {x y : Int64} (hi : decode (sp_b N) pc = .ok (.land, 1)) (k : sp_Ev X a N (pc + 1) ls (.long (x &&& y) :: st) g) : sp_Ev X a N pc ls (.long y :: .long x :: st) g := fun H locs sl hw hl => lv_land hA.1 hA.2.1 hi (k H locs sl hw hl)
theorem sr_lor (hA : sp_Act X N d Rt a) {x y : Int64} (hi : decode (sp_b N) pc = .ok (.lor, 1)) (k : sp_Ev X a N (pc + 1) ls (.long (x ||| y) :: st) g) : sp_Ev X a N pc ls (.long y :: .long x :: st) g := fun H locs sl hw hl => lv_lor hA.1 hA.2.1 hi (k H locs sl hw hl)
theorem sr_lxor (hA : sp_Act X N d Rt a) {x y : Int64} (hi : decode (sp_b N) pc = .ok (.lxor, 1)) (k : sp_Ev X a N (pc + 1) ls (.long (x ^^^ y) :: st) g) : sp_Ev X a N pc ls (.long y :: .long x :: st) g := fun H locs sl hw hl => lv_lxor hA.1 hA.2.1 hi (k H locs sl hw hl)
theorem sr_ldiv (hA : sp_Act X N d Rt a) {x y : Int64} (hi : decode (sp_b N) pc = .ok (.ldiv, 1)) (hne : ¬ y = 0) (k : sp_Ev X a N (pc + 1) ls (.long (x / y) :: st) g) : sp_Ev X a N pc ls (.long y :: .long x :: st) g := fun H locs sl hw hl => lv_ldiv hA.1 hA.2.1 hi hne (k H locs sl hw hl)
theorem sr_lrem (hA : sp_Act X N d Rt a) {x y : Int64} (hi : decode (sp_b N) pc = .ok (.lrem, 1)) (hne : ¬ y = 0) (k : sp_Ev X a N (pc + 1) ls (.long (x - x / y * y) :: st) g) : sp_Ev X a N pc ls (.long y :: .long x :: st) g := fun H locs sl hw hl => lv_lrem hA.1 hA.2.1 hi hne (k H locs sl hw hl)
theorem sr_lushr (hA : sp_Act X N d Rt a) {x : Int64} {y : Int32} (hi : decode (sp_b N) pc = .ok (.lushr, 1)) (k : sp_Ev X a N (pc + 1) ls (.long ((x.toUInt64 >>> (y.toInt64.toUInt64 &&& Int64.toUInt64 63)).toInt64) :: st) g) : sp_Ev X a N pc ls (.int y :: .long x :: st) g := fun H locs sl hw hl => lv_lushr hA.1 hA.2.1 hi rfl (k H locs sl hw hl)
theorem sr_lshl (hA : sp_Act X N d Rt a) {x : Int64} {y : Int32} (hi : decode (sp_b N) pc = .ok (.lshl, 1)) (k : sp_Ev X a N (pc + 1) ls (.long (x <<< (y.toInt64 &&& 63)) :: st) g) : sp_Ev X a N pc ls (.int y :: .long x :: st) g := fun H locs sl hw hl => lv_lshl hA.1 hA.2.1 hi rfl (k H locs sl hw hl)
theorem sr_i2l (hA : sp_Act X N d Rt a) {x : Int32} (hi : decode (sp_b N) pc = .ok (.i2l, 1)) (k : sp_Ev X a N (pc + 1) ls (.long x.toInt64 :: st) g) : sp_Ev X a N pc ls (.int x :: st) g := fun H locs sl hw hl => lv_i2l hA.1 hA.2.1 hi rfl (k H locs sl hw hl)
theorem sr_l2i (hA : sp_Act X N d Rt a) {x : Int64} (hi : decode (sp_b N) pc = .ok (.l2i, 1)) (k : sp_Ev X a N (pc + 1) ls (.int x.toInt32 :: st) g) : sp_Ev X a N pc ls (.long x :: st) g := fun H locs sl hw hl => lv_l2i hA.1 hA.2.1 hi rfl (k H locs sl hw hl)
theorem sr_i2b (hA : sp_Act X N d Rt a) {x : Int32} (hi : decode (sp_b N) pc = .ok (.i2b, 1)) (k : sp_Ev X a N (pc + 1) ls (.int x.toInt8.toInt32 :: st) g) : sp_Ev X a N pc ls (.int x :: st) g := fun H locs sl hw hl => lv_i2b hA.1 hA.2.1 hi rfl (k H locs sl hw hl)
theorem sr_lcmp (hA : sp_Act X N d Rt a) {x y : Int64} (hi : decode (sp_b N) pc = .ok (.lcmp, 1)) (k : sp_Ev X a N (pc + 1) ls (.int (lg_cmp x y) :: st) g) : sp_Ev X a N pc ls (.long y :: .long x :: st) g := fun H locs sl hw hl => W.lcmp hA.1 hA.2.1 hi (k H locs sl hw hl)
theorem sr_dup (hA : sp_Act X N d Rt a) {v : Value} (hi : decode (sp_b N) pc = .ok (.dup, 1)) (hv : v.category = 1) (k : sp_Ev X a N (pc + 1) ls (v :: v :: st) g) : sp_Ev X a N pc ls (v :: st) g := fun H locs sl hw hl => lv_dup hA.1 hA.2.1 hi ((sp_rv_cat X v).trans hv) (k H locs sl hw hl)
theorem sr_pop (hA : sp_Act X N d Rt a) {v : Value} (hi : decode (sp_b N) pc = .ok (.pop, 1)) (hv : v.category = 1) (k : sp_Ev X a N (pc + 1) ls st g) : sp_Ev X a N pc ls (v :: st) g := fun H locs sl hw hl => lv_pop hA.1 hA.2.1 hi ((sp_rv_cat X v).trans hv) (k H locs sl hw hl)
theorem sr_dup2 (hA : sp_Act X N d Rt a) {v w : Value} (hi : decode (sp_b N) pc = .ok (.dup2, 1)) (hv : v.category = 1) (hw2 : w.category = 1) (k : sp_Ev X a N (pc + 1) ls (v :: w :: v :: w :: st) g) : sp_Ev X a N pc ls (v :: w :: st) g := fun H locs sl hw hl => lv_dup2_11 hA.1 hA.2.1 hi ((sp_rv_cat X v).trans hv) ((sp_rv_cat X w).trans hw2) (k H locs sl hw hl)
theorem sr_dup2L (hA : sp_Act X N d Rt a) {v : Value} (hi : decode (sp_b N) pc = .ok (.dup2, 1)) (hv : v.category = 2) (k : sp_Ev X a N (pc + 1) ls (v :: v :: st) g) : sp_Ev X a N pc ls (v :: st) g := fun H locs sl hw hl => lv_dup2_2 hA.1 hA.2.1 hi ((sp_rv_cat X v).trans hv) (k H locs sl hw hl)
theorem sr_dup_x1 (hA : sp_Act X N d Rt a) {v w : Value} (hi : decode (sp_b N) pc = .ok (.dup_x1, 1)) (hv : v.category = 1) (hw2 : w.category = 1) (k : sp_Ev X a N (pc + 1) ls (v :: w :: v :: st) g) : sp_Ev X a N pc ls (v :: w :: st) g := fun H locs sl hw hl => lv_dup_x1 hA.1 hA.2.1 hi ((sp_rv_cat X v).trans hv) ((sp_rv_cat X w).trans hw2) (k H locs sl hw hl)
/-! branches -/
theorem sr_if_eq (hA : sp_Act X N d Rt a) {x : Int32} {off : Int} {tgt : Nat} (hi : decode (sp_b N) pc = .ok (.ifCond .eq off, 3)) (ht : (pc : Int) + off = (tgt : Int)) (kt : x = 0 → sp_Ev X a N tgt ls st g) (kf : ¬ x = 0 → sp_Ev X a N (pc + 3) ls st g) : sp_Ev X a N pc ls (.int x :: st) g := fun H locs sl hw hl => lv_if_eq hA.1 hA.2.1 hi ht (fun h => kt h H locs sl hw hl) (fun h => kf h H locs sl hw hl)
theorem sr_if_ne (hA : sp_Act X N d Rt a) {x : Int32} {off : Int} {tgt : Nat} (hi : decode (sp_b N) pc = .ok (.ifCond .ne off, 3)) (ht : (pc : Int) + off = (tgt : Int)) (kt : ¬ x = 0 → sp_Ev X a N tgt ls st g) (kf : x = 0 → sp_Ev X a N (pc + 3) ls st g) : sp_Ev X a N pc ls (.int x :: st) g := fun H locs sl hw hl => lv_if_ne hA.1 hA.2.1 hi ht (fun h => kt h H locs sl hw hl) (fun h => kf h H locs sl hw hl)
theorem sr_if_lt (hA : sp_Act X N d Rt a) {x : Int32} {off : Int} {tgt : Nat} (hi : decode (sp_b N) pc = .ok (.ifCond .lt off, 3)) (ht : (pc : Int) + off = (tgt : Int)) (kt : x < 0 → sp_Ev X a N tgt ls st g) (kf : ¬ x < 0 → sp_Ev X a N (pc + 3) ls st g) : sp_Ev X a N pc ls (.int x :: st) g := fun H locs sl hw hl => lv_if_lt hA.1 hA.2.1 hi ht (fun h => kt h H locs sl hw hl) (fun h => kf h H locs sl hw hl)
theorem sr_if_ge (hA : sp_Act X N d Rt a) {x : Int32} {off : Int} {tgt : Nat} (hi : decode (sp_b N) pc = .ok (.ifCond .ge off, 3)) (ht : (pc : Int) + off = (tgt : Int)) (kt : 0 ≤ x → sp_Ev X a N tgt ls st g) (kf : ¬ 0 ≤ x → sp_Ev X a N (pc + 3) ls st g) : sp_Ev X a N pc ls (.int x :: st) g := fun H locs sl hw hl => lv_if_ge hA.1 hA.2.1 hi ht (fun h => kt h H locs sl hw hl) (fun h => kf h H locs sl hw hl)
theorem sr_if_gt (hA : sp_Act X N d Rt a) {x : Int32} {off : Int} {tgt : Nat} (hi : decode (sp_b N) pc = .ok (.ifCond .gt off, 3)) (ht : (pc : Int) + off = (tgt : Int)) (kt : 0 < x → sp_Ev X a N tgt ls st g) (kf : ¬ 0 < x → sp_Ev X a N (pc + 3) ls st g) : sp_Ev X a N pc ls (.int x :: st) g := fun H locs sl hw hl => lv_if_gt hA.1 hA.2.1 hi ht (fun h => kt h H locs sl hw hl) (fun h => kf h H locs sl hw hl)
theorem sr_if_le (hA : sp_Act X N d Rt a) {x : Int32} {off : Int} {tgt : Nat} (hi : decode (sp_b N) pc = .ok (.ifCond .le off, 3)) (ht : (pc : Int) + off = (tgt : Int)) (kt : x ≤ 0 → sp_Ev X a N tgt ls st g) (kf : ¬ x ≤ 0 → sp_Ev X a N (pc + 3) ls st g) : sp_Ev X a N pc ls (.int x :: st) g := fun H locs sl hw hl => lv_if_le hA.1 hA.2.1 hi ht (fun h => kt h H locs sl hw hl) (fun h => kf h H locs sl hw hl)
theorem sr_icmp_eq (hA : sp_Act X N d Rt a) {x y : Int32} {off : Int} {tgt : Nat} (hi : decode (sp_b N) pc = .ok (.if_icmp .eq off, 3)) (ht : (pc : Int) + off = (tgt : Int)) (kt : x = y → sp_Ev X a N tgt ls st g) (kf : ¬ x = y → sp_Ev X a N (pc + 3) ls st g) : sp_Ev X a N pc ls (.int y :: .int x :: st) g := fun H locs sl hw hl => lv_icmp_eq hA.1 hA.2.1 hi ht (fun h => kt h H locs sl hw hl) (fun h => kf h H locs sl hw hl)
theorem sr_icmp_ne (hA : sp_Act X N d Rt a) {x y : Int32} {off : Int} {tgt : Nat} (hi : decode (sp_b N) pc = .ok (.if_icmp .ne off, 3)) (ht : (pc : Int) + off = (tgt : Int)) (kt : ¬ x = y → sp_Ev X a N tgt ls st g) (kf : x = y → sp_Ev X a N (pc + 3) ls st g) : sp_Ev X a N pc ls (.int y :: .int x :: st) g := fun H locs sl hw hl => lv_icmp_ne hA.1 hA.2.1 hi ht (fun h => kt h H locs sl hw hl) (fun h => kf h H locs sl hw hl)
theorem sr_icmp_lt (hA : sp_Act X N d Rt a) {x y : Int32} {off : Int} {tgt : Nat} (hi : decode (sp_b N) pc = .ok (.if_icmp .lt off, 3)) (ht : (pc : Int) + off = (tgt : Int)) (kt : x < y → sp_Ev X a N tgt ls st g) (kf : ¬ x < y → sp_Ev X a N (pc + 3) ls st g) : sp_Ev X a N pc ls (.int y :: .int x :: st) g := fun H locs sl hw hl => lv_icmp_lt hA.1 hA.2.1 hi ht (fun h => kt h H locs sl hw hl) (fun h => kf h H locs sl hw hl)
theorem sr_icmp_ge (hA : sp_Act X N d Rt a) {x y : Int32} {off : Int} {tgt : Nat} (hi : decode (sp_b N) pc = .ok (.if_icmp .ge off, 3)) (ht : (pc : Int) + off = (tgt : Int)) (kt : y ≤ x → sp_Ev X a N tgt ls st g) (kf : ¬ y ≤ x → sp_Ev X a N (pc + 3) ls st g) : sp_Ev X a N pc ls (.int y :: .int x :: st) g := fun H locs sl hw hl => lv_icmp_ge hA.1 hA.2.1 hi ht (fun h => kt h H locs sl hw hl) (fun h => kf h H locs sl hw hl)
theorem sr_icmp_gt (hA : sp_Act X N d Rt a) {x y : Int32} {off : Int} {tgt : Nat} (hi : decode (sp_b N) pc = .ok (.if_icmp .gt off, 3)) (ht : (pc : Int) + off = (tgt : Int)) (kt : y < x → sp_Ev X a N tgt ls st g) (kf : ¬ y < x → sp_Ev X a N (pc + 3) ls st g) : sp_Ev X a N pc ls (.int y :: .int x :: st) g := fun H locs sl hw hl => lv_icmp_gt hA.1 hA.2.1 hi ht (fun h => kt h H locs sl hw hl) (fun h => kf h H locs sl hw hl)
theorem sr_icmp_le (hA : sp_Act X N d Rt a) {x y : Int32} {off : Int} {tgt : Nat} (hi : decode (sp_b N) pc = .ok (.if_icmp .le off, 3)) (ht : (pc : Int) + off = (tgt : Int)) (kt : x ≤ y → sp_Ev X a N tgt ls st g) (kf : ¬ x ≤ y → sp_Ev X a N (pc + 3) ls st g) : sp_Ev X a N pc ls (.int y :: .int x :: st) g := fun H locs sl hw hl => lv_icmp_le hA.1 hA.2.1 hi ht (fun h => kt h H locs sl hw hl) (fun h => kf h H locs sl hw hl)
theorem sr_goto (hA : sp_Act X N d Rt a) {off : Int} {tgt : Nat} (hi : decode (sp_b N) pc = .ok (.goto off, 3)) (ht : (pc : Int) + off = (tgt : Int)) (k : sp_Ev X a N tgt ls st g) : sp_Ev X a N pc ls st g := fun H locs sl hw hl => lv_goto hA.1 hA.2.1 hi ht (k H locs sl hw hl)
theorem sr_tswI (hA : sp_Act X N d Rt a) {dflt lo hh off : Int} {offs : Array Int} {len tgt : Nat} {x c : Int32} (hi : decode (sp_b N) pc = .ok (.tableswitch dflt lo hh offs, len)) (hx : x = c) (h1 : ¬ c.toInt < lo) (h2 : ¬ hh < c.toInt) (ho : offs[(c.toInt - lo).toNat]? = some off) (ht : (pc : Int) + off = (tgt : Int)) (k : sp_Ev X a N tgt ls st g) : sp_Ev X a N pc ls (.int x :: st) g := fun H locs sl hw hl => by
  subst hx
  exact lv_tableIn hA.1 hA.2.1 hi h1 h2 ho ht (k H locs sl hw hl)
theorem sr_tswO (hA : sp_Act X N d Rt a) {dflt lo hh : Int} {offs : Array Int} {len tgt : Nat} {x : Int32} (hi : decode (sp_b N) pc = .ok (.tableswitch dflt lo hh offs, len)) (hx : x.toInt < lo ∨ hh < x.toInt) (ht : (pc : Int) + dflt = (tgt : Int)) (k : sp_Ev X a N tgt ls st g) : sp_Ev X a N pc ls (.int x :: st) g := fun H locs sl hw hl => lv_tableOut hA.1 hA.2.1 hi hx ht (k H locs sl hw hl)
theorem sr_lsw (hA : sp_Act X N d Rt a) {dflt off : Int} {ps : Array (Int × Int)} {len tgt : Nat} {x : Int32} (hi : decode (sp_b N) pc = .ok (.lookupswitch dflt ps, len)) (hp : (ps.toList.zip (ps.toList.drop 1)).all (fun (a, next) => a.1 < next.1) = true) (ho : Op.lookupswitch.offset ps.toList dflt x.toInt = off) (ht : (pc : Int) + off = (tgt : Int)) (k : sp_Ev X a N tgt ls st g) : sp_Ev X a N pc ls (.int x :: st) g := fun H locs sl hw hl => lv_lookup hA.1 hA.2.1 hi hp ho ht (k H locs sl hw hl)
/-! fields -/
theorem sp_cls_at {ci : Nat} (h : ci < 9) : vwCl[ci]? = some (sp_cl ci) := by
  unfold sp_cl
  rw [List.getD_eq_getElem?_getD]
  rcases (show ci = 0 ∨ ci = 1 ∨ ci = 2 ∨ ci = 3 ∨ ci = 4 ∨ ci = 5 ∨ ci = 6 ∨ ci = 7 ∨ ci = 8 by omega) with rfl | rfl | rfl | rfl | rfl | rfl | rfl | rfl | rfl <;> rfl
theorem sp_lays {ci : Nat} (h : ci < 9) : ∀ w ∈ u_ws (sp_cl ci).1 (sp_cl ci).2.1 (sp_cl ci).2.2, w ∈ sp_T := by
  rcases (show ci = 0 ∨ ci = 1 ∨ ci = 2 ∨ ci = 3 ∨ ci = 4 ∨ ci = 5 ∨ ci = 6 ∨ ci = 7 ∨ ci = 8 by omega) with rfl | rfl | rfl | rfl | rfl | rfl | rfl | rfl | rfl
  · exact sp_lay0
  · exact sp_lay1
  · exact sp_lay2
  · exact sp_lay3
  · exact sp_lay4
  · exact sp_lay5
  · exact sp_lay6
  · exact sp_lay7
  · exact sp_lay8
theorem sp_nf_cl {ci : Nat} (h : ci < 9) : sp_nf ci = (sp_cl ci).2.2 := by
  rcases (show ci = 0 ∨ ci = 1 ∨ ci = 2 ∨ ci = 3 ∨ ci = 4 ∨ ci = 5 ∨ ci = 6 ∨ ci = 7 ∨ ci = 8 by omega) with rfl | rfl | rfl | rfl | rfl | rfl | rfl | rfl | rfl <;> rfl
def sp_tys (ci : Nat) : Nat → FieldType := match ci with
  | 0 => tyX0
  | 1 => tyX1
  | 2 => tyX2
  | 3 => tyX3
  | 4 => tyX4
  | 5 => tyX5
  | 6 => tyX6
  | 7 => tyX7
  | _ => tyX8
theorem sp_tys_ok {ci : Nat} (h : ci < 9) : ∀ k, k < (sp_cl ci).2.2 → parseFieldDescriptor ((sp_cl ci).2.1 k).2.2.1 = some (sp_tys ci k) := by
  rcases (show ci = 0 ∨ ci = 1 ∨ ci = 2 ∨ ci = 3 ∨ ci = 4 ∨ ci = 5 ∨ ci = 6 ∨ ci = 7 ∨ ci = 8 by omega) with rfl | rfl | rfl | rfl | rfl | rfl | rfl | rfl | rfl
  · exact tyX0_ok
  · exact tyX1_ok
  · exact tyX2_ok
  · exact tyX3_ok
  · exact tyX4_ok
  · exact tyX5_ok
  · exact tyX6_ok
  · exact tyX7_ok
  · exact tyX8_ok
theorem sp_nms {ci : Nat} (h : ci < 9) : ∀ a, a < (sp_cl ci).2.2 → ∀ b, b < (sp_cl ci).2.2 → a ≠ b → ((sp_cl ci).2.1 a).2.1 ≠ ((sp_cl ci).2.1 b).2.1 := by
  rcases (show ci = 0 ∨ ci = 1 ∨ ci = 2 ∨ ci = 3 ∨ ci = 4 ∨ ci = 5 ∨ ci = 6 ∨ ci = 7 ∨ ci = 8 by omega) with rfl | rfl | rfl | rfl | rfl | rfl | rfl | rfl | rfl
  · exact nmX0
  · exact nmX1
  · exact nmX2
  · exact nmX3
  · exact nmX4
  · exact nmX5
  · exact nmX6
  · exact nmX7
  · exact nmX8
theorem sr_get (hA : sp_Act X N d Rt a) {idx ci j i c : Nat} {v : Value} (hi : decode (sp_b N) pc = .ok (.getfield idx, 3)) (hf : sp_okF N idx ci j i = true) (hci : ci < 9) (hc : c < sp_K) (hk : sp_kd c = ci) (hv : sp_fv g c ci j = v) (k : sp_Ev X a N (pc + 3) ls (v :: st) g) : sp_Ev X a N pc ls (.ref c :: st) g := fun H locs sl hw hl => by
  unfold sp_okF at hf
  rw [Bool.and_eq_true, decide_eq_true_eq] at hf
  have he := sp_W_at X g hc
  rw [sp_en_o hk hci] at he
  subst hv
  exact va_get (D := X.2.1) (cl := vwCl) hA.1 hA.2.1 hA.2.2.2.2.1 (sp_lays hci) hA.2.2.2.1 hA.2.2.2.2.2.1 hw.1 c he (sp_cls_at hci) j hf.2 (hA.2.2.2.2.1 _ (sp_in hf.1)) (fun _ h9 => h9) (sp_fs_at hk (by rw [sp_nf_cl hci]; exact hf.2)) hi (k H locs sl hw hl)
theorem sr_getI (hA : sp_Act X N d Rt a) {idx ci j i c : Nat} (hi : decode (sp_b N) pc = .ok (.getfield idx, 3)) (hf : sp_okF N idx ci j i = true) (hci : ci < 9) (hc : c < sp_K) (hk : sp_kd c = ci) (ht : sp_ft ci j = 0 ∨ sp_ft ci j = 3) (k : sp_Ev X a N (pc + 3) ls (.int (g.1 c j) :: st) g) : sp_Ev X a N pc ls (.ref c :: st) g :=
  sr_get hA hi hf hci hc hk (by unfold sp_fv; rcases ht with ht | ht <;> rw [ht] <;> rfl) k
theorem sr_getL (hA : sp_Act X N d Rt a) {idx ci j i c : Nat} (hi : decode (sp_b N) pc = .ok (.getfield idx, 3)) (hf : sp_okF N idx ci j i = true) (hci : ci < 9) (hc : c < sp_K) (hk : sp_kd c = ci) (ht : sp_ft ci j = 1) (k : sp_Ev X a N (pc + 3) ls (.long (g.2 c j) :: st) g) : sp_Ev X a N pc ls (.ref c :: st) g :=
  sr_get hA hi hf hci hc hk (by unfold sp_fv; rw [ht]; rfl) k
theorem sr_getR (hA : sp_Act X N d Rt a) {idx ci j i c r : Nat} (hi : decode (sp_b N) pc = .ok (.getfield idx, 3)) (hf : sp_okF N idx ci j i = true) (hci : ci < 9) (hc : c < sp_K) (hk : sp_kd c = ci) (ht : sp_ft ci j = 2) (hr : sp_rf c j = r) (k : sp_Ev X a N (pc + 3) ls (.ref r :: st) g) : sp_Ev X a N pc ls (.ref c :: st) g :=
  sr_get hA hi hf hci hc hk (by unfold sp_fv; rw [ht]; subst hr; rfl) k
theorem sp_put (hA : sp_Act X N d Rt a) {idx ci j i c : Nat} {v : Value} {g1 : sp_G} {ty : FieldType} (hi : decode (sp_b N) pc = .ok (.putfield idx, 3)) (hf : sp_okF N idx ci j i = true) (hfin : ((sp_cl ci).2.1 j).2.2.2 = false) (hty : sp_tys ci j = ty) (hci : ci < 9) (hc : c < sp_K) (hk : sp_kd c = ci) (hn : narrow ty v = v) (hfit : fits ty v = true) (hv : sp_rv X v = v) (hg : sp_fv g1 c ci j = v) (he : ∀ q, q ≠ j → sp_fv g1 c ci q = sp_fv g c ci q) (ho : ∀ c', c' ≠ c → sp_en X g1 c' = sp_en X g c') (k : sp_Ev X a N (pc + 3) ls st g1) : sp_Ev X a N pc ls (v :: .ref c :: st) g := fun H locs sl hw hl => by
  unfold sp_okF at hf
  rw [Bool.and_eq_true, decide_eq_true_eq] at hf
  have hat := sp_W_at X g hc
  rw [sp_en_o hk hci] at hat
  have hjn : j < sp_nf ci := by rw [sp_nf_cl hci]; exact hf.2
  have hset : (sp_W X g).set c (sp_ad X c, .inr (ci, (sp_fs X g c).set j v)) = sp_W X g1 := by
    have h1 := sp_fs_set (X := X) (g := g) (g' := g1) (c := c) (ci := ci) (j := j) hk hjn he
    rw [hg, hv] at h1
    rw [h1, ← sp_en_o (X := X) (g := g1) hk hci]
    exact sp_W_set X g g1 hc ho
  have hrl : (v :: Value.ref c :: st).map (sp_rv X) = v :: .ref (sp_ad X c) :: st.map (sp_rv X) := by
    rw [List.map_cons, List.map_cons, hv]
    rfl
  show sp_Wp X a H locs (F0 a.m pc sl ((v :: Value.ref c :: st).map (sp_rv X)))
  rw [hrl]
  refine va_put (D := X.2.1) (cl := vwCl) (ty := ty) hA.1 hA.2.1 hA.2.2.2.2.1 (sp_lays hci) (sp_tys ci) (sp_tys_ok hci) (sp_nms hci) hA.2.2.2.1 hA.2.2.2.2.2.1 hw.1 hw.2.1 hw.2.2 c hat (sp_cls_at hci) j hf.2 (hA.2.2.2.2.1 _ (sp_in hf.1)) (fun _ h9 => h9) hfin (by rw [← hty]; exact sp_tys_ok hci j hf.2) hn hfit (by rw [sp_fs_len, hk]; exact hjn) hi (fun H1 locs1 hP hD hS => ?_)
  rw [hset] at hP hD
  exact k H1 locs1 sl ⟨hP, hD, hS⟩ hl
theorem sr_putI (hA : sp_Act X N d Rt a) {idx ci j i c : Nat} {v : Int32} (hi : decode (sp_b N) pc = .ok (.putfield idx, 3)) (hf : sp_okF N idx ci j i = true) (hfin : ((sp_cl ci).2.1 j).2.2.2 = false) (hty : sp_tys ci j = .int) (hci : ci < 9) (hc : c < sp_K) (hk : sp_kd c = ci) (ht : sp_ft ci j = 0) (k : sp_Ev X a N (pc + 3) ls st (sp_wI g c j v)) : sp_Ev X a N pc ls (.int v :: .ref c :: st) g :=
  sp_put hA hi hf hfin hty hci hc hk rfl rfl rfl (by unfold sp_fv; rw [ht]; simp [sp_wI, sp_up]) (fun q hq => by unfold sp_fv; simp [sp_wI, sp_up, hq]) (fun c' h => sp_en_same (sp_wI_ne h) rfl) k
theorem sp_fitZ {v : Int32} (h : v = 0 ∨ v = 1) : fits .boolean (.int v) = true := by
  rcases h with rfl | rfl <;> decide +kernel
theorem sr_putZ (hA : sp_Act X N d Rt a) {idx ci j i c : Nat} {v : Int32} (hi : decode (sp_b N) pc = .ok (.putfield idx, 3)) (hf : sp_okF N idx ci j i = true) (hfin : ((sp_cl ci).2.1 j).2.2.2 = false) (hty : sp_tys ci j = .boolean) (hci : ci < 9) (hc : c < sp_K) (hk : sp_kd c = ci) (ht : sp_ft ci j = 3) (h01 : v = 0 ∨ v = 1) (k : sp_Ev X a N (pc + 3) ls st (sp_wI g c j v)) : sp_Ev X a N pc ls (.int v :: .ref c :: st) g :=
  sp_put hA hi hf hfin hty hci hc hk (sp_nb h01) (sp_fitZ h01) rfl (by unfold sp_fv; rw [ht]; simp [sp_wI, sp_up]) (fun q hq => by unfold sp_fv; simp [sp_wI, sp_up, hq]) (fun c' h => sp_en_same (sp_wI_ne h) rfl) k
theorem sr_putL (hA : sp_Act X N d Rt a) {idx ci j i c : Nat} {v : Int64} (hi : decode (sp_b N) pc = .ok (.putfield idx, 3)) (hf : sp_okF N idx ci j i = true) (hfin : ((sp_cl ci).2.1 j).2.2.2 = false) (hty : sp_tys ci j = .long) (hci : ci < 9) (hc : c < sp_K) (hk : sp_kd c = ci) (ht : sp_ft ci j = 1) (k : sp_Ev X a N (pc + 3) ls st (sp_wL g c j v)) : sp_Ev X a N pc ls (.long v :: .ref c :: st) g :=
  sp_put (g1 := sp_wL g c j v) hA hi hf hfin hty hci hc hk rfl rfl rfl (by unfold sp_fv; rw [ht]; simp [sp_wL, sp_up]) (fun q hq => by unfold sp_fv; simp [sp_wL, sp_up, hq]) (fun c' h => sp_en_same rfl (sp_wL_ne h)) k
/-! arrays -/
theorem sr_iald (hA : sp_Act X N d Rt a) {c : Nat} {i : Int32} (hi : decode (sp_b N) pc = .ok (.iaload, 1)) (hc : c < sp_K) (hk : sp_kd c = 10) (hin : vp_in i (sp_ln c)) (k : sp_Ev X a N (pc + 1) ls (.int (g.1 c i.toNatClampNeg) :: st) g) : sp_Ev X a N pc ls (.int i :: .ref c :: st) g := fun H locs sl hw hl => by
  obtain ⟨t, ht⟩ := sp_ty_at X hc (by omega)
  have he := sp_W_at X g hc
  rw [sp_en_i (by omega) (by omega)] at he
  rw [hk] at ht
  exact va_iald hA.1 hA.2.1 hA.2.2.2.2.2.1 hw.1 c t he ht hin hi (k H locs sl hw hl)
theorem sr_bald (hA : sp_Act X N d Rt a) {c : Nat} {i : Int32} (hi : decode (sp_b N) pc = .ok (.baload, 1)) (hc : c < sp_K) (hk : sp_kd c = 11) (hin : vp_in i (sp_ln c)) (k : sp_Ev X a N (pc + 1) ls (.int (g.1 c i.toNatClampNeg) :: st) g) : sp_Ev X a N pc ls (.int i :: .ref c :: st) g := fun H locs sl hw hl => by
  obtain ⟨t, ht⟩ := sp_ty_at X hc (by omega)
  have he := sp_W_at X g hc
  rw [sp_en_i (by omega) (by omega)] at he
  rw [hk] at ht
  exact va_bald hA.1 hA.2.1 hA.2.2.2.2.2.1 hw.1 c t he ht hin hi (k H locs sl hw hl)
theorem sr_zald (hA : sp_Act X N d Rt a) {c : Nat} {i : Int32} (hi : decode (sp_b N) pc = .ok (.baload, 1)) (hc : c < sp_K) (hk : sp_kd c = 12) (hin : vp_in i (sp_ln c)) (k : sp_Ev X a N (pc + 1) ls (.int (g.1 c i.toNatClampNeg) :: st) g) : sp_Ev X a N pc ls (.int i :: .ref c :: st) g := fun H locs sl hw hl => by
  obtain ⟨t, ht⟩ := sp_ty_at X hc (by omega)
  have he := sp_W_at X g hc
  rw [sp_en_i (by omega) (by omega)] at he
  rw [hk] at ht
  exact va_zald hA.1 hA.2.1 hA.2.2.2.2.2.1 hw.1 c t he ht hin hi (k H locs sl hw hl)
theorem sr_iast (hA : sp_Act X N d Rt a) {c : Nat} {i x : Int32} (hi : decode (sp_b N) pc = .ok (.iastore, 1)) (hc : c < sp_K) (hk : sp_kd c = 10) (hin : vp_in i (sp_ln c)) (k : sp_Ev X a N (pc + 1) ls st (sp_wI g c i.toNatClampNeg x)) : sp_Ev X a N pc ls (.int x :: .int i :: .ref c :: st) g := fun H locs sl hw hl => by
  obtain ⟨t, ht⟩ := sp_ty_at X hc (by omega)
  have he := sp_W_at X g hc
  rw [sp_en_i (by omega) (by omega)] at he
  rw [hk] at ht
  have hset : (sp_W X g).set c (sp_ad X c, .inl (sp_ca X c, sp_ln c, .inl (upd (g.1 c) i.toNatClampNeg x))) = sp_W X (sp_wI g c i.toNatClampNeg x) := by
    rw [← sp_wI_eq, ← sp_en_i (X := X) (by omega) (by omega)]
    exact sp_W_set X _ _ hc (fun c' h => sp_en_same (sp_wI_ne h) rfl)
  refine va_iast hA.1 hA.2.1 hA.2.2.2.2.2.1 hw.1 hw.2.1 hw.2.2 c t he ht hin hi (fun H1 locs1 hP hD hS => ?_)
  rw [hset] at hP hD
  exact k H1 locs1 sl ⟨hP, hD, hS⟩ hl
theorem sr_bast (hA : sp_Act X N d Rt a) {c : Nat} {i x : Int32} (hi : decode (sp_b N) pc = .ok (.bastore, 1)) (hc : c < sp_K) (hk : sp_kd c = 11) (hin : vp_in i (sp_ln c)) (k : sp_Ev X a N (pc + 1) ls st (sp_wI g c i.toNatClampNeg (vp_nar .byte x))) : sp_Ev X a N pc ls (.int x :: .int i :: .ref c :: st) g := fun H locs sl hw hl => by
  obtain ⟨t, ht⟩ := sp_ty_at X hc (by omega)
  have he := sp_W_at X g hc
  rw [sp_en_i (by omega) (by omega)] at he
  rw [hk] at ht
  have hset : (sp_W X g).set c (sp_ad X c, .inl (sp_ca X c, sp_ln c, .inl (upd (g.1 c) i.toNatClampNeg (vp_nar .byte x)))) = sp_W X (sp_wI g c i.toNatClampNeg (vp_nar .byte x)) := by
    rw [← sp_wI_eq, ← sp_en_i (X := X) (by omega) (by omega)]
    exact sp_W_set X _ _ hc (fun c' h => sp_en_same (sp_wI_ne h) rfl)
  refine va_bast hA.1 hA.2.1 hA.2.2.2.2.2.1 hw.1 hw.2.1 hw.2.2 c t he ht hin hi (fun H1 locs1 hP hD hS => ?_)
  rw [hset] at hP hD
  exact k H1 locs1 sl ⟨hP, hD, hS⟩ hl
theorem sr_zast (hA : sp_Act X N d Rt a) {c : Nat} {i x : Int32} (hi : decode (sp_b N) pc = .ok (.bastore, 1)) (hc : c < sp_K) (hk : sp_kd c = 12) (hin : vp_in i (sp_ln c)) (k : sp_Ev X a N (pc + 1) ls st (sp_wI g c i.toNatClampNeg (vp_nar .boolean x))) : sp_Ev X a N pc ls (.int x :: .int i :: .ref c :: st) g := fun H locs sl hw hl => by
  obtain ⟨t, ht⟩ := sp_ty_at X hc (by omega)
  have he := sp_W_at X g hc
  rw [sp_en_i (by omega) (by omega)] at he
  rw [hk] at ht
  have hset : (sp_W X g).set c (sp_ad X c, .inl (sp_ca X c, sp_ln c, .inl (upd (g.1 c) i.toNatClampNeg (vp_nar .boolean x)))) = sp_W X (sp_wI g c i.toNatClampNeg (vp_nar .boolean x)) := by
    rw [← sp_wI_eq, ← sp_en_i (X := X) (by omega) (by omega)]
    exact sp_W_set X _ _ hc (fun c' h => sp_en_same (sp_wI_ne h) rfl)
  refine va_zast hA.1 hA.2.1 hA.2.2.2.2.2.1 hw.1 hw.2.1 hw.2.2 c t he ht hin hi (fun H1 locs1 hP hD hS => ?_)
  rw [hset] at hP hD
  exact k H1 locs1 sl ⟨hP, hD, hS⟩ hl
theorem sr_lald (hA : sp_Act X N d Rt a) {c : Nat} {i : Int32} (hi : decode (sp_b N) pc = .ok (.laload, 1)) (hc : c < sp_K) (hk : sp_kd c = 13) (hin : vp_in i (sp_ln c)) (k : sp_Ev X a N (pc + 1) ls (.long (g.2 c i.toNatClampNeg) :: st) g) : sp_Ev X a N pc ls (.int i :: .ref c :: st) g := fun H locs sl hw hl => by
  obtain ⟨t, ht⟩ := sp_ty_at X hc (by omega)
  have he := sp_W_at X g hc
  rw [sp_en_l hk] at he
  rw [hk] at ht
  exact va_lald hA.1 hA.2.1 hA.2.2.2.2.2.1 hw.1 c t he ht hin hi (k H locs sl hw hl)
theorem sr_last (hA : sp_Act X N d Rt a) {c : Nat} {i : Int32} {x : Int64} (hi : decode (sp_b N) pc = .ok (.lastore, 1)) (hc : c < sp_K) (hk : sp_kd c = 13) (hin : vp_in i (sp_ln c)) (k : sp_Ev X a N (pc + 1) ls st (sp_wL g c i.toNatClampNeg x)) : sp_Ev X a N pc ls (.long x :: .int i :: .ref c :: st) g := fun H locs sl hw hl => by
  obtain ⟨t, ht⟩ := sp_ty_at X hc (by omega)
  have he := sp_W_at X g hc
  rw [sp_en_l hk] at he
  rw [hk] at ht
  have hset : (sp_W X g).set c (sp_ad X c, .inl (sp_ca X c, sp_ln c, .inr (.inl (vp_updL (g.2 c) i.toNatClampNeg x)))) = sp_W X (sp_wL g c i.toNatClampNeg x) := by
    rw [← sp_wL_eq, ← sp_en_l (X := X) hk]
    exact sp_W_set X _ _ hc (fun c' h => sp_en_same rfl (sp_wL_ne h))
  refine va_last hA.1 hA.2.1 hA.2.2.2.2.2.1 hw.1 hw.2.1 hw.2.2 c t he ht hin hi (fun H1 locs1 hP hD hS => ?_)
  rw [hset] at hP hD
  exact k H1 locs1 sl ⟨hP, hD, hS⟩ hl
theorem sr_aald (hA : sp_Act X N d Rt a) {c r : Nat} {i : Int32} (hi : decode (sp_b N) pc = .ok (.aaload, 1)) (hc : c < sp_K) (hk : 14 ≤ sp_kd c) (hin : vp_in i (sp_ln c)) (hr : sp_rf c i.toNatClampNeg = r) (k : sp_Ev X a N (pc + 1) ls (.ref r :: st) g) : sp_Ev X a N pc ls (.int i :: .ref c :: st) g := fun H locs sl hw hl => by
  obtain ⟨t, ht⟩ := sp_ty_at X hc (by omega)
  have he := sp_W_at X g hc
  rw [sp_en_r hk] at he
  have hlt : i.toNatClampNeg < sp_ln c := Nat.not_le.mp fun q => hin (Or.inr q)
  have hrefs : (sp_aty (sp_kd c)).isReference = true := by
    unfold sp_aty
    split <;> first | omega | rfl
  refine W.aald (v := va_rf (some (sp_ad X (sp_rf c i.toNatClampNeg)))) (ty := sp_aty (sp_kd c)) hA.1 hA.2.1 (hw.1 c _ he) ((hA.2.2.2.2.2.1.2 t _ ht).1 (sp_ln c) (fun j => va_rf (some (sp_ad X (sp_rf c j))))) hrefs (fun q => by cases q) (by show ¬ (i < 0 ∨ (arrV _ _ _).slots.size ≤ _); rw [arrV_size]; exact hin) (by show (arrV _ _ _).slots[_]? = _; rw [arrV_read _ _ hlt]) rfl rfl hi ?_
  rw [hr]
  exact k H locs sl hw hl
theorem sr_alen (hA : sp_Act X N d Rt a) {c : Nat} {v : Int32} (hi : decode (sp_b N) pc = .ok (.arraylength, 1)) (hc : c < sp_K) (hk : 9 ≤ sp_kd c) (hv : Int32.ofNat (sp_ln c) = v) (k : sp_Ev X a N (pc + 1) ls (.int v :: st) g) : sp_Ev X a N pc ls (.ref c :: st) g := fun H locs sl hw hl => by
  obtain ⟨t, ht⟩ := sp_ty_at X hc hk
  have he := sp_W_at X g hc
  unfold sp_en at he
  rw [if_neg (by omega)] at he
  exact va_alen hA.1 hA.2.1 hA.2.2.2.2.2.1 hw.1 c t he ht hv hi (k H locs sl hw hl)
/-! the class's own tables -/
theorem sr_getsL (hA : sp_Act X N d Rt a) (hi : decode (sp_b N) pc = .ok (.getstatic 75, 3)) (ho : (sp_y N).cls = "SandPiano$Reader") (k : sp_Ev X a N (pc + 3) ls (.ref 1001 :: st) g) : sp_Ev X a N pc ls st g := fun H locs sl hw hl => by
  have hown := hA.2.2.2.1
  rw [ho] at hown
  exact va_getsN hA.1 hA.2.1 hA.2.2.2.2.2.2.1.1 hw.2.2 hown (va_Nw.use rfl hA.2.2.2.2.2.2.1.2.2.2.2.1) (fun _ h => h) hi (k H locs sl hw hl)
theorem sr_getsP (hA : sp_Act X N d Rt a) (hi : decode (sp_b N) pc = .ok (.getstatic 31, 3)) (ho : (sp_y N).cls = "SandPiano$Keys") (k : sp_Ev X a N (pc + 3) ls (.ref 1002 :: st) g) : sp_Ev X a N pc ls st g := fun H locs sl hw hl => by
  have hown := hA.2.2.2.1
  rw [ho] at hown
  exact va_getsN hA.1 hA.2.1 hA.2.2.2.2.2.2.1.2.2.1 hw.2.2 hown (va_Nw.use rfl hA.2.2.2.2.2.2.1.2.2.2.2.2) (fun _ h => h) hi (k H locs sl hw hl)
theorem sr_tald (hA : sp_Act X N d Rt a) {c : Nat} {i : Int32} (hi : decode (sp_b N) pc = .ok (.iaload, 1)) (hc : c = 1001 ∨ c = 1002) (hin : vp_in i 6) (k : sp_Ev X a N (pc + 1) ls (.int ((sp_tb c).getD i.toNatClampNeg 0) :: st) g) : sp_Ev X a N pc ls (.int i :: .ref c :: st) g := fun H locs sl hw hl => by
  rcases hc with rfl | rfl
  · exact va_ti hA.1 hA.2.1 hA.2.2.2.2.2.2.1.2.1 hw.2.2 hin rfl hi (k H locs sl hw hl)
  · exact va_ti hA.1 hA.2.1 hA.2.2.2.2.2.2.1.2.2.2.1 hw.2.2 hin rfl hi (k H locs sl hw hl)
theorem sr_tlen (hA : sp_Act X N d Rt a) {c : Nat} (hi : decode (sp_b N) pc = .ok (.arraylength, 1)) (hc : c = 1001 ∨ c = 1002) (k : sp_Ev X a N (pc + 1) ls (.int 6 :: st) g) : sp_Ev X a N pc ls (.ref c :: st) g := fun H locs sl hw hl => by
  rcases hc with rfl | rfl
  · exact va_tlen hA.1 hA.2.1 hA.2.2.2.2.2.2.1.2.1 hw.2.2 rfl hi (k H locs sl hw hl)
  · exact va_tlen hA.1 hA.2.1 hA.2.2.2.2.2.2.1.2.2.2.1 hw.2.2 rfl hi (k H locs sl hw hl)
/-! ends -/
theorem sr_iret (hA : sp_Act X N d Rt a) {v : Int32} (hi : decode (sp_b N) pc = .ok (.ireturn, 1)) (hr : sp_r N = some .int) (h : Rt (some (.int v)) g) : sp_Ev X a N pc ls [.int v] g := fun H locs sl hw hl => hA.2.2.2.2.2.2.2.2.2.2.2.1 pc v g H locs sl hi (Or.inl hr) h hw
theorem sr_zret (hA : sp_Act X N d Rt a) {v : Int32} (hi : decode (sp_b N) pc = .ok (.ireturn, 1)) (hr : sp_r N = some .boolean) (h01 : v = 0 ∨ v = 1) (h : Rt (some (.int v)) g) : sp_Ev X a N pc ls [.int v] g := fun H locs sl hw hl => hA.2.2.2.2.2.2.2.2.2.2.2.1 pc v g H locs sl hi (Or.inr ⟨hr, h01⟩) h hw
theorem sr_lret (hA : sp_Act X N d Rt a) {v : Int64} (hi : decode (sp_b N) pc = .ok (.lreturn, 1)) (hr : sp_r N = some .long) (h : Rt (some (.long v)) g) : sp_Ev X a N pc ls [.long v] g := fun H locs sl hw hl => hA.2.2.2.2.2.2.2.2.2.2.2.2.1 pc v g H locs sl hi hr h hw
theorem sr_vret (hA : sp_Act X N d Rt a) (hi : decode (sp_b N) pc = .ok (.return_, 1)) (hr : sp_r N = none) (h : Rt none g) : sp_Ev X a N pc ls [] g := fun H locs sl hw hl => hA.2.2.2.2.2.2.2.2.2.2.2.2.2 pc g H locs sl hi hr h hw
end SpRules
