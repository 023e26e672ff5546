theorem sp_cl3 {r : Nat} (h : r < 6) (j : Nat) : sp_cl6 (3 + r) j = 2 := by
  unfold sp_cl6
  rw [if_neg (by omega), if_neg (by omega), if_neg (by omega), if_neg (by omega), if_pos (by omega)]
theorem sp_cl12 {r : Nat} (h : r < 4) (j : Nat) : sp_cl6 (12 + r) j = 3 := by
  unfold sp_cl6
  rw [if_neg (by omega), if_neg (by omega), if_neg (by omega), if_neg (by omega), if_neg (by omega), if_neg (by omega), if_pos (by omega)]
/-- what a store leaves -/
theorem sp_rd {g : sp_G} {c j c' j' : Nat} {v : Int32} : (sp_wI g c j v).1 c' j' = if c' = c ∧ j' = j then v else g.1 c' j' := rfl
theorem sp_rdF {g : sp_G} {c n c' j' : Nat} {v : Int32} : (sp_fill g c n v).1 c' j' = if c' = c ∧ j' < n then v else g.1 c' j' := by
  show (if c' = c then (fun j => if j < n then v else g.1 c j) else g.1 c') j' = _
  by_cases h : c' = c
  · subst h
    by_cases h2 : j' < n <;> simp [h2]
  · simp [h]
theorem sp_rdW {g : sp_G} {c c' j' : Nat} {f : Nat → Int32} : (sp_wA g c f).1 c' j' = if c' = c then f j' else g.1 c' j' := by
  show (if c' = c then f else g.1 c') j' = _
  by_cases h : c' = c <;> simp [h]
theorem sp_rdZ {g : sp_G} {p n c' j' : Nat} : (sp_z67 g p n).1 c' j' = if c' = 67 ∧ p ≤ j' ∧ j' < p + n then 0 else g.1 c' j' := by
  unfold sp_z67
  rw [sp_rdW]
  by_cases h : c' = 67
  · subst h
    by_cases h2 : p ≤ j' ∧ j' < p + n <;> simp [h2]
  · simp [h]
theorem sp_RFk {g g' : sp_G} (h : sp_Rel g) (k : sp_kp 1 g g') (hl : g'.2 = g.2) : sp_RF g' := h.1.kp k (by rw [hl]) (by rw [hl]; exact ⟨rfl, rfl⟩)
/-- row -/
theorem pr_row {X : sp_X} {g : sp_G} (h : sp_Rel g) (r n : Int32) : sp_Pi X 10 139 [.int r, .int n] g := by
  rcases sp_cls r with hr | ⟨r, hrb, rfl⟩
  · exact sp_pF (xc_row_a X g hr n) (mc_row_a X g hr n) (by omega) (by omega) h
  by_cases hr : r < 6
  rotate_left
  · exact sp_pF (xc_row_b X g (by omega) hrb n) (mc_row_b X g (by omega) hrb n) (by omega) (by omega) h
  rcases sp_cls n with hn | ⟨n, hnb, rfl⟩
  · exact sp_pF (xc_row_d X g hr hn) (mc_row_d X _ hr hn) (by omega) (by omega) (h.ref (by omega))
  by_cases hn : n < 41
  rotate_left
  · exact sp_pF (xc_row_c X g hr (by omega) hnb) (mc_row_c X g hr (by omega) hnb) (by omega) (by omega) h
  refine sp_pF (xc_row_e X g hr hn) (mc_row_e X _ hr hn) (by omega) (by omega) ?_
  have kk : ∀ q, q ≠ 2 → sp_kp q g (sp_z67 (sp_wI (sp_fill (sp_wI g 9 r (nI n)) (3 + r) 40 (nI 0)) 66 r (nI n)) (40 * r) 40) := fun q hq => by
    refine sp_kp.wA (sp_kp.wI (sp_kp.fill (sp_kp.wI sp_kp.rf ?_) (fun j => ?_)) ?_) (fun j => ?_)
    all_goals first | exact hq.symm | (rw [sp_cl3 hr]; exact hq.symm)
  refine h.R (fun r' hr' => ?_) (kk 3 (by decide)) (kk 4 (by decide)) (kk 5 (by decide)) (kk 6 (by decide)) (sp_RFk h (kk 1 (by decide)) rfl)
  obtain ⟨h1, h2, h3⟩ := h.2.1 r' hr'
  simp only [sp_rdZ, sp_rd, sp_rdF, sp_rdW, true_and, false_and, and_true, and_false, if_true, if_false]
  by_cases e : r' = r
  · subst e
    refine ⟨by repeat first | rw [if_neg (by omega)] | rw [if_pos (by omega)], Or.inr ⟨n, by omega, by repeat first | rw [if_neg (by omega)] | rw [if_pos (by omega)]⟩, fun i hi => ?_⟩
    repeat first | rw [if_neg (by omega)] | rw [if_pos (by omega)]
    rfl
  · refine ⟨?_, ?_, fun i hi => ?_⟩
    · repeat first | rw [if_neg (by omega)] | rw [if_pos (by omega)]
      exact h1
    · repeat first | rw [if_neg (by omega)] | rw [if_pos (by omega)]
      exact h2
    · repeat first | rw [if_neg (by omega)] | rw [if_pos (by omega)]
      exact h3 i hi
/-- a row's number and its size on both sides -/
theorem sp_rowsz {g : sp_G} (h : sp_Rel g) {r : Nat} (hr : r < 6) : (g.1 9 r = -1 ∧ g.1 66 r = -1) ∨ ∃ z, z ≤ 40 ∧ g.1 9 r = nI z ∧ g.1 66 r = nI z := by
  obtain ⟨h1, h2, h3⟩ := h.2.1 r hr
  rcases h2 with h2 | ⟨z, hz, h2⟩
  · exact Or.inl ⟨h1.trans h2, h2⟩
  · exact Or.inr ⟨z, hz, h1.trans h2, h2⟩
theorem pr_lay {X : sp_X} {g : sp_G} (h : sp_Rel g) (r i v : Int32) : sp_Pi X 14 142 [.int r, .int i, .int v] g := by
  rcases sp_cls r with hr | ⟨r, hrb, rfl⟩
  · exact sp_pF (xc_lay_a X g hr i v) (mc_lay_a X g hr i v) (by omega) (by omega) h
  by_cases hr : r < 6
  rotate_left
  · exact sp_pF (xc_lay_b X g (by omega) hrb i v) (mc_lay_b X g (by omega) hrb i v) (by omega) (by omega) h
  rcases sp_rowsz h hr with ⟨z1, z2⟩ | ⟨z, hz, z1, z2⟩
  · exact sp_pF (xc_lay_c X g hr i v z1) (mc_lay_c X _ hr i v z2) (by omega) (by omega) (h.ref (by omega))
  rcases sp_cls i with hi | ⟨i, hib, rfl⟩
  · exact sp_pF (xc_lay_d X g hr hi v z1 hz) (mc_lay_d X _ hr hi v z2 hz) (by omega) (by omega) (h.ref (by omega))
  by_cases hi : i < z
  rotate_left
  · exact sp_pF (xc_lay_e X g hr hib v z1 hz (by omega)) (mc_lay_e X _ hr hib v z2 hz (by omega)) (by omega) (by omega) (h.ref (by omega))
  have e66 : (sp_wI (sp_wI g 0 12 (g.1 (3 + r) i)) (3 + r) i v).1 66 r = nI z := by rw [sp_rd, if_neg (by omega)]; exact z2
  refine sp_pF (xc_lay_f X g hr hib v z1 hz hi) (mc_lay_f X _ hr hib v e66 hz hi) (by omega) (by omega) ?_
  have e67 : (sp_wI (sp_wI g 0 12 (g.1 (3 + r) i)) (3 + r) i v).1 67 (40 * r + i) = g.1 67 (40 * r + i) := by rw [sp_rd, if_neg (by omega)]; rfl
  rw [e67]
  have kk : ∀ q, q ≠ 1 → q ≠ 2 → sp_kp q g (sp_wI (sp_wI (sp_wI (sp_wI g 0 12 (g.1 (3 + r) i)) (3 + r) i v) 67 (40 * r + i) v) 64 2 (g.1 67 (40 * r + i))) := fun q h1 h2 => by
    refine sp_kp.wI (sp_kp.wI (sp_kp.wI (sp_kp.wI sp_kp.rf ?_) ?_) ?_) ?_
    all_goals first | exact h1.symm | exact h2.symm | (rw [sp_cl3 hr]; exact h2.symm)
  refine h.R (fun r' hr' => ?_) (kk 3 (by decide) (by decide)) (kk 4 (by decide) (by decide)) (kk 5 (by decide) (by decide)) (kk 6 (by decide) (by decide)) ?_
  · obtain ⟨h1, h2, h3⟩ := h.2.1 r' hr'
    simp only [sp_rdZ, sp_rd, sp_rdF, sp_rdW, true_and, false_and, and_true, and_false, if_true, if_false]
    refine ⟨?_, ?_, fun j hj => ?_⟩
    · repeat first | rw [if_neg (by omega)] | rw [if_pos (by omega)]
      exact h1
    · repeat first | rw [if_neg (by omega)] | rw [if_pos (by omega)]
      exact h2
    · repeat first | rw [if_neg (by omega)] | rw [if_pos (by omega)]
      by_cases e : r' = r ∧ j = i
      · repeat first | rw [if_neg (by omega)] | rw [if_pos (by omega)]
      · repeat first | rw [if_neg (by omega)] | rw [if_pos (by omega)]
        exact h3 j hj
  · obtain ⟨⟨h1, h2, h3, h4, h5⟩, -⟩ := id h
    refine ⟨?_, fun f hf => ?_, ?_, h4, h5⟩
    · simp only [sp_rdZ, sp_rd, sp_rdF, sp_rdW, true_and, false_and, and_true, and_false, if_true, if_false]
      repeat first | rw [if_neg (by omega)] | rw [if_pos (by omega)]
      exact h1
    · simp only [sp_rdZ, sp_rd, sp_rdF, sp_rdW, true_and, false_and, and_true, and_false, if_true, if_false]
      repeat first | rw [if_neg (by omega)] | rw [if_pos (by omega)]
      exact h2 f hf
    · simp only [sp_rdZ, sp_rd, sp_rdF, sp_rdW, true_and, false_and, and_true, and_false, if_true, if_false]
      repeat first | rw [if_neg (by omega)] | rw [if_pos (by omega)]
      exact (h.2.1 r hr).2.2 i (by omega)
/-- told on both sides alike -/
theorem sp_Rel.told {g : sp_G} (h : sp_Rel g) {u w : Int32} (e : u = w) : sp_Rel (sp_wI (sp_wI g 0 12 u) 64 2 w) := by
  subst e
  have kk : ∀ q, q ≠ 1 → sp_kp q g (sp_wI (sp_wI g 0 12 u) 64 2 u) := fun q hq => by
    refine sp_kp.wI (sp_kp.wI sp_kp.rf ?_) ?_ <;> exact hq.symm
  obtain ⟨⟨h1, h2, h3, h4, h5⟩, -⟩ := id h
  exact h.F (kk 2 (by decide)) (kk 3 (by decide)) (kk 4 (by decide)) (kk 5 (by decide)) (kk 6 (by decide)) ⟨h1, h2, rfl, h4, h5⟩
theorem pr_at {X : sp_X} {g : sp_G} (h : sp_Rel g) (r i : Int32) : sp_Pi X 20 145 [.int r, .int i] g := by
  rcases sp_cls r with hr | ⟨r, hrb, rfl⟩
  · exact sp_pF (xc_at_a X g hr i) (mc_at_a X g hr i) (by omega) (by omega) h
  by_cases hr : r < 6
  rotate_left
  · exact sp_pF (xc_at_b X g (by omega) hrb i) (mc_at_b X g (by omega) hrb i) (by omega) (by omega) h
  rcases sp_rowsz h hr with ⟨z1, z2⟩ | ⟨z, hz, z1, z2⟩
  · exact sp_pF (xc_at_c X g hr i z1) (mc_at_c X _ hr i z2) (by omega) (by omega) (h.ref (by omega))
  rcases sp_cls i with hi | ⟨i, hib, rfl⟩
  · exact sp_pF (xc_at_d X g hr hi z1 hz) (mc_at_d X _ hr hi z2 hz) (by omega) (by omega) (h.ref (by omega))
  by_cases hi : i < z
  rotate_left
  · exact sp_pF (xc_at_e X g hr hib z1 hz (by omega)) (mc_at_e X _ hr hib z2 hz (by omega)) (by omega) (by omega) (h.ref (by omega))
  exact sp_pF (xc_at_f X g hr hib z1 hz hi) (mc_at_f X _ hr hib z2 hz hi) (by omega) (by omega) (h.told ((h.2.1 r hr).2.2 i (by omega)))
theorem pr_tear {X : sp_X} {g : sp_G} (h : sp_Rel g) (r : Int32) : sp_Pi X 21 146 [.int r] g := by
  rcases sp_cls r with hr | ⟨r, hrb, rfl⟩
  · exact sp_pF (xc_tear_a X g hr) (mc_tear_a X g hr) (by omega) (by omega) h
  by_cases hr : r < 6
  rotate_left
  · exact sp_pF (xc_tear_b X g (by omega) hrb) (mc_tear_b X g (by omega) hrb) (by omega) (by omega) h
  rcases sp_rowsz h hr with ⟨z1, z2⟩ | ⟨z, hz, z1, z2⟩
  · exact sp_pF (xc_tear_c X g hr z1) (mc_tear_c X _ hr z2) (by omega) (by omega) (h.ref (by omega))
  refine sp_pF (xc_tear_d X g hr z1 hz) (mc_tear_d X _ hr z2 hz) (by omega) (by omega) ?_
  have kk : ∀ q, q ≠ 2 → sp_kp q g (sp_wI (sp_wI g 9 r (-1)) 66 r (-1)) := fun q hq => by
    refine sp_kp.wI (sp_kp.wI sp_kp.rf ?_) ?_ <;> exact hq.symm
  refine h.R (fun r' hr' => ?_) (kk 3 (by decide)) (kk 4 (by decide)) (kk 5 (by decide)) (kk 6 (by decide)) (sp_RFk h (kk 1 (by decide)) rfl)
  obtain ⟨h1, h2, h3⟩ := h.2.1 r' hr'
  simp only [sp_rdZ, sp_rd, sp_rdF, sp_rdW, true_and, false_and, and_true, and_false, if_true, if_false]
  by_cases e : r' = r
  · subst e
    refine ⟨by simp, Or.inl (by simp), fun i hi => ?_⟩
    repeat first | rw [if_neg (by omega)] | rw [if_pos (by omega)]
    exact h3 i hi
  · refine ⟨?_, ?_, fun i hi => ?_⟩
    · repeat first | rw [if_neg (by omega)] | rw [if_pos (by omega)]
      exact h1
    · repeat first | rw [if_neg (by omega)] | rw [if_pos (by omega)]
      exact h2
    · repeat first | rw [if_neg (by omega)] | rw [if_pos (by omega)]
      exact h3 i hi
theorem pr_mean {X : sp_X} {g : sp_G} (h : sp_Rel g) (r : Int32) : sp_Pi X 25 148 [.int r] g := by
  rcases sp_cls r with hr | ⟨r, hrb, rfl⟩
  · exact sp_pF (xc_mean_a X g hr) (mc_mean_a X g hr) (by omega) (by omega) h
  by_cases hr : r < 6
  rotate_left
  · exact sp_pF (xc_mean_b X g (by omega) hrb) (mc_mean_b X g (by omega) hrb) (by omega) (by omega) h
  rcases sp_rowsz h hr with ⟨z1, z2⟩ | ⟨z, hz, z1, z2⟩
  · exact sp_pF (xc_mean_c X g hr z1) (mc_mean_c X _ hr z2) (by omega) (by omega) (h.ref (by omega))
  rcases Nat.eq_zero_or_pos z with e | hz0
  · subst e
    exact sp_pF (xc_mean_d X g hr z1) (mc_mean_d X _ hr z2) (by omega) (by omega) (h.ref (by omega))
  refine sp_pF (xc_mean_e X g hr z1 hz hz0) (mc_mean_e X _ hr z2 hz hz0) (by omega) (by omega) (h.told ?_)
  rw [sp_sum_congr z (fun i hi => (h.2.1 r hr).2.2 i (by omega))]
  rfl
theorem pr_copy {X : sp_X} {g : sp_G} (h : sp_Rel g) (r i t j n : Int32) : sp_Pi X 23 147 [.int r, .int i, .int t, .int j, .int n] g := by
  rcases sp_cls r with hr | ⟨r, hrb, rfl⟩
  · exact sp_pF (xc_copy_a X g hr i t j n) (mc_copy_a X g hr i t j n) (by omega) (by omega) h
  by_cases hr : r < 6
  rotate_left
  · exact sp_pF (xc_copy_b X g (by omega) hrb i t j n) (mc_copy_b X g (by omega) hrb i t j n) (by omega) (by omega) h
  rcases sp_cls t with ht | ⟨t, htb, rfl⟩
  · exact sp_pF (xc_copy_c X g hr i ht j n) (mc_copy_c X g hr i ht j n) (by omega) (by omega) h
  by_cases ht : t < 6
  rotate_left
  · exact sp_pF (xc_copy_d X g hr i (by omega) htb j n) (mc_copy_d X g hr i (by omega) htb j n) (by omega) (by omega) h
  rcases sp_cls n with hn | ⟨q, hqb, rfl⟩
  · exact sp_pF (xc_copy_e X g hr i ht j hn) (mc_copy_e X _ hr i ht j hn) (by omega) (by omega) (h.ref (by omega))
  rcases sp_rowsz h hr with ⟨z1, z2⟩ | ⟨z, hz, z1, z2⟩
  · exact sp_pF (xc_copy_f X g hr i ht j hqb z1) (mc_copy_f X _ hr i ht j hqb z2) (by omega) (by omega) (h.ref (by omega))
  rcases sp_rowsz h ht with ⟨y1, y2⟩ | ⟨y, hy, y1, y2⟩
  · exact sp_pF (xc_copy_g X g hr i ht j hqb z1 hz y1) (mc_copy_g X _ hr i ht j hqb z2 hz y2) (by omega) (by omega) (h.ref (by omega))
  rcases sp_cls i with hi | ⟨i, hib, rfl⟩
  · exact sp_pF (xc_copy_h X g hr hi ht j hqb z1 hz y1 hy) (mc_copy_h X _ hr hi ht j hqb z2 hz y2 hy) (by omega) (by omega) (h.ref (by omega))
  by_cases h1 : i + q ≤ z
  rotate_left
  · rcases sp_cls j with hj | ⟨j, hjb, rfl⟩
    · exact sp_pF (xc_copy_i X g hr hib ht j hqb z1 hz y1 hy (by omega)) (mc_copy_i X _ hr hib ht hj hqb z2 hz y2 hy (by omega)) (by omega) (by omega) (h.ref (by omega))
    · exact sp_pF (xc_copy_i X g hr hib ht (nI j) hqb z1 hz y1 hy (by omega)) (mc_copy_i2 X _ hr hib ht hjb hqb z2 hz y2 hy (by omega)) (by omega) (by omega) (h.ref (by omega))
  rcases sp_cls j with hj | ⟨j, hjb, rfl⟩
  · exact sp_pF (xc_copy_j X g hr hib ht hj hqb z1 hz y1 hy h1) (mc_copy_j X _ hr hib ht hj hqb z2 hz y2 hy h1) (by omega) (by omega) (h.ref (by omega))
  by_cases h2 : j + q ≤ y
  rotate_left
  · exact sp_pF (xc_copy_k X g hr hib ht hjb hqb z1 hz y1 hy h1 (by omega)) (mc_copy_k X _ hr hib ht hjb hqb z2 hz y2 hy h1 (by omega)) (by omega) (by omega) (h.ref (by omega))
  generalize hg1 : sp_wA g (3 + t) (va_cpy (g.1 (3 + r)) (g.1 (3 + t)) i j q) = g1
  have hx := xc_copy_l X g hr hib ht hjb hqb z1 hz y1 hy h1 h2
  rw [hg1] at hx
  have m1 : ∀ c x, 60 ≤ c → g1.1 c x = g.1 c x := fun c x hc => by rw [← hg1, sp_rdW, if_neg (by omega)]
  refine sp_pF hx (mc_copy_l X g1 hr hib ht hjb hqb (by rw [m1 _ _ (by omega)]; exact z2) hz (by rw [m1 _ _ (by omega)]; exact y2) hy h1 h2) (by omega) (by omega) ?_
  have kk : ∀ p, p ≠ 0 → p ≠ 2 → sp_kp p g (sp_wA (sp_wA g1 68 (va_cpy (g1.1 67) (g1.1 68) (40 * r + i) 0 q)) 67 (va_cpy (va_cpy (g1.1 67) (g1.1 68) (40 * r + i) 0 q) (g1.1 67) 0 (40 * t + j) q)) := fun p h0 h2 => by
    have k1 : sp_kp p g g1 := by
      rw [← hg1]
      exact sp_kp.wA sp_kp.rf (fun j => by rw [sp_cl3 ht]; exact h2.symm)
    refine sp_kp.wA (sp_kp.wA k1 (fun j => ?_)) (fun j => ?_)
    · exact h0.symm
    · exact h2.symm
  refine h.R (fun r' hr' => ?_) (kk 3 (by decide) (by decide)) (kk 4 (by decide) (by decide)) (kk 5 (by decide) (by decide)) (kk 6 (by decide) (by decide)) (sp_RFk h (kk 1 (by decide) (by decide)) (by rw [← hg1]; rfl))
  obtain ⟨a1, a2, a3⟩ := h.2.1 r' hr'
  have b3 := (h.2.1 r hr).2.2
  simp only [sp_rdZ, sp_rd, sp_rdF, sp_rdW, true_and, false_and, and_true, and_false, if_true, if_false]
  refine ⟨?_, ?_, fun x hxx => ?_⟩
  · have e9 : g1.1 9 r' = g.1 9 r' := by rw [← hg1, sp_rdW, if_neg (by omega)]
    repeat first | rw [if_neg (by omega)] | rw [if_pos (by omega)]
    rw [e9, m1 _ _ (by omega)]
    exact a1
  · repeat first | rw [if_neg (by omega)] | rw [if_pos (by omega)]
    rw [m1 _ _ (by omega)]
    exact a2
  · repeat first | rw [if_neg (by omega)] | rw [if_pos (by omega)]
    have ex : g1.1 (3 + r') x = if r' = t then va_cpy (g.1 (3 + r)) (g.1 (3 + t)) i j q x else g.1 (3 + r') x := by
      rw [← hg1, sp_rdW]
      by_cases e : r' = t
      · rw [if_pos (by omega), if_pos e]
      · rw [if_neg (by omega), if_neg e]
    rw [ex]
    by_cases e : r' = t
    · subst e
      rw [if_pos rfl]
      by_cases hin : j ≤ x ∧ x < j + q
      · rw [pk_cpy_in hin.1 hin.2, pk_cpy_in (by omega) (by omega), pk_cpy_in (by omega) (by omega), m1 _ _ (by omega), b3 _ (by omega)]
        exact congrArg (g.1 67) (by omega)
      · rw [pk_cpy_out (by omega), pk_cpy_out (by omega), m1 _ _ (by omega)]
        exact a3 x hxx
    · rw [if_neg e, pk_cpy_out (by omega), m1 _ _ (by omega)]
      exact a3 x hxx
