theorem sp_rwr {r : Nat} (h : r < 6) : sp_rf 2 r = 3 + r := by
  have : ∀ r, r < 6 → sp_rf 2 r = 3 + r := by decide
  exact this r h
theorem sp_rwK {r : Nat} (h : r < 6) : 3 + r < sp_K := by unfold sp_K; omega
theorem sp_rwk {r : Nat} (h : r < 6) : sp_kd (3 + r) = 10 := by
  have : ∀ r, r < 6 → sp_kd (3 + r) = 10 := by decide
  exact this r h
theorem sp_rwl {r : Nat} (h : r < 6) : sp_ln (3 + r) = 40 := by
  have : ∀ r, r < 6 → sp_ln (3 + r) = 40 := by decide
  exact this r h
theorem sp_txr {r : Nat} (h : r < 4) : sp_rf 11 r = 12 + r := by
  have : ∀ r, r < 4 → sp_rf 11 r = 12 + r := by decide
  exact this r h
theorem sp_txK {r : Nat} (h : r < 4) : 12 + r < sp_K := by unfold sp_K; omega
theorem sp_txk {r : Nat} (h : r < 4) : sp_kd (12 + r) = 10 := by
  have : ∀ r, r < 4 → sp_kd (12 + r) = 10 := by decide
  exact this r h
theorem sp_txl {r : Nat} (h : r < 4) : sp_ln (12 + r) = 60 := by
  have : ∀ r, r < 4 → sp_ln (12 + r) = 60 := by decide
  exact this r h
/-- a Sand at cell s, its keys' sand at cell o -/
def sp_sd (s o : Nat) : Prop := s < sp_K ∧ sp_kd s = 2 ∧ sp_rf s 0 = o ∧ o < sp_K ∧ sp_kd o = 10 ∧ sp_ln o = 6 ∧ o ≠ s ∧ 22 < s ∧ s < 63 ∧ 22 < o ∧ o < 63
theorem sp_bhr {r : Nat} (h : r < 7) : sp_rf 22 r = 23 + r := by
  have : ∀ r, r < 7 → sp_rf 22 r = 23 + r := by decide
  exact this r h
theorem sp_bh {r : Nat} (h : r < 7) : sp_sd (23 + r) (30 + r) := by
  have h1 : ∀ r, r < 7 → sp_kd (23 + r) = 2 := by decide
  have h2 : ∀ r, r < 7 → sp_rf (23 + r) 0 = 30 + r := by decide
  have h3 : ∀ r, r < 7 → sp_kd (30 + r) = 10 := by decide
  have h4 : ∀ r, r < 7 → sp_ln (30 + r) = 6 := by decide
  exact ⟨by unfold sp_K; omega, h1 r h, h2 r h, by unfold sp_K; omega, h3 r h, h4 r h, by omega, by omega, by omega, by omega, by omega⟩
theorem sp_kpr {r : Nat} (h : r < 3) : sp_rf 49 r = 50 + r := by
  have : ∀ r, r < 3 → sp_rf 49 r = 50 + r := by decide
  exact this r h
theorem sp_kpK {r : Nat} (h : r < 3) : 50 + r < sp_K := by unfold sp_K; omega
theorem sp_kpK2 {r : Nat} (h : r < 3) : 53 + r < sp_K := by unfold sp_K; omega
theorem sp_kpk {r : Nat} (h : r < 3) : sp_kd (50 + r) = 6 := by
  have : ∀ r, r < 3 → sp_kd (50 + r) = 6 := by decide
  exact this r h
theorem sp_kpk2 {r : Nat} (h : r < 3) : sp_kd (53 + r) = 10 := by
  have : ∀ r, r < 3 → sp_kd (53 + r) = 10 := by decide
  exact this r h
theorem sp_kpl2 {r : Nat} (h : r < 3) : sp_ln (53 + r) = 549 := by
  have : ∀ r, r < 3 → sp_ln (53 + r) = 549 := by decide
  exact this r h
theorem sp_kpr0 {r : Nat} (h : r < 3) : sp_rf (50 + r) 0 = 53 + r := by
  have : ∀ r, r < 3 → sp_rf (50 + r) 0 = 53 + r := by decide
  exact this r h
theorem sp_subI {z q : Nat} (hz : z < 2 ^ 31) (hq : q < 2 ^ 31) : (nI z - nI q).toInt = (z : Int) - q := by
  rw [Int32.toInt_sub, sp_toI hz, sp_toI hq, Int.bmod_def]
  split <;> omega
theorem sp_span {z q i : Nat} (hz : z < 2 ^ 31) (hq : q < 2 ^ 31) (hi : i < 2 ^ 31) : nI z - nI q < nI i ↔ z < i + q := by
  rw [Int32.lt_iff_toInt_lt, sp_subI hz hq, sp_toI hi]
  omega
/-- the first n places of a cell are v -/
def sp_fill (g : sp_G) (c n : Nat) (v : Int32) : sp_G := sp_wA g c (fun j => if j < n then v else g.1 c j)
theorem sp_fill0 (g : sp_G) (c : Nat) (v : Int32) : sp_fill g c 0 v = g := by
  unfold sp_fill sp_wA
  refine Prod.ext (funext fun c' => funext fun j => ?_) rfl
  by_cases h : c' = c <;> simp [h]
theorem sp_fillS (g : sp_G) (c i : Nat) (v : Int32) : sp_wI (sp_fill g c i v) c i v = sp_fill g c (i + 1) v := by
  unfold sp_fill sp_wA sp_wI sp_up
  refine Prod.ext (funext fun c' => funext fun j => ?_) rfl
  by_cases h : c' = c
  · subst h
    by_cases hj : j = i
    · simp [hj]
    · by_cases h2 : j < i
      · simp [hj, h2, show j < i + 1 by omega]
      · simp [hj, h2, show ¬ j < i + 1 by omega]
  · simp [h]
set_option maxRecDepth 20000 in
theorem xl_fill {X : sp_X} {d : Nat} {a : sp_Ac} {g : sp_G} {c n : Nat} {v : Int32} (hc : c < sp_K) (hk : sp_kd c = 10) (hn : sp_ln c = n) (hb : n < 2 ^ 31) (hA : sp_Act X 3 d (sp_Fv (sp_fill g c n v)) a) : ∀ (m : Nat) (i : Nat), i + m = n → sp_Ev X a 3 5 [.ref c, .int v, .int (nI i), .int (nI n)] [] (sp_fill g c i v) := by
  intro m
  induction m with
  | zero =>
    intro i h0_
    refine sr_iload_n hA si_3_5 rfl ?_
    refine sr_iload_n hA si_3_6 rfl ?_
    refine sr_icmp_geN (tgt := 20) hA si_3_7 (by decide) (by omega) (by omega) (fun c1 => ?_) (fun c1 => absurd c1 (by omega))
    exact sr_vretF hA si_3_20 sq_r_3 (by rw [show i = n by omega])
  | succ m ih =>
    intro i h0_
    refine sr_iload_n hA si_3_5 rfl ?_
    refine sr_iload_n hA si_3_6 rfl ?_
    refine sr_icmp_geN (tgt := 20) hA si_3_7 (by decide) (by omega) (by omega) (fun c1 => absurd c1 (by omega)) (fun c1 => ?_)
    refine sr_aload_n hA si_3_10 rfl ?_
    refine sr_iload_n hA si_3_11 rfl ?_
    refine sr_iload_n hA si_3_12 rfl ?_
    refine sr_iastN (n := n) hA si_3_13 hc hk hn (by omega) hb ?_
    refine sr_iincN (x := i) (y := 1) (ls1 := [.ref c, .int v, .int (nI (i + 1)), .int (nI n)]) hA si_3_14 rfl rfl (by rw [sq_l_3]; decide) rfl ?_
    refine sr_goto (tgt := 5) hA si_3_17 (by decide) ?_
    rw [sp_fillS]
    exact ih (i + 1) (by omega)
set_option maxRecDepth 20000 in
theorem xc_fill (X : sp_X) (g : sp_G) {c n : Nat} (v : Int32) (hc : c < sp_K) (hk : sp_kd c = 10) (hn : sp_ln c = n) (hb : n < 2 ^ 31) : sp_Ct X 0 3 [.ref c, .int v] g (sp_Fv (sp_fill g c n v)) := by
  refine sp_walkN (n := 4) sq_p_3 sq_l_3 (Nat.le_of_ble_eq_true rfl) (fun a hA => ?_)
  show sp_Ev X a 3 0 [.ref c, .int v, .null, .null] [] g
  refine sr_iconst (v := nI 0) hA si_3_0 (by decide) ?_
  refine sr_istore_n (ls1 := [.ref c, .int v, .int (nI 0), .null]) hA si_3_1 rfl (by rw [sq_l_3]; decide) rfl ?_
  refine sr_aload_n hA si_3_2 rfl ?_
  refine sr_alen (v := nI n) hA si_3_3 hc (by rw [show sp_kd c = 10 from hk]; decide) (by rw [show sp_ln c = n from hn]; rfl) ?_
  refine sr_istore_n (ls1 := [.ref c, .int v, .int (nI 0), .int (nI n)]) hA si_3_4 rfl (by rw [sq_l_3]; decide) rfl ?_
  have h0 := xl_fill (g := g) (v := v) hc hk hn hb hA n 0 (by omega)
  rw [sp_fill0] at h0
  exact h0
set_option maxRecDepth 20000 in
theorem xc_numR1 (X : sp_X) (g : sp_G) {k : Nat} (hk : k < 6) : sp_Ct X 0 11 [.ref 1, .int (nI k)] g (sp_Fi (nI 1) g) := by
  refine sp_walkN (n := 2) sq_p_11 sq_l_11 (Nat.le_of_ble_eq_true rfl) (fun a hA => ?_)
  show sp_Ev X a 11 0 [.ref 1, .int (nI k)] [] g
  refine sr_iload_n hA si_11_0 rfl ?_
  refine sr_if_ltN (tgt := 17) hA si_11_1 (by decide) (by omega) ?_
  refine sr_iload_n hA si_11_4 rfl ?_
  refine sr_aload_n hA si_11_5 rfl ?_
  refine sr_getR (r := 9) hA si_11_6 sf_11_14 (by decide) (by decide) rfl rfl rfl ?_
  refine sr_alen (v := nI 6) hA si_11_9 (by decide) (by decide) rfl ?_
  refine sr_icmp_geN (tgt := 17) hA si_11_10 (by decide) (by omega) (by omega) (fun c2 => absurd c2 (by omega)) (fun c2 => ?_)
  refine sr_iconst (v := nI 1) hA si_11_13 (by decide) ?_
  refine sr_goto (tgt := 18) hA si_11_14 (by decide) ?_
  exact sr_zretF hA si_11_18 sq_r_11 (by decide) rfl rfl
set_option maxRecDepth 20000 in
theorem xc_numRH (X : sp_X) (g : sp_G) {k : Nat} (hk : 5 < k) (hb : k < 2 ^ 31) : sp_Ct X 0 11 [.ref 1, .int (nI k)] g (sp_Fi (nI 0) g) := by
  refine sp_walkN (n := 2) sq_p_11 sq_l_11 (Nat.le_of_ble_eq_true rfl) (fun a hA => ?_)
  show sp_Ev X a 11 0 [.ref 1, .int (nI k)] [] g
  refine sr_iload_n hA si_11_0 rfl ?_
  refine sr_if_ltN (tgt := 17) hA si_11_1 (by decide) (by omega) ?_
  refine sr_iload_n hA si_11_4 rfl ?_
  refine sr_aload_n hA si_11_5 rfl ?_
  refine sr_getR (r := 9) hA si_11_6 sf_11_14 (by decide) (by decide) rfl rfl rfl ?_
  refine sr_alen (v := nI 6) hA si_11_9 (by decide) (by decide) rfl ?_
  refine sr_icmp_geN (tgt := 17) hA si_11_10 (by decide) (by omega) (by omega) (fun c2 => ?_) (fun c2 => absurd c2 (by omega))
  refine sr_iconst (v := nI 0) hA si_11_17 (by decide) ?_
  exact sr_zretF hA si_11_18 sq_r_11 (by decide) rfl rfl
set_option maxRecDepth 20000 in
theorem xc_numRM (X : sp_X) (g : sp_G) {x : Int32} (hx : x < 0) : sp_Ct X 0 11 [.ref 1, .int x] g (sp_Fi (nI 0) g) := by
  refine sp_walkN (n := 2) sq_p_11 sq_l_11 (Nat.le_of_ble_eq_true rfl) (fun a hA => ?_)
  show sp_Ev X a 11 0 [.ref 1, .int x] [] g
  refine sr_iload_n hA si_11_0 rfl ?_
  refine sr_if_lt (tgt := 17) hA si_11_1 (by decide) (fun c1 => ?_) (fun c1 => absurd hx c1)
  refine sr_iconst (v := nI 0) hA si_11_17 (by decide) ?_
  exact sr_zretF hA si_11_18 sq_r_11 (by decide) rfl rfl
set_option maxRecDepth 20000 in
theorem xc_thereR1 (X : sp_X) (g : sp_G) {k z : Nat} (hk : k < 6) (hz : g.1 9 k = nI z) (hb : z < 2 ^ 31) : sp_Ct X 0 16 [.ref 1, .int (nI k)] g (sp_Fi (nI 1) g) := by
  refine sp_walkN (n := 2) sq_p_16 sq_l_16 (Nat.le_of_ble_eq_true rfl) (fun a hA => ?_)
  show sp_Ev X a 16 0 [.ref 1, .int (nI k)] [] g
  refine sr_aload_n hA si_16_0 rfl ?_
  refine sr_getR (r := 9) hA si_16_1 sf_16_14 (by decide) (by decide) rfl rfl rfl ?_
  refine sr_iload_n hA si_16_4 rfl ?_
  refine sr_ialdNv (v := nI z) (n := 6) hA si_16_5 (by decide) rfl rfl (by omega) (by decide) hz ?_
  refine sr_if_ltN (tgt := 13) hA si_16_6 (by decide) (by omega) ?_
  refine sr_iconst (v := nI 1) hA si_16_9 (by decide) ?_
  refine sr_goto (tgt := 14) hA si_16_10 (by decide) ?_
  exact sr_zretF hA si_16_14 sq_r_16 (by decide) rfl rfl
set_option maxRecDepth 20000 in
theorem xc_thereR0 (X : sp_X) (g : sp_G) {k : Nat} (hk : k < 6) (hz : g.1 9 k = -1) : sp_Ct X 0 16 [.ref 1, .int (nI k)] g (sp_Fi (nI 0) g) := by
  refine sp_walkN (n := 2) sq_p_16 sq_l_16 (Nat.le_of_ble_eq_true rfl) (fun a hA => ?_)
  show sp_Ev X a 16 0 [.ref 1, .int (nI k)] [] g
  refine sr_aload_n hA si_16_0 rfl ?_
  refine sr_getR (r := 9) hA si_16_1 sf_16_14 (by decide) (by decide) rfl rfl rfl ?_
  refine sr_iload_n hA si_16_4 rfl ?_
  refine sr_ialdNv (v := (-1)) (n := 6) hA si_16_5 (by decide) rfl rfl (by omega) (by decide) hz ?_
  refine sr_if_lt (tgt := 13) hA si_16_6 (by decide) (fun c1 => ?_) (fun c1 => absurd (by decide) c1)
  refine sr_iconst (v := nI 0) hA si_16_13 (by decide) ?_
  exact sr_zretF hA si_16_14 sq_r_16 (by decide) rfl rfl
set_option maxRecDepth 20000 in
theorem xc_sizeR (X : sp_X) (g : sp_G) {k : Nat} {z : Int32} (hk : k < 6) (hz : g.1 9 k = z) : sp_Ct X 0 26 [.ref 1, .int (nI k)] g (sp_Fi z g) := by
  refine sp_walkN (n := 2) sq_p_26 sq_l_26 (Nat.le_of_ble_eq_true rfl) (fun a hA => ?_)
  show sp_Ev X a 26 0 [.ref 1, .int (nI k)] [] g
  refine sr_aload_n hA si_26_0 rfl ?_
  refine sr_getR (r := 9) hA si_26_1 sf_26_14 (by decide) (by decide) rfl rfl rfl ?_
  refine sr_iload_n hA si_26_4 rfl ?_
  refine sr_ialdNv (v := z) (n := 6) hA si_26_5 (by decide) rfl rfl (by omega) (by decide) hz ?_
  exact sr_iretF hA si_26_6 sq_r_26 rfl rfl
set_option maxRecDepth 20000 in
theorem xc_getR (X : sp_X) (g : sp_G) {k i : Nat} {v : Int32} (hk : k < 6) (hi : i < 40) (hv : g.1 (3 + k) i = v) : sp_Ct X 0 18 [.ref 1, .int (nI k), .int (nI i)] g (sp_Fi v g) := by
  refine sp_walkN (n := 3) sq_p_18 sq_l_18 (Nat.le_of_ble_eq_true rfl) (fun a hA => ?_)
  show sp_Ev X a 18 0 [.ref 1, .int (nI k), .int (nI i)] [] g
  refine sr_aload_n hA si_18_0 rfl ?_
  refine sr_getR (r := 2) hA si_18_1 sf_18_9 (by decide) (by decide) rfl rfl rfl ?_
  refine sr_iload_n hA si_18_4 rfl ?_
  refine sr_aaldN (r := (3 + k)) (n := 6) hA si_18_5 (by decide) (by decide) rfl (by omega) (by decide) (sp_rwr (by omega)) ?_
  refine sr_iload_n hA si_18_6 rfl ?_
  refine sr_ialdNv (v := v) (n := 40) hA si_18_7 (sp_rwK (by omega)) (sp_rwk (by omega)) (sp_rwl (by omega)) (by omega) (by decide) hv ?_
  exact sr_iretF hA si_18_8 sq_r_18 rfl rfl
set_option maxRecDepth 20000 in
theorem xc_setR (X : sp_X) (g : sp_G) {k i : Nat} (hk : k < 6) (hi : i < 40) (v : Int32) : sp_Ct X 0 19 [.ref 1, .int (nI k), .int (nI i), .int v] g (sp_Fv (sp_wI g (3 + k) i v)) := by
  refine sp_walkN (n := 4) sq_p_19 sq_l_19 (Nat.le_of_ble_eq_true rfl) (fun a hA => ?_)
  show sp_Ev X a 19 0 [.ref 1, .int (nI k), .int (nI i), .int v] [] g
  refine sr_aload_n hA si_19_0 rfl ?_
  refine sr_getR (r := 2) hA si_19_1 sf_19_9 (by decide) (by decide) rfl rfl rfl ?_
  refine sr_iload_n hA si_19_4 rfl ?_
  refine sr_aaldN (r := (3 + k)) (n := 6) hA si_19_5 (by decide) (by decide) rfl (by omega) (by decide) (sp_rwr (by omega)) ?_
  refine sr_iload_n hA si_19_6 rfl ?_
  refine sr_iload_n hA si_19_7 rfl ?_
  refine sr_iastN (n := 40) hA si_19_8 (sp_rwK (by omega)) (sp_rwk (by omega)) (sp_rwl (by omega)) (by omega) (by decide) ?_
  exact sr_vretF hA si_19_9 sq_r_19 rfl
set_option maxRecDepth 20000 in
theorem xc_makeR (X : sp_X) (g : sp_G) {k : Nat} (hk : k < 6) (z v : Int32) : sp_Ct X 1 13 [.ref 1, .int (nI k), .int z, .int v] g (sp_Fv (sp_fill (sp_wI g 9 k z) (3 + k) 40 v)) := by
  refine sp_walkN (n := 4) sq_p_13 sq_l_13 (Nat.le_of_ble_eq_true rfl) (fun a hA => ?_)
  show sp_Ev X a 13 0 [.ref 1, .int (nI k), .int z, .int v] [] g
  refine sr_aload_n hA si_13_0 rfl ?_
  refine sr_getR (r := 9) hA si_13_1 sf_13_14 (by decide) (by decide) rfl rfl rfl ?_
  refine sr_iload_n hA si_13_4 rfl ?_
  refine sr_iload_n hA si_13_5 rfl ?_
  refine sr_iastN (n := 6) hA si_13_6 (by decide) rfl rfl (by omega) (by decide) ?_
  refine sr_aload_n hA si_13_7 rfl ?_
  refine sr_getR (r := 2) hA si_13_8 sf_13_9 (by decide) (by decide) rfl rfl rfl ?_
  refine sr_iload_n hA si_13_11 rfl ?_
  refine sr_aaldN (r := (3 + k)) (n := 6) hA si_13_12 (by decide) (by decide) rfl (by omega) (by decide) (sp_rwr (by omega)) ?_
  refine sr_iload_n hA si_13_13 rfl ?_
  refine sr_SFv (as := [.ref (3 + k), .int v]) (st := []) hA si_13_14 ss_3 sk_13_18 (xc_fill X (sp_wI g 9 k z) v (sp_rwK (by omega)) (sp_rwk (by omega)) (sp_rwl (by omega)) (by decide)) (by omega) rfl rfl (Nat.le_of_ble_eq_true rfl) ?_
  exact sr_vretF hA si_13_17 sq_r_13 rfl
set_option maxRecDepth 20000 in
theorem xc_dropR (X : sp_X) (g : sp_G) {k : Nat} (hk : k < 6) : sp_Ct X 0 22 [.ref 1, .int (nI k)] g (sp_Fv (sp_wI g 9 k (-1))) := by
  refine sp_walkN (n := 2) sq_p_22 sq_l_22 (Nat.le_of_ble_eq_true rfl) (fun a hA => ?_)
  show sp_Ev X a 22 0 [.ref 1, .int (nI k)] [] g
  refine sr_aload_n hA si_22_0 rfl ?_
  refine sr_getR (r := 9) hA si_22_1 sf_22_14 (by decide) (by decide) rfl rfl rfl ?_
  refine sr_iload_n hA si_22_4 rfl ?_
  refine sr_iconst (v := (-1)) hA si_22_5 (by decide) ?_
  refine sr_iastN (n := 6) hA si_22_6 (by decide) rfl rfl (by omega) (by decide) ?_
  exact sr_vretF hA si_22_7 sq_r_22 rfl
set_option maxRecDepth 20000 in
theorem xc_spanRM (X : sp_X) (g : sp_G) {k x q : Int32} (hx : x < 0) : sp_Ct X 0 17 [.ref 1, .int k, .int x, .int q] g (sp_Fi (nI 0) g) := by
  refine sp_walkN (n := 4) sq_p_17 sq_l_17 (Nat.le_of_ble_eq_true rfl) (fun a hA => ?_)
  show sp_Ev X a 17 0 [.ref 1, .int k, .int x, .int q] [] g
  refine sr_iload_n hA si_17_0 rfl ?_
  refine sr_if_lt (tgt := 20) hA si_17_1 (by decide) (fun c1 => ?_) (fun c1 => absurd hx c1)
  refine sr_iconst (v := nI 0) hA si_17_20 (by decide) ?_
  exact sr_zretF hA si_17_21 sq_r_17 (by decide) rfl rfl
set_option maxRecDepth 20000 in
theorem xc_spanR1 (X : sp_X) (g : sp_G) {k z i q : Nat} (hk : k < 6) (hz : g.1 9 k = nI z) (hb : z < 2 ^ 31) (h : i + q ≤ z) : sp_Ct X 0 17 [.ref 1, .int (nI k), .int (nI i), .int (nI q)] g (sp_Fi (nI 1) g) := by
  refine sp_walkN (n := 4) sq_p_17 sq_l_17 (Nat.le_of_ble_eq_true rfl) (fun a hA => ?_)
  show sp_Ev X a 17 0 [.ref 1, .int (nI k), .int (nI i), .int (nI q)] [] g
  refine sr_iload_n hA si_17_0 rfl ?_
  refine sr_if_ltN (tgt := 20) hA si_17_1 (by decide) (by omega) ?_
  refine sr_iload_n hA si_17_4 rfl ?_
  refine sr_aload_n hA si_17_5 rfl ?_
  refine sr_getR (r := 9) hA si_17_6 sf_17_14 (by decide) (by decide) rfl rfl rfl ?_
  refine sr_iload_n hA si_17_9 rfl ?_
  refine sr_ialdNv (v := nI z) (n := 6) hA si_17_10 (by decide) rfl rfl (by omega) (by decide) hz ?_
  refine sr_iload_n hA si_17_11 rfl ?_
  refine sr_isub hA si_17_12 ?_
  refine sr_icmp_gt (tgt := 20) hA si_17_13 (by decide) (fun c2 => absurd c2 (fun e => absurd ((sp_span (by omega) (by omega) (by omega)).mp e) (by omega))) (fun c2 => ?_)
  refine sr_iconst (v := nI 1) hA si_17_16 (by decide) ?_
  refine sr_goto (tgt := 21) hA si_17_17 (by decide) ?_
  exact sr_zretF hA si_17_21 sq_r_17 (by decide) rfl rfl
set_option maxRecDepth 20000 in
theorem xc_spanR0 (X : sp_X) (g : sp_G) {k z i q : Nat} (hk : k < 6) (hz : g.1 9 k = nI z) (hb : z < 2 ^ 31) (hi : i < 2 ^ 31) (hq : q < 2 ^ 31) (h : z < i + q) : sp_Ct X 0 17 [.ref 1, .int (nI k), .int (nI i), .int (nI q)] g (sp_Fi (nI 0) g) := by
  refine sp_walkN (n := 4) sq_p_17 sq_l_17 (Nat.le_of_ble_eq_true rfl) (fun a hA => ?_)
  show sp_Ev X a 17 0 [.ref 1, .int (nI k), .int (nI i), .int (nI q)] [] g
  refine sr_iload_n hA si_17_0 rfl ?_
  refine sr_if_ltN (tgt := 20) hA si_17_1 (by decide) (by omega) ?_
  refine sr_iload_n hA si_17_4 rfl ?_
  refine sr_aload_n hA si_17_5 rfl ?_
  refine sr_getR (r := 9) hA si_17_6 sf_17_14 (by decide) (by decide) rfl rfl rfl ?_
  refine sr_iload_n hA si_17_9 rfl ?_
  refine sr_ialdNv (v := nI z) (n := 6) hA si_17_10 (by decide) rfl rfl (by omega) (by decide) hz ?_
  refine sr_iload_n hA si_17_11 rfl ?_
  refine sr_isub hA si_17_12 ?_
  refine sr_icmp_gt (tgt := 20) hA si_17_13 (by decide) (fun c2 => ?_) (fun c2 => absurd ((sp_span (by omega) (by omega) (by omega)).mpr h) c2)
  refine sr_iconst (v := nI 0) hA si_17_20 (by decide) ?_
  exact sr_zretF hA si_17_21 sq_r_17 (by decide) rfl rfl
set_option maxRecDepth 20000 in
theorem xc_numT1 (X : sp_X) (g : sp_G) {k : Nat} (hk : k < 4) : sp_Ct X 0 11 [.ref 10, .int (nI k)] g (sp_Fi (nI 1) g) := by
  refine sp_walkN (n := 2) sq_p_11 sq_l_11 (Nat.le_of_ble_eq_true rfl) (fun a hA => ?_)
  show sp_Ev X a 11 0 [.ref 10, .int (nI k)] [] g
  refine sr_iload_n hA si_11_0 rfl ?_
  refine sr_if_ltN (tgt := 17) hA si_11_1 (by decide) (by omega) ?_
  refine sr_iload_n hA si_11_4 rfl ?_
  refine sr_aload_n hA si_11_5 rfl ?_
  refine sr_getR (r := 16) hA si_11_6 sf_11_14 (by decide) (by decide) rfl rfl rfl ?_
  refine sr_alen (v := nI 4) hA si_11_9 (by decide) (by decide) rfl ?_
  refine sr_icmp_geN (tgt := 17) hA si_11_10 (by decide) (by omega) (by omega) (fun c2 => absurd c2 (by omega)) (fun c2 => ?_)
  refine sr_iconst (v := nI 1) hA si_11_13 (by decide) ?_
  refine sr_goto (tgt := 18) hA si_11_14 (by decide) ?_
  exact sr_zretF hA si_11_18 sq_r_11 (by decide) rfl rfl
set_option maxRecDepth 20000 in
theorem xc_numTH (X : sp_X) (g : sp_G) {k : Nat} (hk : 3 < k) (hb : k < 2 ^ 31) : sp_Ct X 0 11 [.ref 10, .int (nI k)] g (sp_Fi (nI 0) g) := by
  refine sp_walkN (n := 2) sq_p_11 sq_l_11 (Nat.le_of_ble_eq_true rfl) (fun a hA => ?_)
  show sp_Ev X a 11 0 [.ref 10, .int (nI k)] [] g
  refine sr_iload_n hA si_11_0 rfl ?_
  refine sr_if_ltN (tgt := 17) hA si_11_1 (by decide) (by omega) ?_
  refine sr_iload_n hA si_11_4 rfl ?_
  refine sr_aload_n hA si_11_5 rfl ?_
  refine sr_getR (r := 16) hA si_11_6 sf_11_14 (by decide) (by decide) rfl rfl rfl ?_
  refine sr_alen (v := nI 4) hA si_11_9 (by decide) (by decide) rfl ?_
  refine sr_icmp_geN (tgt := 17) hA si_11_10 (by decide) (by omega) (by omega) (fun c2 => ?_) (fun c2 => absurd c2 (by omega))
  refine sr_iconst (v := nI 0) hA si_11_17 (by decide) ?_
  exact sr_zretF hA si_11_18 sq_r_11 (by decide) rfl rfl
set_option maxRecDepth 20000 in
theorem xc_numTM (X : sp_X) (g : sp_G) {x : Int32} (hx : x < 0) : sp_Ct X 0 11 [.ref 10, .int x] g (sp_Fi (nI 0) g) := by
  refine sp_walkN (n := 2) sq_p_11 sq_l_11 (Nat.le_of_ble_eq_true rfl) (fun a hA => ?_)
  show sp_Ev X a 11 0 [.ref 10, .int x] [] g
  refine sr_iload_n hA si_11_0 rfl ?_
  refine sr_if_lt (tgt := 17) hA si_11_1 (by decide) (fun c1 => ?_) (fun c1 => absurd hx c1)
  refine sr_iconst (v := nI 0) hA si_11_17 (by decide) ?_
  exact sr_zretF hA si_11_18 sq_r_11 (by decide) rfl rfl
set_option maxRecDepth 20000 in
theorem xc_thereT1 (X : sp_X) (g : sp_G) {k z : Nat} (hk : k < 4) (hz : g.1 16 k = nI z) (hb : z < 2 ^ 31) : sp_Ct X 0 16 [.ref 10, .int (nI k)] g (sp_Fi (nI 1) g) := by
  refine sp_walkN (n := 2) sq_p_16 sq_l_16 (Nat.le_of_ble_eq_true rfl) (fun a hA => ?_)
  show sp_Ev X a 16 0 [.ref 10, .int (nI k)] [] g
  refine sr_aload_n hA si_16_0 rfl ?_
  refine sr_getR (r := 16) hA si_16_1 sf_16_14 (by decide) (by decide) rfl rfl rfl ?_
  refine sr_iload_n hA si_16_4 rfl ?_
  refine sr_ialdNv (v := nI z) (n := 4) hA si_16_5 (by decide) rfl rfl (by omega) (by decide) hz ?_
  refine sr_if_ltN (tgt := 13) hA si_16_6 (by decide) (by omega) ?_
  refine sr_iconst (v := nI 1) hA si_16_9 (by decide) ?_
  refine sr_goto (tgt := 14) hA si_16_10 (by decide) ?_
  exact sr_zretF hA si_16_14 sq_r_16 (by decide) rfl rfl
set_option maxRecDepth 20000 in
theorem xc_thereT0 (X : sp_X) (g : sp_G) {k : Nat} (hk : k < 4) (hz : g.1 16 k = -1) : sp_Ct X 0 16 [.ref 10, .int (nI k)] g (sp_Fi (nI 0) g) := by
  refine sp_walkN (n := 2) sq_p_16 sq_l_16 (Nat.le_of_ble_eq_true rfl) (fun a hA => ?_)
  show sp_Ev X a 16 0 [.ref 10, .int (nI k)] [] g
  refine sr_aload_n hA si_16_0 rfl ?_
  refine sr_getR (r := 16) hA si_16_1 sf_16_14 (by decide) (by decide) rfl rfl rfl ?_
  refine sr_iload_n hA si_16_4 rfl ?_
  refine sr_ialdNv (v := (-1)) (n := 4) hA si_16_5 (by decide) rfl rfl (by omega) (by decide) hz ?_
  refine sr_if_lt (tgt := 13) hA si_16_6 (by decide) (fun c1 => ?_) (fun c1 => absurd (by decide) c1)
  refine sr_iconst (v := nI 0) hA si_16_13 (by decide) ?_
  exact sr_zretF hA si_16_14 sq_r_16 (by decide) rfl rfl
set_option maxRecDepth 20000 in
theorem xc_sizeT (X : sp_X) (g : sp_G) {k : Nat} {z : Int32} (hk : k < 4) (hz : g.1 16 k = z) : sp_Ct X 0 26 [.ref 10, .int (nI k)] g (sp_Fi z g) := by
  refine sp_walkN (n := 2) sq_p_26 sq_l_26 (Nat.le_of_ble_eq_true rfl) (fun a hA => ?_)
  show sp_Ev X a 26 0 [.ref 10, .int (nI k)] [] g
  refine sr_aload_n hA si_26_0 rfl ?_
  refine sr_getR (r := 16) hA si_26_1 sf_26_14 (by decide) (by decide) rfl rfl rfl ?_
  refine sr_iload_n hA si_26_4 rfl ?_
  refine sr_ialdNv (v := z) (n := 4) hA si_26_5 (by decide) rfl rfl (by omega) (by decide) hz ?_
  exact sr_iretF hA si_26_6 sq_r_26 rfl rfl
set_option maxRecDepth 20000 in
theorem xc_getT (X : sp_X) (g : sp_G) {k i : Nat} {v : Int32} (hk : k < 4) (hi : i < 60) (hv : g.1 (12 + k) i = v) : sp_Ct X 0 18 [.ref 10, .int (nI k), .int (nI i)] g (sp_Fi v g) := by
  refine sp_walkN (n := 3) sq_p_18 sq_l_18 (Nat.le_of_ble_eq_true rfl) (fun a hA => ?_)
  show sp_Ev X a 18 0 [.ref 10, .int (nI k), .int (nI i)] [] g
  refine sr_aload_n hA si_18_0 rfl ?_
  refine sr_getR (r := 11) hA si_18_1 sf_18_9 (by decide) (by decide) rfl rfl rfl ?_
  refine sr_iload_n hA si_18_4 rfl ?_
  refine sr_aaldN (r := (12 + k)) (n := 4) hA si_18_5 (by decide) (by decide) rfl (by omega) (by decide) (sp_txr (by omega)) ?_
  refine sr_iload_n hA si_18_6 rfl ?_
  refine sr_ialdNv (v := v) (n := 60) hA si_18_7 (sp_txK (by omega)) (sp_txk (by omega)) (sp_txl (by omega)) (by omega) (by decide) hv ?_
  exact sr_iretF hA si_18_8 sq_r_18 rfl rfl
set_option maxRecDepth 20000 in
theorem xc_setT (X : sp_X) (g : sp_G) {k i : Nat} (hk : k < 4) (hi : i < 60) (v : Int32) : sp_Ct X 0 19 [.ref 10, .int (nI k), .int (nI i), .int v] g (sp_Fv (sp_wI g (12 + k) i v)) := by
  refine sp_walkN (n := 4) sq_p_19 sq_l_19 (Nat.le_of_ble_eq_true rfl) (fun a hA => ?_)
  show sp_Ev X a 19 0 [.ref 10, .int (nI k), .int (nI i), .int v] [] g
  refine sr_aload_n hA si_19_0 rfl ?_
  refine sr_getR (r := 11) hA si_19_1 sf_19_9 (by decide) (by decide) rfl rfl rfl ?_
  refine sr_iload_n hA si_19_4 rfl ?_
  refine sr_aaldN (r := (12 + k)) (n := 4) hA si_19_5 (by decide) (by decide) rfl (by omega) (by decide) (sp_txr (by omega)) ?_
  refine sr_iload_n hA si_19_6 rfl ?_
  refine sr_iload_n hA si_19_7 rfl ?_
  refine sr_iastN (n := 60) hA si_19_8 (sp_txK (by omega)) (sp_txk (by omega)) (sp_txl (by omega)) (by omega) (by decide) ?_
  exact sr_vretF hA si_19_9 sq_r_19 rfl
set_option maxRecDepth 20000 in
theorem xc_makeT (X : sp_X) (g : sp_G) {k : Nat} (hk : k < 4) (z v : Int32) : sp_Ct X 1 13 [.ref 10, .int (nI k), .int z, .int v] g (sp_Fv (sp_fill (sp_wI g 16 k z) (12 + k) 60 v)) := by
  refine sp_walkN (n := 4) sq_p_13 sq_l_13 (Nat.le_of_ble_eq_true rfl) (fun a hA => ?_)
  show sp_Ev X a 13 0 [.ref 10, .int (nI k), .int z, .int v] [] g
  refine sr_aload_n hA si_13_0 rfl ?_
  refine sr_getR (r := 16) hA si_13_1 sf_13_14 (by decide) (by decide) rfl rfl rfl ?_
  refine sr_iload_n hA si_13_4 rfl ?_
  refine sr_iload_n hA si_13_5 rfl ?_
  refine sr_iastN (n := 4) hA si_13_6 (by decide) rfl rfl (by omega) (by decide) ?_
  refine sr_aload_n hA si_13_7 rfl ?_
  refine sr_getR (r := 11) hA si_13_8 sf_13_9 (by decide) (by decide) rfl rfl rfl ?_
  refine sr_iload_n hA si_13_11 rfl ?_
  refine sr_aaldN (r := (12 + k)) (n := 4) hA si_13_12 (by decide) (by decide) rfl (by omega) (by decide) (sp_txr (by omega)) ?_
  refine sr_iload_n hA si_13_13 rfl ?_
  refine sr_SFv (as := [.ref (12 + k), .int v]) (st := []) hA si_13_14 ss_3 sk_13_18 (xc_fill X (sp_wI g 16 k z) v (sp_txK (by omega)) (sp_txk (by omega)) (sp_txl (by omega)) (by decide)) (by omega) rfl rfl (Nat.le_of_ble_eq_true rfl) ?_
  exact sr_vretF hA si_13_17 sq_r_13 rfl
set_option maxRecDepth 20000 in
theorem xc_dropT (X : sp_X) (g : sp_G) {k : Nat} (hk : k < 4) : sp_Ct X 0 22 [.ref 10, .int (nI k)] g (sp_Fv (sp_wI g 16 k (-1))) := by
  refine sp_walkN (n := 2) sq_p_22 sq_l_22 (Nat.le_of_ble_eq_true rfl) (fun a hA => ?_)
  show sp_Ev X a 22 0 [.ref 10, .int (nI k)] [] g
  refine sr_aload_n hA si_22_0 rfl ?_
  refine sr_getR (r := 16) hA si_22_1 sf_22_14 (by decide) (by decide) rfl rfl rfl ?_
  refine sr_iload_n hA si_22_4 rfl ?_
  refine sr_iconst (v := (-1)) hA si_22_5 (by decide) ?_
  refine sr_iastN (n := 4) hA si_22_6 (by decide) rfl rfl (by omega) (by decide) ?_
  exact sr_vretF hA si_22_7 sq_r_22 rfl
set_option maxRecDepth 20000 in
theorem xc_spanTM (X : sp_X) (g : sp_G) {k x q : Int32} (hx : x < 0) : sp_Ct X 0 17 [.ref 10, .int k, .int x, .int q] g (sp_Fi (nI 0) g) := by
  refine sp_walkN (n := 4) sq_p_17 sq_l_17 (Nat.le_of_ble_eq_true rfl) (fun a hA => ?_)
  show sp_Ev X a 17 0 [.ref 10, .int k, .int x, .int q] [] g
  refine sr_iload_n hA si_17_0 rfl ?_
  refine sr_if_lt (tgt := 20) hA si_17_1 (by decide) (fun c1 => ?_) (fun c1 => absurd hx c1)
  refine sr_iconst (v := nI 0) hA si_17_20 (by decide) ?_
  exact sr_zretF hA si_17_21 sq_r_17 (by decide) rfl rfl
set_option maxRecDepth 20000 in
theorem xc_spanT1 (X : sp_X) (g : sp_G) {k z i q : Nat} (hk : k < 4) (hz : g.1 16 k = nI z) (hb : z < 2 ^ 31) (h : i + q ≤ z) : sp_Ct X 0 17 [.ref 10, .int (nI k), .int (nI i), .int (nI q)] g (sp_Fi (nI 1) g) := by
  refine sp_walkN (n := 4) sq_p_17 sq_l_17 (Nat.le_of_ble_eq_true rfl) (fun a hA => ?_)
  show sp_Ev X a 17 0 [.ref 10, .int (nI k), .int (nI i), .int (nI q)] [] g
  refine sr_iload_n hA si_17_0 rfl ?_
  refine sr_if_ltN (tgt := 20) hA si_17_1 (by decide) (by omega) ?_
  refine sr_iload_n hA si_17_4 rfl ?_
  refine sr_aload_n hA si_17_5 rfl ?_
  refine sr_getR (r := 16) hA si_17_6 sf_17_14 (by decide) (by decide) rfl rfl rfl ?_
  refine sr_iload_n hA si_17_9 rfl ?_
  refine sr_ialdNv (v := nI z) (n := 4) hA si_17_10 (by decide) rfl rfl (by omega) (by decide) hz ?_
  refine sr_iload_n hA si_17_11 rfl ?_
  refine sr_isub hA si_17_12 ?_
  refine sr_icmp_gt (tgt := 20) hA si_17_13 (by decide) (fun c2 => absurd c2 (fun e => absurd ((sp_span (by omega) (by omega) (by omega)).mp e) (by omega))) (fun c2 => ?_)
  refine sr_iconst (v := nI 1) hA si_17_16 (by decide) ?_
  refine sr_goto (tgt := 21) hA si_17_17 (by decide) ?_
  exact sr_zretF hA si_17_21 sq_r_17 (by decide) rfl rfl
set_option maxRecDepth 20000 in
theorem xc_spanT0 (X : sp_X) (g : sp_G) {k z i q : Nat} (hk : k < 4) (hz : g.1 16 k = nI z) (hb : z < 2 ^ 31) (hi : i < 2 ^ 31) (hq : q < 2 ^ 31) (h : z < i + q) : sp_Ct X 0 17 [.ref 10, .int (nI k), .int (nI i), .int (nI q)] g (sp_Fi (nI 0) g) := by
  refine sp_walkN (n := 4) sq_p_17 sq_l_17 (Nat.le_of_ble_eq_true rfl) (fun a hA => ?_)
  show sp_Ev X a 17 0 [.ref 10, .int (nI k), .int (nI i), .int (nI q)] [] g
  refine sr_iload_n hA si_17_0 rfl ?_
  refine sr_if_ltN (tgt := 20) hA si_17_1 (by decide) (by omega) ?_
  refine sr_iload_n hA si_17_4 rfl ?_
  refine sr_aload_n hA si_17_5 rfl ?_
  refine sr_getR (r := 16) hA si_17_6 sf_17_14 (by decide) (by decide) rfl rfl rfl ?_
  refine sr_iload_n hA si_17_9 rfl ?_
  refine sr_ialdNv (v := nI z) (n := 4) hA si_17_10 (by decide) rfl rfl (by omega) (by decide) hz ?_
  refine sr_iload_n hA si_17_11 rfl ?_
  refine sr_isub hA si_17_12 ?_
  refine sr_icmp_gt (tgt := 20) hA si_17_13 (by decide) (fun c2 => ?_) (fun c2 => absurd ((sp_span (by omega) (by omega) (by omega)).mpr h) c2)
  refine sr_iconst (v := nI 0) hA si_17_20 (by decide) ?_
  exact sr_zretF hA si_17_21 sq_r_17 (by decide) rfl rfl
set_option maxRecDepth 20000 in
theorem xc_refuse (X : sp_X) (g : sp_G) {f : Nat} (hf : f < 6) : sp_Ct X 0 12 [.ref 0, .int (nI f)] g (sp_Fi (-3) (sp_wI (sp_wI g 0 11 (nI f)) 63 f (g.1 63 f + nI 1))) := by
  refine sp_walkN (n := 2) sq_p_12 sq_l_12 (Nat.le_of_ble_eq_true rfl) (fun a hA => ?_)
  show sp_Ev X a 12 0 [.ref 0, .int (nI f)] [] g
  refine sr_aload_n hA si_12_0 rfl ?_
  refine sr_iload_n hA si_12_1 rfl ?_
  refine sr_putI hA si_12_2 sf_12_299 rfl rfl (by decide) (by decide) rfl rfl ?_
  refine sr_aload_n hA si_12_5 rfl ?_
  refine sr_getR (r := 63) hA si_12_6 sf_12_64 (by decide) (by decide) rfl rfl rfl ?_
  refine sr_iload_n hA si_12_9 rfl ?_
  refine sr_dup2 hA si_12_10 rfl rfl ?_
  refine sr_ialdNv (v := g.1 63 f) (n := 6) hA si_12_11 (by decide) rfl rfl (by omega) (by decide) rfl ?_
  refine sr_iconst (v := nI 1) hA si_12_12 (by decide) ?_
  refine sr_iadd hA si_12_13 ?_
  refine sr_iastN (n := 6) hA si_12_14 (by decide) rfl rfl (by omega) (by decide) ?_
  refine sr_bipush (v := (-3)) hA si_12_15 (by decide) ?_
  exact sr_iretF hA si_12_17 sq_r_12 rfl rfl
