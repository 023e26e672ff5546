/-- a row is copied place by place -/
theorem sp_cpy0 (g : sp_G) (c : Nat) (f : Nat → Int32) (a b : Nat) : sp_wA g c (va_cpy f (g.1 c) a b 0) = g := by
  refine Prod.ext (funext fun c' => funext fun j => ?_) rfl
  show (if c' = c then va_cpy f (g.1 c) a b 0 else g.1 c') j = _
  by_cases h : c' = c
  · subst h
    rw [if_pos rfl]
    unfold va_cpy
    rw [if_neg (by omega)]
  · rw [if_neg h]
theorem sp_cpyS (g : sp_G) (c : Nat) (f : Nat → Int32) (a b k : Nat) : sp_wI (sp_wA g c (va_cpy f (g.1 c) a b k)) c (b + k) (f (a + k)) = sp_wA g c (va_cpy f (g.1 c) a b (k + 1)) := by
  refine Prod.ext (funext fun c' => funext fun j => ?_) rfl
  show (if c' = c ∧ j = b + k then f (a + k) else (if c' = c then va_cpy f (g.1 c) a b k else g.1 c') j) = (if c' = c then va_cpy f (g.1 c) a b (k + 1) else g.1 c') j
  by_cases h : c' = c
  · subst h
    rw [if_pos rfl, if_pos rfl]
    unfold va_cpy
    by_cases hj : j = b + k
    · rw [if_pos ⟨rfl, hj⟩, if_pos (by omega), hj, show b + k - b = k by omega]
    · rw [if_neg (fun q => hj q.2)]
      by_cases h2 : b ≤ j ∧ j < b + k
      · rw [if_pos h2, if_pos (by omega)]
      · rw [if_neg h2, if_neg (by omega)]
  · rw [if_neg (fun q => h q.1), if_neg h, if_neg h]
theorem sp_rdA {g : sp_G} {c c' : Nat} {f : Nat → Int32} (h : c' ≠ c) : (sp_wA g c f).1 c' = g.1 c' := by
  show (if c' = c then f else g.1 c') = _
  rw [if_neg h]
theorem sp_rdAs {g : sp_G} {c : Nat} {f : Nat → Int32} : (sp_wA g c f).1 c = f := by
  show (if c = c then f else g.1 c) = _
  rw [if_pos rfl]
theorem sp_lc {i q z : Nat} (hi : i < 2 ^ 31) (hq : q < 2 ^ 31) (hz : z < 2 ^ 31) : 0 < lg_cmp ((nI i).toInt64 + (nI q).toInt64) (nI z).toInt64 ↔ z < i + q := by
  rw [nI_l hi, nI_l hq, nI_l hz, lN_add]
  unfold lg_cmp
  have e1 : lN (i + q) > lN z ↔ z < i + q := pk_lLT (by omega) (by omega)
  by_cases h : z < i + q
  · rw [if_pos (e1.mpr h)]
    exact ⟨fun _ => h, fun _ => by decide⟩
  · rw [if_neg (fun q => h (e1.mp q))]
    refine ⟨fun e => ?_, fun e => absurd e h⟩
    split at e <;> exact absurd e (by decide)
theorem sp_lc' {i q z : Nat} (hi : i < 2 ^ 31) (hq : q < 2 ^ 31) (hz : z < 2 ^ 31) : lg_cmp ((nI i).toInt64 + (nI q).toInt64) (nI z).toInt64 ≤ 0 ↔ i + q ≤ z := by
  rw [← Int32.not_lt, sp_lc hi hq hz, Nat.not_lt]
def sp_sum (f : Nat → Int32) : Nat → Int64
  | 0 => 0
  | n + 1 => sp_sum f n + (f n).toInt64
theorem sp_sum_congr {f h : Nat → Int32} : ∀ n, (∀ i, i < n → f i = h i) → sp_sum f n = sp_sum h n
  | 0, _ => rfl
  | n + 1, e => by
    show sp_sum f n + (f n).toInt64 = sp_sum h n + (h n).toInt64
    rw [sp_sum_congr n (fun i hi => e i (by omega)), e n (by omega)]
theorem sp_l0 {z : Nat} (h : 0 < z) (hz : z < 2 ^ 31) : ¬ (nI z).toInt64 = 0 := by
  rw [nI_l hz]
  intro e
  have := (lN_eq (a := z) (b := 0) hz (by omega)).mp e
  omega
set_option maxRecDepth 20000 in
theorem xc_pwR1 (X : sp_X) (g : sp_G) {r : Nat} {i : Int32} (hr : r < 6) (hz : g.1 9 r = -1) : sp_Ct X 1 15 [.ref 1, .int (nI r), .int i] g (sp_Fi (nI 1) g) := by
  refine sp_walkN (n := 3) sq_p_15 sq_l_15 (Nat.le_of_ble_eq_true rfl) (fun a hA => ?_)
  show sp_Ev X a 15 0 [.ref 1, .int (nI r), .int i] [] g
  refine sr_aload_n hA si_15_0 rfl ?_
  refine sr_iload_n hA si_15_1 rfl ?_
  refine sr_VFi (c := 1) (ci := 5) (as := [.int (nI r)]) (st := []) hA si_15_2 sv_16 sk_15_99 (xc_thereR0 X g (by omega) hz) (by omega) rfl (by decide) (by decide) rfl sq_c_16 rfl (Nat.le_of_ble_eq_true rfl) ?_
  refine sr_if_neN (tgt := 10) hA si_15_5 (by decide) (by omega) (fun c1 => absurd c1 (by omega)) (fun c1 => ?_)
  refine sr_iconst (v := nI 1) hA si_15_8 (by decide) ?_
  exact sr_iretF hA si_15_9 sq_r_15 rfl rfl
set_option maxRecDepth 20000 in
theorem xc_pwRM (X : sp_X) (g : sp_G) {r z : Nat} {i : Int32} (hr : r < 6) (hz : g.1 9 r = nI z) (hzb : z ≤ 40) (hi : i < 0) : sp_Ct X 1 15 [.ref 1, .int (nI r), .int i] g (sp_Fi (nI 2) g) := by
  refine sp_walkN (n := 3) sq_p_15 sq_l_15 (Nat.le_of_ble_eq_true rfl) (fun a hA => ?_)
  show sp_Ev X a 15 0 [.ref 1, .int (nI r), .int i] [] g
  refine sr_aload_n hA si_15_0 rfl ?_
  refine sr_iload_n hA si_15_1 rfl ?_
  refine sr_VFi (c := 1) (ci := 5) (as := [.int (nI r)]) (st := []) hA si_15_2 sv_16 sk_15_99 (xc_thereR1 X g (by omega) hz (by omega)) (by omega) rfl (by decide) (by decide) rfl sq_c_16 rfl (Nat.le_of_ble_eq_true rfl) ?_
  refine sr_if_neN (tgt := 10) hA si_15_5 (by decide) (by omega) (fun c1 => ?_) (fun c1 => absurd c1 (by omega))
  refine sr_aload_n hA si_15_10 rfl ?_
  refine sr_iload_n hA si_15_11 rfl ?_
  refine sr_iload_n hA si_15_12 rfl ?_
  refine sr_iconst (v := nI 1) hA si_15_13 (by decide) ?_
  refine sr_VFi (c := 1) (ci := 5) (as := [.int (nI r), .int i, .int (nI 1)]) (st := []) hA si_15_14 sv_17 sk_15_106 (xc_spanRM X g hi) (by omega) rfl (by decide) (by decide) rfl sq_c_17 rfl (Nat.le_of_ble_eq_true rfl) ?_
  refine sr_if_eqN (tgt := 24) hA si_15_17 (by decide) (by omega) (fun c2 => ?_) (fun c2 => absurd c2 (by omega))
  refine sr_iconst (v := nI 2) hA si_15_24 (by decide) ?_
  exact sr_iretF hA si_15_25 sq_r_15 rfl rfl
set_option maxRecDepth 20000 in
theorem xc_pwR2 (X : sp_X) (g : sp_G) {r z i : Nat} (hr : r < 6) (hz : g.1 9 r = nI z) (hzb : z ≤ 40) (hi : z ≤ i) (hib : i < 2 ^ 31) : sp_Ct X 1 15 [.ref 1, .int (nI r), .int (nI i)] g (sp_Fi (nI 2) g) := by
  refine sp_walkN (n := 3) sq_p_15 sq_l_15 (Nat.le_of_ble_eq_true rfl) (fun a hA => ?_)
  show sp_Ev X a 15 0 [.ref 1, .int (nI r), .int (nI i)] [] g
  refine sr_aload_n hA si_15_0 rfl ?_
  refine sr_iload_n hA si_15_1 rfl ?_
  refine sr_VFi (c := 1) (ci := 5) (as := [.int (nI r)]) (st := []) hA si_15_2 sv_16 sk_15_99 (xc_thereR1 X g (by omega) hz (by omega)) (by omega) rfl (by decide) (by decide) rfl sq_c_16 rfl (Nat.le_of_ble_eq_true rfl) ?_
  refine sr_if_neN (tgt := 10) hA si_15_5 (by decide) (by omega) (fun c1 => ?_) (fun c1 => absurd c1 (by omega))
  refine sr_aload_n hA si_15_10 rfl ?_
  refine sr_iload_n hA si_15_11 rfl ?_
  refine sr_iload_n hA si_15_12 rfl ?_
  refine sr_iconst (v := nI 1) hA si_15_13 (by decide) ?_
  refine sr_VFi (c := 1) (ci := 5) (as := [.int (nI r), .int (nI i), .int (nI 1)]) (st := []) hA si_15_14 sv_17 sk_15_106 (xc_spanR0 X g (by omega) hz (by omega) (by omega) (by omega) (by omega)) (by omega) rfl (by decide) (by decide) rfl sq_c_17 rfl (Nat.le_of_ble_eq_true rfl) ?_
  refine sr_if_eqN (tgt := 24) hA si_15_17 (by decide) (by omega) (fun c2 => ?_) (fun c2 => absurd c2 (by omega))
  refine sr_iconst (v := nI 2) hA si_15_24 (by decide) ?_
  exact sr_iretF hA si_15_25 sq_r_15 rfl rfl
set_option maxRecDepth 20000 in
theorem xc_pwR0 (X : sp_X) (g : sp_G) {r z i : Nat} (hr : r < 6) (hz : g.1 9 r = nI z) (hzb : z ≤ 40) (hi : i < z) : sp_Ct X 1 15 [.ref 1, .int (nI r), .int (nI i)] g (sp_Fi (nI 0) g) := by
  refine sp_walkN (n := 3) sq_p_15 sq_l_15 (Nat.le_of_ble_eq_true rfl) (fun a hA => ?_)
  show sp_Ev X a 15 0 [.ref 1, .int (nI r), .int (nI i)] [] g
  refine sr_aload_n hA si_15_0 rfl ?_
  refine sr_iload_n hA si_15_1 rfl ?_
  refine sr_VFi (c := 1) (ci := 5) (as := [.int (nI r)]) (st := []) hA si_15_2 sv_16 sk_15_99 (xc_thereR1 X g (by omega) hz (by omega)) (by omega) rfl (by decide) (by decide) rfl sq_c_16 rfl (Nat.le_of_ble_eq_true rfl) ?_
  refine sr_if_neN (tgt := 10) hA si_15_5 (by decide) (by omega) (fun c1 => ?_) (fun c1 => absurd c1 (by omega))
  refine sr_aload_n hA si_15_10 rfl ?_
  refine sr_iload_n hA si_15_11 rfl ?_
  refine sr_iload_n hA si_15_12 rfl ?_
  refine sr_iconst (v := nI 1) hA si_15_13 (by decide) ?_
  refine sr_VFi (c := 1) (ci := 5) (as := [.int (nI r), .int (nI i), .int (nI 1)]) (st := []) hA si_15_14 sv_17 sk_15_106 (xc_spanR1 X g (by omega) hz (by omega) (by omega)) (by omega) rfl (by decide) (by decide) rfl sq_c_17 rfl (Nat.le_of_ble_eq_true rfl) ?_
  refine sr_if_eqN (tgt := 24) hA si_15_17 (by decide) (by omega) (fun c2 => absurd c2 (by omega)) (fun c2 => ?_)
  refine sr_iconst (v := nI 0) hA si_15_20 (by decide) ?_
  refine sr_goto (tgt := 25) hA si_15_21 (by decide) ?_
  exact sr_iretF hA si_15_25 sq_r_15 rfl rfl
set_option maxRecDepth 20000 in
theorem xc_pwT1 (X : sp_X) (g : sp_G) {r : Nat} {i : Int32} (hr : r < 4) (hz : g.1 16 r = -1) : sp_Ct X 1 15 [.ref 10, .int (nI r), .int i] g (sp_Fi (nI 1) g) := by
  refine sp_walkN (n := 3) sq_p_15 sq_l_15 (Nat.le_of_ble_eq_true rfl) (fun a hA => ?_)
  show sp_Ev X a 15 0 [.ref 10, .int (nI r), .int i] [] g
  refine sr_aload_n hA si_15_0 rfl ?_
  refine sr_iload_n hA si_15_1 rfl ?_
  refine sr_VFi (c := 10) (ci := 5) (as := [.int (nI r)]) (st := []) hA si_15_2 sv_16 sk_15_99 (xc_thereT0 X g (by omega) hz) (by omega) rfl (by decide) (by decide) rfl sq_c_16 rfl (Nat.le_of_ble_eq_true rfl) ?_
  refine sr_if_neN (tgt := 10) hA si_15_5 (by decide) (by omega) (fun c1 => absurd c1 (by omega)) (fun c1 => ?_)
  refine sr_iconst (v := nI 1) hA si_15_8 (by decide) ?_
  exact sr_iretF hA si_15_9 sq_r_15 rfl rfl
set_option maxRecDepth 20000 in
theorem xc_pwTM (X : sp_X) (g : sp_G) {r z : Nat} {i : Int32} (hr : r < 4) (hz : g.1 16 r = nI z) (hzb : z ≤ 60) (hi : i < 0) : sp_Ct X 1 15 [.ref 10, .int (nI r), .int i] g (sp_Fi (nI 2) g) := by
  refine sp_walkN (n := 3) sq_p_15 sq_l_15 (Nat.le_of_ble_eq_true rfl) (fun a hA => ?_)
  show sp_Ev X a 15 0 [.ref 10, .int (nI r), .int i] [] g
  refine sr_aload_n hA si_15_0 rfl ?_
  refine sr_iload_n hA si_15_1 rfl ?_
  refine sr_VFi (c := 10) (ci := 5) (as := [.int (nI r)]) (st := []) hA si_15_2 sv_16 sk_15_99 (xc_thereT1 X g (by omega) hz (by omega)) (by omega) rfl (by decide) (by decide) rfl sq_c_16 rfl (Nat.le_of_ble_eq_true rfl) ?_
  refine sr_if_neN (tgt := 10) hA si_15_5 (by decide) (by omega) (fun c1 => ?_) (fun c1 => absurd c1 (by omega))
  refine sr_aload_n hA si_15_10 rfl ?_
  refine sr_iload_n hA si_15_11 rfl ?_
  refine sr_iload_n hA si_15_12 rfl ?_
  refine sr_iconst (v := nI 1) hA si_15_13 (by decide) ?_
  refine sr_VFi (c := 10) (ci := 5) (as := [.int (nI r), .int i, .int (nI 1)]) (st := []) hA si_15_14 sv_17 sk_15_106 (xc_spanTM X g hi) (by omega) rfl (by decide) (by decide) rfl sq_c_17 rfl (Nat.le_of_ble_eq_true rfl) ?_
  refine sr_if_eqN (tgt := 24) hA si_15_17 (by decide) (by omega) (fun c2 => ?_) (fun c2 => absurd c2 (by omega))
  refine sr_iconst (v := nI 2) hA si_15_24 (by decide) ?_
  exact sr_iretF hA si_15_25 sq_r_15 rfl rfl
set_option maxRecDepth 20000 in
theorem xc_pwT2 (X : sp_X) (g : sp_G) {r z i : Nat} (hr : r < 4) (hz : g.1 16 r = nI z) (hzb : z ≤ 60) (hi : z ≤ i) (hib : i < 2 ^ 31) : sp_Ct X 1 15 [.ref 10, .int (nI r), .int (nI i)] g (sp_Fi (nI 2) g) := by
  refine sp_walkN (n := 3) sq_p_15 sq_l_15 (Nat.le_of_ble_eq_true rfl) (fun a hA => ?_)
  show sp_Ev X a 15 0 [.ref 10, .int (nI r), .int (nI i)] [] g
  refine sr_aload_n hA si_15_0 rfl ?_
  refine sr_iload_n hA si_15_1 rfl ?_
  refine sr_VFi (c := 10) (ci := 5) (as := [.int (nI r)]) (st := []) hA si_15_2 sv_16 sk_15_99 (xc_thereT1 X g (by omega) hz (by omega)) (by omega) rfl (by decide) (by decide) rfl sq_c_16 rfl (Nat.le_of_ble_eq_true rfl) ?_
  refine sr_if_neN (tgt := 10) hA si_15_5 (by decide) (by omega) (fun c1 => ?_) (fun c1 => absurd c1 (by omega))
  refine sr_aload_n hA si_15_10 rfl ?_
  refine sr_iload_n hA si_15_11 rfl ?_
  refine sr_iload_n hA si_15_12 rfl ?_
  refine sr_iconst (v := nI 1) hA si_15_13 (by decide) ?_
  refine sr_VFi (c := 10) (ci := 5) (as := [.int (nI r), .int (nI i), .int (nI 1)]) (st := []) hA si_15_14 sv_17 sk_15_106 (xc_spanT0 X g (by omega) hz (by omega) (by omega) (by omega) (by omega)) (by omega) rfl (by decide) (by decide) rfl sq_c_17 rfl (Nat.le_of_ble_eq_true rfl) ?_
  refine sr_if_eqN (tgt := 24) hA si_15_17 (by decide) (by omega) (fun c2 => ?_) (fun c2 => absurd c2 (by omega))
  refine sr_iconst (v := nI 2) hA si_15_24 (by decide) ?_
  exact sr_iretF hA si_15_25 sq_r_15 rfl rfl
set_option maxRecDepth 20000 in
theorem xc_pwT0 (X : sp_X) (g : sp_G) {r z i : Nat} (hr : r < 4) (hz : g.1 16 r = nI z) (hzb : z ≤ 60) (hi : i < z) : sp_Ct X 1 15 [.ref 10, .int (nI r), .int (nI i)] g (sp_Fi (nI 0) g) := by
  refine sp_walkN (n := 3) sq_p_15 sq_l_15 (Nat.le_of_ble_eq_true rfl) (fun a hA => ?_)
  show sp_Ev X a 15 0 [.ref 10, .int (nI r), .int (nI i)] [] g
  refine sr_aload_n hA si_15_0 rfl ?_
  refine sr_iload_n hA si_15_1 rfl ?_
  refine sr_VFi (c := 10) (ci := 5) (as := [.int (nI r)]) (st := []) hA si_15_2 sv_16 sk_15_99 (xc_thereT1 X g (by omega) hz (by omega)) (by omega) rfl (by decide) (by decide) rfl sq_c_16 rfl (Nat.le_of_ble_eq_true rfl) ?_
  refine sr_if_neN (tgt := 10) hA si_15_5 (by decide) (by omega) (fun c1 => ?_) (fun c1 => absurd c1 (by omega))
  refine sr_aload_n hA si_15_10 rfl ?_
  refine sr_iload_n hA si_15_11 rfl ?_
  refine sr_iload_n hA si_15_12 rfl ?_
  refine sr_iconst (v := nI 1) hA si_15_13 (by decide) ?_
  refine sr_VFi (c := 10) (ci := 5) (as := [.int (nI r), .int (nI i), .int (nI 1)]) (st := []) hA si_15_14 sv_17 sk_15_106 (xc_spanT1 X g (by omega) hz (by omega) (by omega)) (by omega) rfl (by decide) (by decide) rfl sq_c_17 rfl (Nat.le_of_ble_eq_true rfl) ?_
  refine sr_if_eqN (tgt := 24) hA si_15_17 (by decide) (by omega) (fun c2 => absurd c2 (by omega)) (fun c2 => ?_)
  refine sr_iconst (v := nI 0) hA si_15_20 (by decide) ?_
  refine sr_goto (tgt := 25) hA si_15_21 (by decide) ?_
  exact sr_iretF hA si_15_25 sq_r_15 rfl rfl
set_option maxRecDepth 20000 in
theorem xc_row_a (X : sp_X) (g : sp_G) {r : Int32} (hr : r < 0) (q : Int32) : sp_Ct X 9 10 [.ref 0, .int r, .int q] g (sp_Fi (-1) g) := by
  refine sp_walkN (n := 3) sq_p_10 sq_l_10 (Nat.le_of_ble_eq_true rfl) (fun a hA => ?_)
  show sp_Ev X a 10 0 [.ref 0, .int r, .int q] [] g
  refine sr_aload_n hA si_10_0 rfl ?_
  refine sr_getR (r := 1) hA si_10_1 sf_10_14 (by decide) (by decide) rfl rfl rfl ?_
  refine sr_iload_n hA si_10_4 rfl ?_
  refine sr_VFi (c := 1) (ci := 5) (as := [.int r]) (st := []) hA si_10_5 sv_11 sk_10_72 (xc_numRM X g hr) (by omega) rfl (by decide) (by decide) rfl sq_c_11 rfl (Nat.le_of_ble_eq_true rfl) ?_
  refine sr_if_eqN (tgt := 17) hA si_10_8 (by decide) (by omega) (fun c1 => ?_) (fun c1 => absurd c1 (by omega))
  refine sr_iconst (v := (-1)) hA si_10_17 (by decide) ?_
  exact sr_iretF hA si_10_18 sq_r_10 rfl rfl
set_option maxRecDepth 20000 in
theorem xc_row_b (X : sp_X) (g : sp_G) {r : Nat} (hr : 6 ≤ r) (hrb : r < 2 ^ 31) (q : Int32) : sp_Ct X 9 10 [.ref 0, .int (nI r), .int q] g (sp_Fi (-1) g) := by
  refine sp_walkN (n := 3) sq_p_10 sq_l_10 (Nat.le_of_ble_eq_true rfl) (fun a hA => ?_)
  show sp_Ev X a 10 0 [.ref 0, .int (nI r), .int q] [] g
  refine sr_aload_n hA si_10_0 rfl ?_
  refine sr_getR (r := 1) hA si_10_1 sf_10_14 (by decide) (by decide) rfl rfl rfl ?_
  refine sr_iload_n hA si_10_4 rfl ?_
  refine sr_VFi (c := 1) (ci := 5) (as := [.int (nI r)]) (st := []) hA si_10_5 sv_11 sk_10_72 (xc_numRH X g (by omega) (by omega)) (by omega) rfl (by decide) (by decide) rfl sq_c_11 rfl (Nat.le_of_ble_eq_true rfl) ?_
  refine sr_if_eqN (tgt := 17) hA si_10_8 (by decide) (by omega) (fun c1 => ?_) (fun c1 => absurd c1 (by omega))
  refine sr_iconst (v := (-1)) hA si_10_17 (by decide) ?_
  exact sr_iretF hA si_10_18 sq_r_10 rfl rfl
set_option maxRecDepth 20000 in
theorem xc_row_c (X : sp_X) (g : sp_G) {r : Nat} (hr : r < 6) {q : Nat} (hq : 41 ≤ q) (hqb : q < 2 ^ 31) : sp_Ct X 9 10 [.ref 0, .int (nI r), .int (nI q)] g (sp_Fi (-1) g) := by
  refine sp_walkN (n := 3) sq_p_10 sq_l_10 (Nat.le_of_ble_eq_true rfl) (fun a hA => ?_)
  show sp_Ev X a 10 0 [.ref 0, .int (nI r), .int (nI q)] [] g
  refine sr_aload_n hA si_10_0 rfl ?_
  refine sr_getR (r := 1) hA si_10_1 sf_10_14 (by decide) (by decide) rfl rfl rfl ?_
  refine sr_iload_n hA si_10_4 rfl ?_
  refine sr_VFi (c := 1) (ci := 5) (as := [.int (nI r)]) (st := []) hA si_10_5 sv_11 sk_10_72 (xc_numR1 X g (by omega)) (by omega) rfl (by decide) (by decide) rfl sq_c_11 rfl (Nat.le_of_ble_eq_true rfl) ?_
  refine sr_if_eqN (tgt := 17) hA si_10_8 (by decide) (by omega) (fun c1 => absurd c1 (by omega)) (fun c1 => ?_)
  refine sr_iload_n hA si_10_11 rfl ?_
  refine sr_bipush (v := nI 40) hA si_10_12 (by decide) ?_
  refine sr_icmp_leN (tgt := 19) hA si_10_14 (by decide) (by omega) (by omega) (fun c2 => absurd c2 (by omega)) (fun c2 => ?_)
  refine sr_iconst (v := (-1)) hA si_10_17 (by decide) ?_
  exact sr_iretF hA si_10_18 sq_r_10 rfl rfl
set_option maxRecDepth 20000 in
theorem xc_row_d (X : sp_X) (g : sp_G) {r : Nat} (hr : r < 6) {q : Int32} (hq : q < 0) : sp_Ct X 9 10 [.ref 0, .int (nI r), .int q] g (sp_Fi (-3) (sp_rx g 5)) := by
  refine sp_walkN (n := 3) sq_p_10 sq_l_10 (Nat.le_of_ble_eq_true rfl) (fun a hA => ?_)
  show sp_Ev X a 10 0 [.ref 0, .int (nI r), .int q] [] g
  refine sr_aload_n hA si_10_0 rfl ?_
  refine sr_getR (r := 1) hA si_10_1 sf_10_14 (by decide) (by decide) rfl rfl rfl ?_
  refine sr_iload_n hA si_10_4 rfl ?_
  refine sr_VFi (c := 1) (ci := 5) (as := [.int (nI r)]) (st := []) hA si_10_5 sv_11 sk_10_72 (xc_numR1 X g (by omega)) (by omega) rfl (by decide) (by decide) rfl sq_c_11 rfl (Nat.le_of_ble_eq_true rfl) ?_
  refine sr_if_eqN (tgt := 17) hA si_10_8 (by decide) (by omega) (fun c1 => absurd c1 (by omega)) (fun c1 => ?_)
  refine sr_iload_n hA si_10_11 rfl ?_
  refine sr_bipush (v := nI 40) hA si_10_12 (by decide) ?_
  refine sr_icmp_le (tgt := 19) hA si_10_14 (by decide) (fun c2 => ?_) (fun c2 => absurd (sp_n2 hq (by omega)) c2)
  refine sr_iload_n hA si_10_19 rfl ?_
  refine sr_if_ge (tgt := 29) hA si_10_20 (by decide) (fun c3 => absurd c3 (sp_m4 hq)) (fun c3 => ?_)
  refine sr_aload_n hA si_10_23 rfl ?_
  refine sr_iconst (v := nI 5) hA si_10_24 (by decide) ?_
  refine sr_VFi (c := 0) (ci := 7) (as := [.int (nI 5)]) (st := []) hA si_10_25 sv_12 sk_10_76 (xc_refuse X g (by omega)) (by omega) rfl (by decide) (by decide) rfl sq_c_12 rfl (Nat.le_of_ble_eq_true rfl) ?_
  exact sr_iretF hA si_10_28 sq_r_10 rfl rfl
set_option maxRecDepth 20000 in
theorem mc_row_a (X : sp_X) (g : sp_G) {r : Int32} (hr : r < 0) (q : Int32) : sp_Ct X 9 139 [.ref 64, .int r, .int q] g (sp_Fi (-1) g) := by
  refine sp_walkN (n := 4) sq_p_139 sq_l_139 (Nat.le_of_ble_eq_true rfl) (fun a hA => ?_)
  show sp_Ev X a 139 0 [.ref 64, .int r, .int q, .null] [] g
  refine sr_iload_n hA si_139_0 rfl ?_
  refine sr_SFi (as := [.int r]) (st := []) hA si_139_1 ss_140 sk_139_93 (mc_isRowM X g hr) (by omega) rfl rfl (Nat.le_of_ble_eq_true rfl) ?_
  refine sr_if_eqN (tgt := 13) hA si_139_4 (by decide) (by omega) (fun c1 => ?_) (fun c1 => absurd c1 (by omega))
  refine sr_iconst (v := (-1)) hA si_139_13 (by decide) ?_
  exact sr_iretF hA si_139_14 sq_r_139 rfl rfl
set_option maxRecDepth 20000 in
theorem mc_row_b (X : sp_X) (g : sp_G) {r : Nat} (hr : 6 ≤ r) (hrb : r < 2 ^ 31) (q : Int32) : sp_Ct X 9 139 [.ref 64, .int (nI r), .int q] g (sp_Fi (-1) g) := by
  refine sp_walkN (n := 4) sq_p_139 sq_l_139 (Nat.le_of_ble_eq_true rfl) (fun a hA => ?_)
  show sp_Ev X a 139 0 [.ref 64, .int (nI r), .int q, .null] [] g
  refine sr_iload_n hA si_139_0 rfl ?_
  refine sr_SFi (as := [.int (nI r)]) (st := []) hA si_139_1 ss_140 sk_139_93 (mc_isRowH X g (by omega) (by omega)) (by omega) rfl rfl (Nat.le_of_ble_eq_true rfl) ?_
  refine sr_if_eqN (tgt := 13) hA si_139_4 (by decide) (by omega) (fun c1 => ?_) (fun c1 => absurd c1 (by omega))
  refine sr_iconst (v := (-1)) hA si_139_13 (by decide) ?_
  exact sr_iretF hA si_139_14 sq_r_139 rfl rfl
set_option maxRecDepth 20000 in
theorem mc_row_c (X : sp_X) (g : sp_G) {r : Nat} (hr : r < 6) {q : Nat} (hq : 41 ≤ q) (hqb : q < 2 ^ 31) : sp_Ct X 9 139 [.ref 64, .int (nI r), .int (nI q)] g (sp_Fi (-1) g) := by
  refine sp_walkN (n := 4) sq_p_139 sq_l_139 (Nat.le_of_ble_eq_true rfl) (fun a hA => ?_)
  show sp_Ev X a 139 0 [.ref 64, .int (nI r), .int (nI q), .null] [] g
  refine sr_iload_n hA si_139_0 rfl ?_
  refine sr_SFi (as := [.int (nI r)]) (st := []) hA si_139_1 ss_140 sk_139_93 (mc_isRow1 X g (by omega)) (by omega) rfl rfl (Nat.le_of_ble_eq_true rfl) ?_
  refine sr_if_eqN (tgt := 13) hA si_139_4 (by decide) (by omega) (fun c1 => absurd c1 (by omega)) (fun c1 => ?_)
  refine sr_iload_n hA si_139_7 rfl ?_
  refine sr_bipush (v := nI 40) hA si_139_8 (by decide) ?_
  refine sr_icmp_leN (tgt := 15) hA si_139_10 (by decide) (by omega) (by omega) (fun c2 => absurd c2 (by omega)) (fun c2 => ?_)
  refine sr_iconst (v := (-1)) hA si_139_13 (by decide) ?_
  exact sr_iretF hA si_139_14 sq_r_139 rfl rfl
set_option maxRecDepth 20000 in
theorem mc_row_d (X : sp_X) (g : sp_G) {r : Nat} (hr : r < 6) {q : Int32} (hq : q < 0) : sp_Ct X 9 139 [.ref 64, .int (nI r), .int q] g (sp_Fi (-3) (sp_rm6 g 5)) := by
  refine sp_walkN (n := 4) sq_p_139 sq_l_139 (Nat.le_of_ble_eq_true rfl) (fun a hA => ?_)
  show sp_Ev X a 139 0 [.ref 64, .int (nI r), .int q, .null] [] g
  refine sr_iload_n hA si_139_0 rfl ?_
  refine sr_SFi (as := [.int (nI r)]) (st := []) hA si_139_1 ss_140 sk_139_93 (mc_isRow1 X g (by omega)) (by omega) rfl rfl (Nat.le_of_ble_eq_true rfl) ?_
  refine sr_if_eqN (tgt := 13) hA si_139_4 (by decide) (by omega) (fun c1 => absurd c1 (by omega)) (fun c1 => ?_)
  refine sr_iload_n hA si_139_7 rfl ?_
  refine sr_bipush (v := nI 40) hA si_139_8 (by decide) ?_
  refine sr_icmp_le (tgt := 15) hA si_139_10 (by decide) (fun c2 => ?_) (fun c2 => absurd (sp_n2 hq (by omega)) c2)
  refine sr_iload_n hA si_139_15 rfl ?_
  refine sr_if_ge (tgt := 25) hA si_139_16 (by decide) (fun c3 => absurd c3 (sp_m4 hq)) (fun c3 => ?_)
  refine sr_aload_n hA si_139_19 rfl ?_
  refine sr_iconst (v := nI 5) hA si_139_20 (by decide) ?_
  refine sr_VFi (c := 64) (ci := 8) (as := [.int (nI 5)]) (st := []) hA si_139_21 sv_141 sk_139_97 (mc_meets X g (by omega)) (by omega) rfl (by decide) (by decide) rfl sq_c_141 rfl (Nat.le_of_ble_eq_true rfl) ?_
  exact sr_iretF hA si_139_24 sq_r_139 rfl rfl
set_option maxRecDepth 20000 in
theorem xc_row_e (X : sp_X) (g : sp_G) {r : Nat} (hr : r < 6) {q : Nat} (hq : q < 41) : sp_Ct X 9 10 [.ref 0, .int (nI r), .int (nI q)] g (sp_Fi (nI q) (sp_fill (sp_wI g 9 r (nI q)) (3 + r) 40 (nI 0))) := by
  refine sp_walkN (n := 3) sq_p_10 sq_l_10 (Nat.le_of_ble_eq_true rfl) (fun a hA => ?_)
  show sp_Ev X a 10 0 [.ref 0, .int (nI r), .int (nI q)] [] g
  refine sr_aload_n hA si_10_0 rfl ?_
  refine sr_getR (r := 1) hA si_10_1 sf_10_14 (by decide) (by decide) rfl rfl rfl ?_
  refine sr_iload_n hA si_10_4 rfl ?_
  refine sr_VFi (c := 1) (ci := 5) (as := [.int (nI r)]) (st := []) hA si_10_5 sv_11 sk_10_72 (xc_numR1 X g (by omega)) (by omega) rfl (by decide) (by decide) rfl sq_c_11 rfl (Nat.le_of_ble_eq_true rfl) ?_
  refine sr_if_eqN (tgt := 17) hA si_10_8 (by decide) (by omega) (fun c1 => absurd c1 (by omega)) (fun c1 => ?_)
  refine sr_iload_n hA si_10_11 rfl ?_
  refine sr_bipush (v := nI 40) hA si_10_12 (by decide) ?_
  refine sr_icmp_leN (tgt := 19) hA si_10_14 (by decide) (by omega) (by omega) (fun c2 => ?_) (fun c2 => absurd c2 (by omega))
  refine sr_iload_n hA si_10_19 rfl ?_
  refine sr_if_geN (tgt := 29) hA si_10_20 (by decide) (by omega) ?_
  refine sr_aload_n hA si_10_29 rfl ?_
  refine sr_getR (r := 1) hA si_10_30 sf_10_14 (by decide) (by decide) rfl rfl rfl ?_
  refine sr_iload_n hA si_10_33 rfl ?_
  refine sr_iload_n hA si_10_34 rfl ?_
  refine sr_iconst (v := nI 0) hA si_10_35 (by decide) ?_
  refine sr_VFv (c := 1) (ci := 5) (as := [.int (nI r), .int (nI q), .int (nI 0)]) (st := []) hA si_10_36 sv_13 sk_10_80 (xc_makeR X g (by omega) (nI q) (nI 0)) (by omega) rfl (by decide) (by decide) rfl sq_c_13 rfl (Nat.le_of_ble_eq_true rfl) ?_
  refine sr_iload_n hA si_10_39 rfl ?_
  exact sr_iretF hA si_10_40 sq_r_10 rfl rfl
/-- what row lays in the reference: n places from p on are 0 -/
def sp_z67 (g : sp_G) (p n : Nat) : sp_G := sp_wA g 67 (fun j => if p ≤ j ∧ j < p + n then 0 else g.1 67 j)
theorem sp_z67_0 (g : sp_G) (p : Nat) : sp_z67 g p 0 = g := by
  refine Prod.ext (funext fun c' => funext fun j => ?_) rfl
  show (if c' = 67 then (fun j => if p ≤ j ∧ j < p + 0 then 0 else g.1 67 j) else g.1 c') j = _
  by_cases h : c' = 67
  · subst h
    rw [if_pos rfl]
    show (if p ≤ j ∧ j < p + 0 then (0 : Int32) else g.1 67 j) = _
    rw [if_neg (by omega)]
  · rw [if_neg h]
theorem sp_z67_S (g : sp_G) (p k : Nat) : sp_wI (sp_z67 g p k) 67 (p + k) (nI 0) = sp_z67 g p (k + 1) := by
  refine Prod.ext (funext fun c' => funext fun j => ?_) rfl
  show (if c' = 67 ∧ j = p + k then nI 0 else (if c' = 67 then (fun j => if p ≤ j ∧ j < p + k then 0 else g.1 67 j) else g.1 c') j) = (if c' = 67 then (fun j => if p ≤ j ∧ j < p + (k + 1) then 0 else g.1 67 j) else g.1 c') j
  by_cases h : c' = 67
  · subst h
    rw [if_pos rfl, if_pos rfl]
    by_cases hj : j = p + k
    · rw [if_pos ⟨rfl, hj⟩]
      show (0 : Int32) = if p ≤ j ∧ j < p + (k + 1) then 0 else g.1 67 j
      rw [if_pos (by omega)]
    · rw [if_neg (fun q => hj q.2)]
      show (if p ≤ j ∧ j < p + k then (0 : Int32) else g.1 67 j) = if p ≤ j ∧ j < p + (k + 1) then 0 else g.1 67 j
      by_cases h2 : p ≤ j ∧ j < p + k
      · rw [if_pos h2, if_pos (by omega)]
      · rw [if_neg h2, if_neg (by omega)]
  · rw [if_neg (fun q => h q.1), if_neg h, if_neg h]
set_option maxRecDepth 20000 in
theorem ml_row {X : sp_X} {d : Nat} {a : sp_Ac} {g : sp_G} {r q : Nat} (hr : r < 6) (hA : sp_Act X 139 d (sp_Fi (nI q) (sp_z67 g (40 * r) 40)) a) : ∀ (m : Nat) (i : Nat), i + m = 40 → sp_Ev X a 139 34 [.ref 64, .int (nI r), .int (nI q), .int (nI i)] [] (sp_z67 g (40 * r) i) := by
  intro m
  induction m with
  | zero =>
    intro i h0_
    refine sr_iload_n hA si_139_34 rfl ?_
    refine sr_bipush (v := nI 40) hA si_139_35 (by decide) ?_
    refine sr_icmp_geN (tgt := 58) hA si_139_37 (by decide) (by omega) (by omega) (fun c1 => ?_) (fun c1 => absurd c1 (by omega))
    refine sr_iload_n hA si_139_58 rfl ?_
    exact sr_iretF hA si_139_59 sq_r_139 rfl (by rw [show i = 40 by omega])
  | succ m ih =>
    intro i h0_
    refine sr_iload_n hA si_139_34 rfl ?_
    refine sr_bipush (v := nI 40) hA si_139_35 (by decide) ?_
    refine sr_icmp_geN (tgt := 58) hA si_139_37 (by decide) (by omega) (by omega) (fun c1 => absurd c1 (by omega)) (fun c1 => ?_)
    refine sr_aload_n hA si_139_40 rfl ?_
    refine sr_getR (r := 67) hA si_139_41 sf_139_20 (by decide) (by decide) rfl rfl rfl ?_
    refine sr_bipush (v := nI 40) hA si_139_44 (by decide) ?_
    refine sr_iload_n hA si_139_46 rfl ?_
    refine sr_imulN hA si_139_47 ?_
    refine sr_iload_n hA si_139_48 rfl ?_
    refine sr_iaddN hA si_139_49 ?_
    refine sr_iconst (v := nI 0) hA si_139_50 (by decide) ?_
    refine sr_iastN (n := 240) hA si_139_51 (by decide) rfl rfl (by omega) (by decide) ?_
    refine sr_iincN (x := i) (y := 1) (ls1 := [.ref 64, .int (nI r), .int (nI q), .int (nI (i + 1))]) hA si_139_52 rfl rfl (by rw [sq_l_139]; decide) rfl ?_
    refine sr_goto (tgt := 34) hA si_139_55 (by decide) ?_
    rw [sp_z67_S]
    exact ih (i + 1) (by omega)
set_option maxRecDepth 20000 in
theorem mc_row_e (X : sp_X) (g : sp_G) {r : Nat} (hr : r < 6) {q : Nat} (hq : q < 41) : sp_Ct X 9 139 [.ref 64, .int (nI r), .int (nI q)] g (sp_Fi (nI q) (sp_z67 (sp_wI g 66 r (nI q)) (40 * r) 40)) := by
  refine sp_walkN (n := 4) sq_p_139 sq_l_139 (Nat.le_of_ble_eq_true rfl) (fun a hA => ?_)
  show sp_Ev X a 139 0 [.ref 64, .int (nI r), .int (nI q), .null] [] g
  refine sr_iload_n hA si_139_0 rfl ?_
  refine sr_SFi (as := [.int (nI r)]) (st := []) hA si_139_1 ss_140 sk_139_93 (mc_isRow1 X g (by omega)) (by omega) rfl rfl (Nat.le_of_ble_eq_true rfl) ?_
  refine sr_if_eqN (tgt := 13) hA si_139_4 (by decide) (by omega) (fun c1 => absurd c1 (by omega)) (fun c1 => ?_)
  refine sr_iload_n hA si_139_7 rfl ?_
  refine sr_bipush (v := nI 40) hA si_139_8 (by decide) ?_
  refine sr_icmp_leN (tgt := 15) hA si_139_10 (by decide) (by omega) (by omega) (fun c2 => ?_) (fun c2 => absurd c2 (by omega))
  refine sr_iload_n hA si_139_15 rfl ?_
  refine sr_if_geN (tgt := 25) hA si_139_16 (by decide) (by omega) ?_
  refine sr_aload_n hA si_139_25 rfl ?_
  refine sr_getR (r := 66) hA si_139_26 sf_139_17 (by decide) (by decide) rfl rfl rfl ?_
  refine sr_iload_n hA si_139_29 rfl ?_
  refine sr_iload_n hA si_139_30 rfl ?_
  refine sr_iastN (n := 6) hA si_139_31 (by decide) rfl rfl (by omega) (by decide) ?_
  refine sr_iconst (v := nI 0) hA si_139_32 (by decide) ?_
  refine sr_istore_n (ls1 := [.ref 64, .int (nI r), .int (nI q), .int (nI 0)]) hA si_139_33 rfl (by rw [sq_l_139]; decide) rfl ?_
  have h0 := ml_row (g := sp_wI g 66 r (nI q)) (q := q) hr hA 40 0 (by omega)
  rw [sp_z67_0] at h0
  exact h0
set_option maxRecDepth 20000 in
theorem xc_lay_a (X : sp_X) (g : sp_G) {r : Int32} (hr : r < 0) (i : Int32) (v : Int32) : sp_Ct X 9 14 [.ref 0, .int r, .int i, .int v] g (sp_Fi (-1) g) := by
  refine sp_walkN (n := 5) sq_p_14 sq_l_14 (Nat.le_of_ble_eq_true rfl) (fun a hA => ?_)
  show sp_Ev X a 14 0 [.ref 0, .int r, .int i, .int v, .null] [] g
  refine sr_aload_n hA si_14_0 rfl ?_
  refine sr_getR (r := 1) hA si_14_1 sf_14_14 (by decide) (by decide) rfl rfl rfl ?_
  refine sr_iload_n hA si_14_4 rfl ?_
  refine sr_VFi (c := 1) (ci := 5) (as := [.int r]) (st := []) hA si_14_5 sv_11 sk_14_72 (xc_numRM X g hr) (by omega) rfl (by decide) (by decide) rfl sq_c_11 rfl (Nat.le_of_ble_eq_true rfl) ?_
  refine sr_if_neN (tgt := 13) hA si_14_8 (by decide) (by omega) (fun c1 => absurd c1 (by omega)) (fun c1 => ?_)
  refine sr_iconst (v := (-1)) hA si_14_11 (by decide) ?_
  exact sr_iretF hA si_14_12 sq_r_14 rfl rfl
set_option maxRecDepth 20000 in
theorem xc_lay_b (X : sp_X) (g : sp_G) {r : Nat} (hr : 6 ≤ r) (hrb : r < 2 ^ 31) (i : Int32) (v : Int32) : sp_Ct X 9 14 [.ref 0, .int (nI r), .int i, .int v] g (sp_Fi (-1) g) := by
  refine sp_walkN (n := 5) sq_p_14 sq_l_14 (Nat.le_of_ble_eq_true rfl) (fun a hA => ?_)
  show sp_Ev X a 14 0 [.ref 0, .int (nI r), .int i, .int v, .null] [] g
  refine sr_aload_n hA si_14_0 rfl ?_
  refine sr_getR (r := 1) hA si_14_1 sf_14_14 (by decide) (by decide) rfl rfl rfl ?_
  refine sr_iload_n hA si_14_4 rfl ?_
  refine sr_VFi (c := 1) (ci := 5) (as := [.int (nI r)]) (st := []) hA si_14_5 sv_11 sk_14_72 (xc_numRH X g (by omega) (by omega)) (by omega) rfl (by decide) (by decide) rfl sq_c_11 rfl (Nat.le_of_ble_eq_true rfl) ?_
  refine sr_if_neN (tgt := 13) hA si_14_8 (by decide) (by omega) (fun c1 => absurd c1 (by omega)) (fun c1 => ?_)
  refine sr_iconst (v := (-1)) hA si_14_11 (by decide) ?_
  exact sr_iretF hA si_14_12 sq_r_14 rfl rfl
set_option maxRecDepth 20000 in
theorem xc_lay_c (X : sp_X) (g : sp_G) {r : Nat} (hr : r < 6) (i : Int32) (v : Int32) (hz : g.1 9 r = -1) : sp_Ct X 9 14 [.ref 0, .int (nI r), .int i, .int v] g (sp_Fi (-3) (sp_rx g 1)) := by
  refine sp_walkN (n := 5) sq_p_14 sq_l_14 (Nat.le_of_ble_eq_true rfl) (fun a hA => ?_)
  show sp_Ev X a 14 0 [.ref 0, .int (nI r), .int i, .int v, .null] [] g
  refine sr_aload_n hA si_14_0 rfl ?_
  refine sr_getR (r := 1) hA si_14_1 sf_14_14 (by decide) (by decide) rfl rfl rfl ?_
  refine sr_iload_n hA si_14_4 rfl ?_
  refine sr_VFi (c := 1) (ci := 5) (as := [.int (nI r)]) (st := []) hA si_14_5 sv_11 sk_14_72 (xc_numR1 X g (by omega)) (by omega) rfl (by decide) (by decide) rfl sq_c_11 rfl (Nat.le_of_ble_eq_true rfl) ?_
  refine sr_if_neN (tgt := 13) hA si_14_8 (by decide) (by omega) (fun c1 => ?_) (fun c1 => absurd c1 (by omega))
  refine sr_aload_n hA si_14_13 rfl ?_
  refine sr_getR (r := 1) hA si_14_14 sf_14_14 (by decide) (by decide) rfl rfl rfl ?_
  refine sr_iload_n hA si_14_17 rfl ?_
  refine sr_iload_n hA si_14_18 rfl ?_
  refine sr_SFi (as := [.ref 1, .int (nI r), .int i]) (st := []) hA si_14_19 ss_15 sk_14_84 (xc_pwR1 X g (by omega) hz) (by omega) rfl rfl (Nat.le_of_ble_eq_true rfl) ?_
  refine sr_istore (ls1 := [.ref 0, .int (nI r), .int i, .int v, .int (nI 1)]) hA si_14_22 (by rw [sq_l_14]; decide) rfl ?_
  refine sr_iload hA si_14_24 rfl ?_
  refine sr_if_eqN (tgt := 36) hA si_14_26 (by decide) (by omega) (fun c2 => absurd c2 (by omega)) (fun c2 => ?_)
  refine sr_aload_n hA si_14_29 rfl ?_
  refine sr_iload hA si_14_30 rfl ?_
  refine sr_VFi (c := 0) (ci := 7) (as := [.int (nI 1)]) (st := []) hA si_14_32 sv_12 sk_14_76 (xc_refuse X g (by omega)) (by omega) rfl (by decide) (by decide) rfl sq_c_12 rfl (Nat.le_of_ble_eq_true rfl) ?_
  exact sr_iretF hA si_14_35 sq_r_14 rfl rfl
set_option maxRecDepth 20000 in
theorem xc_lay_d (X : sp_X) (g : sp_G) {r : Nat} (hr : r < 6) {i : Int32} (hi : i < 0) (v : Int32) {z : Nat} (hz : g.1 9 r = nI z) (hzb : z ≤ 40) : sp_Ct X 9 14 [.ref 0, .int (nI r), .int i, .int v] g (sp_Fi (-3) (sp_rx g 2)) := by
  refine sp_walkN (n := 5) sq_p_14 sq_l_14 (Nat.le_of_ble_eq_true rfl) (fun a hA => ?_)
  show sp_Ev X a 14 0 [.ref 0, .int (nI r), .int i, .int v, .null] [] g
  refine sr_aload_n hA si_14_0 rfl ?_
  refine sr_getR (r := 1) hA si_14_1 sf_14_14 (by decide) (by decide) rfl rfl rfl ?_
  refine sr_iload_n hA si_14_4 rfl ?_
  refine sr_VFi (c := 1) (ci := 5) (as := [.int (nI r)]) (st := []) hA si_14_5 sv_11 sk_14_72 (xc_numR1 X g (by omega)) (by omega) rfl (by decide) (by decide) rfl sq_c_11 rfl (Nat.le_of_ble_eq_true rfl) ?_
  refine sr_if_neN (tgt := 13) hA si_14_8 (by decide) (by omega) (fun c1 => ?_) (fun c1 => absurd c1 (by omega))
  refine sr_aload_n hA si_14_13 rfl ?_
  refine sr_getR (r := 1) hA si_14_14 sf_14_14 (by decide) (by decide) rfl rfl rfl ?_
  refine sr_iload_n hA si_14_17 rfl ?_
  refine sr_iload_n hA si_14_18 rfl ?_
  refine sr_SFi (as := [.ref 1, .int (nI r), .int i]) (st := []) hA si_14_19 ss_15 sk_14_84 (xc_pwRM X g (by omega) hz (by omega) hi) (by omega) rfl rfl (Nat.le_of_ble_eq_true rfl) ?_
  refine sr_istore (ls1 := [.ref 0, .int (nI r), .int i, .int v, .int (nI 2)]) hA si_14_22 (by rw [sq_l_14]; decide) rfl ?_
  refine sr_iload hA si_14_24 rfl ?_
  refine sr_if_eqN (tgt := 36) hA si_14_26 (by decide) (by omega) (fun c2 => absurd c2 (by omega)) (fun c2 => ?_)
  refine sr_aload_n hA si_14_29 rfl ?_
  refine sr_iload hA si_14_30 rfl ?_
  refine sr_VFi (c := 0) (ci := 7) (as := [.int (nI 2)]) (st := []) hA si_14_32 sv_12 sk_14_76 (xc_refuse X g (by omega)) (by omega) rfl (by decide) (by decide) rfl sq_c_12 rfl (Nat.le_of_ble_eq_true rfl) ?_
  exact sr_iretF hA si_14_35 sq_r_14 rfl rfl
set_option maxRecDepth 20000 in
theorem xc_lay_e (X : sp_X) (g : sp_G) {r : Nat} (hr : r < 6) {i : Nat} (hib : i < 2 ^ 31) (v : Int32) {z : Nat} (hz : g.1 9 r = nI z) (hzb : z ≤ 40) (hi : z ≤ i) : sp_Ct X 9 14 [.ref 0, .int (nI r), .int (nI i), .int v] g (sp_Fi (-3) (sp_rx g 2)) := by
  refine sp_walkN (n := 5) sq_p_14 sq_l_14 (Nat.le_of_ble_eq_true rfl) (fun a hA => ?_)
  show sp_Ev X a 14 0 [.ref 0, .int (nI r), .int (nI i), .int v, .null] [] g
  refine sr_aload_n hA si_14_0 rfl ?_
  refine sr_getR (r := 1) hA si_14_1 sf_14_14 (by decide) (by decide) rfl rfl rfl ?_
  refine sr_iload_n hA si_14_4 rfl ?_
  refine sr_VFi (c := 1) (ci := 5) (as := [.int (nI r)]) (st := []) hA si_14_5 sv_11 sk_14_72 (xc_numR1 X g (by omega)) (by omega) rfl (by decide) (by decide) rfl sq_c_11 rfl (Nat.le_of_ble_eq_true rfl) ?_
  refine sr_if_neN (tgt := 13) hA si_14_8 (by decide) (by omega) (fun c1 => ?_) (fun c1 => absurd c1 (by omega))
  refine sr_aload_n hA si_14_13 rfl ?_
  refine sr_getR (r := 1) hA si_14_14 sf_14_14 (by decide) (by decide) rfl rfl rfl ?_
  refine sr_iload_n hA si_14_17 rfl ?_
  refine sr_iload_n hA si_14_18 rfl ?_
  refine sr_SFi (as := [.ref 1, .int (nI r), .int (nI i)]) (st := []) hA si_14_19 ss_15 sk_14_84 (xc_pwR2 X g (by omega) hz (by omega) (by omega) (by omega)) (by omega) rfl rfl (Nat.le_of_ble_eq_true rfl) ?_
  refine sr_istore (ls1 := [.ref 0, .int (nI r), .int (nI i), .int v, .int (nI 2)]) hA si_14_22 (by rw [sq_l_14]; decide) rfl ?_
  refine sr_iload hA si_14_24 rfl ?_
  refine sr_if_eqN (tgt := 36) hA si_14_26 (by decide) (by omega) (fun c2 => absurd c2 (by omega)) (fun c2 => ?_)
  refine sr_aload_n hA si_14_29 rfl ?_
  refine sr_iload hA si_14_30 rfl ?_
  refine sr_VFi (c := 0) (ci := 7) (as := [.int (nI 2)]) (st := []) hA si_14_32 sv_12 sk_14_76 (xc_refuse X g (by omega)) (by omega) rfl (by decide) (by decide) rfl sq_c_12 rfl (Nat.le_of_ble_eq_true rfl) ?_
  exact sr_iretF hA si_14_35 sq_r_14 rfl rfl
set_option maxRecDepth 20000 in
theorem xc_lay_f (X : sp_X) (g : sp_G) {r : Nat} (hr : r < 6) {i : Nat} (hib : i < 2 ^ 31) (v : Int32) {z : Nat} (hz : g.1 9 r = nI z) (hzb : z ≤ 40) (hi : i < z) : sp_Ct X 9 14 [.ref 0, .int (nI r), .int (nI i), .int v] g (sp_Fi (nI 1) (sp_wI (sp_wI g 0 12 (g.1 (3 + r) i)) (3 + r) i v)) := by
  refine sp_walkN (n := 5) sq_p_14 sq_l_14 (Nat.le_of_ble_eq_true rfl) (fun a hA => ?_)
  show sp_Ev X a 14 0 [.ref 0, .int (nI r), .int (nI i), .int v, .null] [] g
  refine sr_aload_n hA si_14_0 rfl ?_
  refine sr_getR (r := 1) hA si_14_1 sf_14_14 (by decide) (by decide) rfl rfl rfl ?_
  refine sr_iload_n hA si_14_4 rfl ?_
  refine sr_VFi (c := 1) (ci := 5) (as := [.int (nI r)]) (st := []) hA si_14_5 sv_11 sk_14_72 (xc_numR1 X g (by omega)) (by omega) rfl (by decide) (by decide) rfl sq_c_11 rfl (Nat.le_of_ble_eq_true rfl) ?_
  refine sr_if_neN (tgt := 13) hA si_14_8 (by decide) (by omega) (fun c1 => ?_) (fun c1 => absurd c1 (by omega))
  refine sr_aload_n hA si_14_13 rfl ?_
  refine sr_getR (r := 1) hA si_14_14 sf_14_14 (by decide) (by decide) rfl rfl rfl ?_
  refine sr_iload_n hA si_14_17 rfl ?_
  refine sr_iload_n hA si_14_18 rfl ?_
  refine sr_SFi (as := [.ref 1, .int (nI r), .int (nI i)]) (st := []) hA si_14_19 ss_15 sk_14_84 (xc_pwR0 X g (by omega) hz (by omega) (by omega)) (by omega) rfl rfl (Nat.le_of_ble_eq_true rfl) ?_
  refine sr_istore (ls1 := [.ref 0, .int (nI r), .int (nI i), .int v, .int (nI 0)]) hA si_14_22 (by rw [sq_l_14]; decide) rfl ?_
  refine sr_iload hA si_14_24 rfl ?_
  refine sr_if_eqN (tgt := 36) hA si_14_26 (by decide) (by omega) (fun c2 => ?_) (fun c2 => absurd c2 (by omega))
  refine sr_aload_n hA si_14_36 rfl ?_
  refine sr_aload_n hA si_14_37 rfl ?_
  refine sr_getR (r := 1) hA si_14_38 sf_14_14 (by decide) (by decide) rfl rfl rfl ?_
  refine sr_iload_n hA si_14_41 rfl ?_
  refine sr_iload_n hA si_14_42 rfl ?_
  refine sr_VFi (c := 1) (ci := 5) (as := [.int (nI r), .int (nI i)]) (st := [.ref 0]) hA si_14_43 sv_18 sk_14_88 (xc_getR X g (by omega) (by omega) rfl) (by omega) rfl (by decide) (by decide) rfl sq_c_18 rfl (Nat.le_of_ble_eq_true rfl) ?_
  refine sr_putI hA si_14_46 sf_14_92 rfl rfl (by decide) (by decide) rfl rfl ?_
  refine sr_aload_n hA si_14_49 rfl ?_
  refine sr_getR (r := 1) hA si_14_50 sf_14_14 (by decide) (by decide) rfl rfl rfl ?_
  refine sr_iload_n hA si_14_53 rfl ?_
  refine sr_iload_n hA si_14_54 rfl ?_
  refine sr_iload_n hA si_14_55 rfl ?_
  refine sr_VFv (c := 1) (ci := 5) (as := [.int (nI r), .int (nI i), .int v]) (st := []) hA si_14_56 sv_19 sk_14_96 (xc_setR X (sp_wI g 0 12 (g.1 (3 + r) i)) (by omega) (by omega) v) (by omega) rfl (by decide) (by decide) rfl sq_c_19 rfl (Nat.le_of_ble_eq_true rfl) ?_
  refine sr_iconst (v := nI 1) hA si_14_59 (by decide) ?_
  exact sr_iretF hA si_14_60 sq_r_14 rfl rfl
set_option maxRecDepth 20000 in
theorem mc_lay_a (X : sp_X) (g : sp_G) {r : Int32} (hr : r < 0) (i : Int32) (v : Int32) : sp_Ct X 9 142 [.ref 64, .int r, .int i, .int v] g (sp_Fi (-1) g) := by
  refine sp_walkN (n := 5) sq_p_142 sq_l_142 (Nat.le_of_ble_eq_true rfl) (fun a hA => ?_)
  show sp_Ev X a 142 0 [.ref 64, .int r, .int i, .int v, .null] [] g
  refine sr_iload_n hA si_142_0 rfl ?_
  refine sr_SFi (as := [.int r]) (st := []) hA si_142_1 ss_140 sk_142_93 (mc_isRowM X g hr) (by omega) rfl rfl (Nat.le_of_ble_eq_true rfl) ?_
  refine sr_if_neN (tgt := 9) hA si_142_4 (by decide) (by omega) (fun c1 => absurd c1 (by omega)) (fun c1 => ?_)
  refine sr_iconst (v := (-1)) hA si_142_7 (by decide) ?_
  exact sr_iretF hA si_142_8 sq_r_142 rfl rfl
set_option maxRecDepth 20000 in
theorem mc_lay_b (X : sp_X) (g : sp_G) {r : Nat} (hr : 6 ≤ r) (hrb : r < 2 ^ 31) (i : Int32) (v : Int32) : sp_Ct X 9 142 [.ref 64, .int (nI r), .int i, .int v] g (sp_Fi (-1) g) := by
  refine sp_walkN (n := 5) sq_p_142 sq_l_142 (Nat.le_of_ble_eq_true rfl) (fun a hA => ?_)
  show sp_Ev X a 142 0 [.ref 64, .int (nI r), .int i, .int v, .null] [] g
  refine sr_iload_n hA si_142_0 rfl ?_
  refine sr_SFi (as := [.int (nI r)]) (st := []) hA si_142_1 ss_140 sk_142_93 (mc_isRowH X g (by omega) (by omega)) (by omega) rfl rfl (Nat.le_of_ble_eq_true rfl) ?_
  refine sr_if_neN (tgt := 9) hA si_142_4 (by decide) (by omega) (fun c1 => absurd c1 (by omega)) (fun c1 => ?_)
  refine sr_iconst (v := (-1)) hA si_142_7 (by decide) ?_
  exact sr_iretF hA si_142_8 sq_r_142 rfl rfl
set_option maxRecDepth 20000 in
theorem mc_lay_c (X : sp_X) (g : sp_G) {r : Nat} (hr : r < 6) (i : Int32) (v : Int32) (hz : g.1 66 r = -1) : sp_Ct X 9 142 [.ref 64, .int (nI r), .int i, .int v] g (sp_Fi (-3) (sp_rm6 g 1)) := by
  refine sp_walkN (n := 5) sq_p_142 sq_l_142 (Nat.le_of_ble_eq_true rfl) (fun a hA => ?_)
  show sp_Ev X a 142 0 [.ref 64, .int (nI r), .int i, .int v, .null] [] g
  refine sr_iload_n hA si_142_0 rfl ?_
  refine sr_SFi (as := [.int (nI r)]) (st := []) hA si_142_1 ss_140 sk_142_93 (mc_isRow1 X g (by omega)) (by omega) rfl rfl (Nat.le_of_ble_eq_true rfl) ?_
  refine sr_if_neN (tgt := 9) hA si_142_4 (by decide) (by omega) (fun c1 => ?_) (fun c1 => absurd c1 (by omega))
  refine sr_aload_n hA si_142_9 rfl ?_
  refine sr_getR (r := 66) hA si_142_10 sf_142_17 (by decide) (by decide) rfl rfl rfl ?_
  refine sr_iload_n hA si_142_13 rfl ?_
  refine sr_ialdNv (v := (-1)) (n := 6) hA si_142_14 (by decide) rfl rfl (by omega) (by decide) hz ?_
  refine sr_if_ge (tgt := 24) hA si_142_15 (by decide) (fun c2 => absurd c2 (sp_m4 (by decide))) (fun c2 => ?_)
  refine sr_aload_n hA si_142_18 rfl ?_
  refine sr_iconst (v := nI 1) hA si_142_19 (by decide) ?_
  refine sr_VFi (c := 64) (ci := 8) (as := [.int (nI 1)]) (st := []) hA si_142_20 sv_141 sk_142_97 (mc_meets X g (by omega)) (by omega) rfl (by decide) (by decide) rfl sq_c_141 rfl (Nat.le_of_ble_eq_true rfl) ?_
  exact sr_iretF hA si_142_23 sq_r_142 rfl rfl
set_option maxRecDepth 20000 in
theorem mc_lay_d (X : sp_X) (g : sp_G) {r : Nat} (hr : r < 6) {i : Int32} (hi : i < 0) (v : Int32) {z : Nat} (hz : g.1 66 r = nI z) (hzb : z ≤ 40) : sp_Ct X 9 142 [.ref 64, .int (nI r), .int i, .int v] g (sp_Fi (-3) (sp_rm6 g 2)) := by
  refine sp_walkN (n := 5) sq_p_142 sq_l_142 (Nat.le_of_ble_eq_true rfl) (fun a hA => ?_)
  show sp_Ev X a 142 0 [.ref 64, .int (nI r), .int i, .int v, .null] [] g
  refine sr_iload_n hA si_142_0 rfl ?_
  refine sr_SFi (as := [.int (nI r)]) (st := []) hA si_142_1 ss_140 sk_142_93 (mc_isRow1 X g (by omega)) (by omega) rfl rfl (Nat.le_of_ble_eq_true rfl) ?_
  refine sr_if_neN (tgt := 9) hA si_142_4 (by decide) (by omega) (fun c1 => ?_) (fun c1 => absurd c1 (by omega))
  refine sr_aload_n hA si_142_9 rfl ?_
  refine sr_getR (r := 66) hA si_142_10 sf_142_17 (by decide) (by decide) rfl rfl rfl ?_
  refine sr_iload_n hA si_142_13 rfl ?_
  refine sr_ialdNv (v := nI z) (n := 6) hA si_142_14 (by decide) rfl rfl (by omega) (by decide) hz ?_
  refine sr_if_geN (tgt := 24) hA si_142_15 (by decide) (by omega) ?_
  refine sr_iload_n hA si_142_24 rfl ?_
  refine sr_iconst (v := nI 0) hA si_142_25 (by decide) ?_
  refine sr_aload_n hA si_142_26 rfl ?_
  refine sr_getR (r := 66) hA si_142_27 sf_142_17 (by decide) (by decide) rfl rfl rfl ?_
  refine sr_iload_n hA si_142_30 rfl ?_
  refine sr_ialdNv (v := nI z) (n := 6) hA si_142_31 (by decide) rfl rfl (by omega) (by decide) hz ?_
  refine sr_iconst (v := nI 1) hA si_142_32 (by decide) ?_
  refine sr_isub hA si_142_33 ?_
  refine sr_SFi (as := [.int i, .int (nI 0), .int ((nI z) - (nI 1))]) (st := []) hA si_142_34 ss_135 sk_142_83 (mc_inM X g hi (by omega)) (by omega) rfl rfl (Nat.le_of_ble_eq_true rfl) ?_
  refine sr_if_neN (tgt := 46) hA si_142_37 (by decide) (by omega) (fun c3 => absurd c3 (by omega)) (fun c3 => ?_)
  refine sr_aload_n hA si_142_40 rfl ?_
  refine sr_iconst (v := nI 2) hA si_142_41 (by decide) ?_
  refine sr_VFi (c := 64) (ci := 8) (as := [.int (nI 2)]) (st := []) hA si_142_42 sv_141 sk_142_97 (mc_meets X g (by omega)) (by omega) rfl (by decide) (by decide) rfl sq_c_141 rfl (Nat.le_of_ble_eq_true rfl) ?_
  exact sr_iretF hA si_142_45 sq_r_142 rfl rfl
set_option maxRecDepth 20000 in
theorem mc_lay_e (X : sp_X) (g : sp_G) {r : Nat} (hr : r < 6) {i : Nat} (hib : i < 2 ^ 31) (v : Int32) {z : Nat} (hz : g.1 66 r = nI z) (hzb : z ≤ 40) (hi : z ≤ i) : sp_Ct X 9 142 [.ref 64, .int (nI r), .int (nI i), .int v] g (sp_Fi (-3) (sp_rm6 g 2)) := by
  refine sp_walkN (n := 5) sq_p_142 sq_l_142 (Nat.le_of_ble_eq_true rfl) (fun a hA => ?_)
  show sp_Ev X a 142 0 [.ref 64, .int (nI r), .int (nI i), .int v, .null] [] g
  refine sr_iload_n hA si_142_0 rfl ?_
  refine sr_SFi (as := [.int (nI r)]) (st := []) hA si_142_1 ss_140 sk_142_93 (mc_isRow1 X g (by omega)) (by omega) rfl rfl (Nat.le_of_ble_eq_true rfl) ?_
  refine sr_if_neN (tgt := 9) hA si_142_4 (by decide) (by omega) (fun c1 => ?_) (fun c1 => absurd c1 (by omega))
  refine sr_aload_n hA si_142_9 rfl ?_
  refine sr_getR (r := 66) hA si_142_10 sf_142_17 (by decide) (by decide) rfl rfl rfl ?_
  refine sr_iload_n hA si_142_13 rfl ?_
  refine sr_ialdNv (v := nI z) (n := 6) hA si_142_14 (by decide) rfl rfl (by omega) (by decide) hz ?_
  refine sr_if_geN (tgt := 24) hA si_142_15 (by decide) (by omega) ?_
  refine sr_iload_n hA si_142_24 rfl ?_
  refine sr_iconst (v := nI 0) hA si_142_25 (by decide) ?_
  refine sr_aload_n hA si_142_26 rfl ?_
  refine sr_getR (r := 66) hA si_142_27 sf_142_17 (by decide) (by decide) rfl rfl rfl ?_
  refine sr_iload_n hA si_142_30 rfl ?_
  refine sr_ialdNv (v := nI z) (n := 6) hA si_142_31 (by decide) rfl rfl (by omega) (by decide) hz ?_
  refine sr_iconst (v := nI 1) hA si_142_32 (by decide) ?_
  refine sr_isub hA si_142_33 ?_
  refine sr_SFi (as := [.int (nI i), .int (nI 0), .int ((nI z) - (nI 1))]) (st := []) hA si_142_34 ss_135 sk_142_83 (mc_in0 X g (fun q => absurd q.2 (sp_nk (by omega) (by omega)))) (by omega) rfl rfl (Nat.le_of_ble_eq_true rfl) ?_
  refine sr_if_neN (tgt := 46) hA si_142_37 (by decide) (by omega) (fun c3 => absurd c3 (by omega)) (fun c3 => ?_)
  refine sr_aload_n hA si_142_40 rfl ?_
  refine sr_iconst (v := nI 2) hA si_142_41 (by decide) ?_
  refine sr_VFi (c := 64) (ci := 8) (as := [.int (nI 2)]) (st := []) hA si_142_42 sv_141 sk_142_97 (mc_meets X g (by omega)) (by omega) rfl (by decide) (by decide) rfl sq_c_141 rfl (Nat.le_of_ble_eq_true rfl) ?_
  exact sr_iretF hA si_142_45 sq_r_142 rfl rfl
set_option maxRecDepth 20000 in
theorem mc_lay_f (X : sp_X) (g : sp_G) {r : Nat} (hr : r < 6) {i : Nat} (hib : i < 2 ^ 31) (v : Int32) {z : Nat} (hz : g.1 66 r = nI z) (hzb : z ≤ 40) (hi : i < z) : sp_Ct X 9 142 [.ref 64, .int (nI r), .int (nI i), .int v] g (sp_Fi (nI 1) (sp_wI (sp_wI g 67 (40 * r + i) v) 64 2 (g.1 67 (40 * r + i)))) := by
  refine sp_walkN (n := 5) sq_p_142 sq_l_142 (Nat.le_of_ble_eq_true rfl) (fun a hA => ?_)
  show sp_Ev X a 142 0 [.ref 64, .int (nI r), .int (nI i), .int v, .null] [] g
  refine sr_iload_n hA si_142_0 rfl ?_
  refine sr_SFi (as := [.int (nI r)]) (st := []) hA si_142_1 ss_140 sk_142_93 (mc_isRow1 X g (by omega)) (by omega) rfl rfl (Nat.le_of_ble_eq_true rfl) ?_
  refine sr_if_neN (tgt := 9) hA si_142_4 (by decide) (by omega) (fun c1 => ?_) (fun c1 => absurd c1 (by omega))
  refine sr_aload_n hA si_142_9 rfl ?_
  refine sr_getR (r := 66) hA si_142_10 sf_142_17 (by decide) (by decide) rfl rfl rfl ?_
  refine sr_iload_n hA si_142_13 rfl ?_
  refine sr_ialdNv (v := nI z) (n := 6) hA si_142_14 (by decide) rfl rfl (by omega) (by decide) hz ?_
  refine sr_if_geN (tgt := 24) hA si_142_15 (by decide) (by omega) ?_
  refine sr_iload_n hA si_142_24 rfl ?_
  refine sr_iconst (v := nI 0) hA si_142_25 (by decide) ?_
  refine sr_aload_n hA si_142_26 rfl ?_
  refine sr_getR (r := 66) hA si_142_27 sf_142_17 (by decide) (by decide) rfl rfl rfl ?_
  refine sr_iload_n hA si_142_30 rfl ?_
  refine sr_ialdNv (v := nI z) (n := 6) hA si_142_31 (by decide) rfl rfl (by omega) (by decide) hz ?_
  refine sr_iconst (v := nI 1) hA si_142_32 (by decide) ?_
  refine sr_isubN hA si_142_33 (by omega) ?_
  refine sr_SFi (as := [.int (nI i), .int (nI 0), .int (nI (z - 1))]) (st := []) hA si_142_34 ss_135 sk_142_83 (mc_inN X g (by omega) (by omega) (by omega)) (by omega) rfl rfl (Nat.le_of_ble_eq_true rfl) ?_
  refine sr_if_neN (tgt := 46) hA si_142_37 (by decide) (by omega) (fun c3 => ?_) (fun c3 => absurd c3 (by omega))
  refine sr_aload_n hA si_142_46 rfl ?_
  refine sr_iload_n hA si_142_47 rfl ?_
  refine sr_iload_n hA si_142_48 rfl ?_
  refine sr_VFi (c := 64) (ci := 8) (as := [.int (nI r), .int (nI i)]) (st := []) hA si_142_49 sv_143 sk_142_101 (mc_rowAt X g (by omega)) (by omega) rfl (by decide) (by decide) rfl sq_c_143 rfl (Nat.le_of_ble_eq_true rfl) ?_
  refine sr_istore (ls1 := [.ref 64, .int (nI r), .int (nI i), .int v, .int (g.1 67 (40 * r + i))]) hA si_142_52 (by rw [sq_l_142]; decide) rfl ?_
  refine sr_aload_n hA si_142_54 rfl ?_
  refine sr_getR (r := 67) hA si_142_55 sf_142_20 (by decide) (by decide) rfl rfl rfl ?_
  refine sr_bipush (v := nI 40) hA si_142_58 (by decide) ?_
  refine sr_iload_n hA si_142_60 rfl ?_
  refine sr_imulN hA si_142_61 ?_
  refine sr_iload_n hA si_142_62 rfl ?_
  refine sr_iaddN hA si_142_63 ?_
  refine sr_iload_n hA si_142_64 rfl ?_
  refine sr_iastN (n := 240) hA si_142_65 (by decide) rfl rfl (by omega) (by decide) ?_
  refine sr_aload_n hA si_142_66 rfl ?_
  refine sr_iload hA si_142_67 rfl ?_
  refine sr_iconst (v := nI 1) hA si_142_69 (by decide) ?_
  refine sr_VFi (c := 64) (ci := 8) (as := [.int (g.1 67 (40 * r + i)), .int (nI 1)]) (st := []) hA si_142_70 sv_144 sk_142_105 (mc_tells X (sp_wI g 67 ((40 * r) + i) v) (g.1 67 (40 * r + i)) (nI 1)) (by omega) rfl (by decide) (by decide) rfl sq_c_144 rfl (Nat.le_of_ble_eq_true rfl) ?_
  exact sr_iretF hA si_142_73 sq_r_142 rfl rfl
set_option maxRecDepth 20000 in
theorem xc_at_a (X : sp_X) (g : sp_G) {r : Int32} (hr : r < 0) (i : Int32) : sp_Ct X 9 20 [.ref 0, .int r, .int i] g (sp_Fi (-1) g) := by
  refine sp_walkN (n := 4) sq_p_20 sq_l_20 (Nat.le_of_ble_eq_true rfl) (fun a hA => ?_)
  show sp_Ev X a 20 0 [.ref 0, .int r, .int i, .null] [] g
  refine sr_aload_n hA si_20_0 rfl ?_
  refine sr_getR (r := 1) hA si_20_1 sf_20_14 (by decide) (by decide) rfl rfl rfl ?_
  refine sr_iload_n hA si_20_4 rfl ?_
  refine sr_VFi (c := 1) (ci := 5) (as := [.int r]) (st := []) hA si_20_5 sv_11 sk_20_72 (xc_numRM X g hr) (by omega) rfl (by decide) (by decide) rfl sq_c_11 rfl (Nat.le_of_ble_eq_true rfl) ?_
  refine sr_if_neN (tgt := 13) hA si_20_8 (by decide) (by omega) (fun c1 => absurd c1 (by omega)) (fun c1 => ?_)
  refine sr_iconst (v := (-1)) hA si_20_11 (by decide) ?_
  exact sr_iretF hA si_20_12 sq_r_20 rfl rfl
set_option maxRecDepth 20000 in
theorem xc_at_b (X : sp_X) (g : sp_G) {r : Nat} (hr : 6 ≤ r) (hrb : r < 2 ^ 31) (i : Int32) : sp_Ct X 9 20 [.ref 0, .int (nI r), .int i] g (sp_Fi (-1) g) := by
  refine sp_walkN (n := 4) sq_p_20 sq_l_20 (Nat.le_of_ble_eq_true rfl) (fun a hA => ?_)
  show sp_Ev X a 20 0 [.ref 0, .int (nI r), .int i, .null] [] g
  refine sr_aload_n hA si_20_0 rfl ?_
  refine sr_getR (r := 1) hA si_20_1 sf_20_14 (by decide) (by decide) rfl rfl rfl ?_
  refine sr_iload_n hA si_20_4 rfl ?_
  refine sr_VFi (c := 1) (ci := 5) (as := [.int (nI r)]) (st := []) hA si_20_5 sv_11 sk_20_72 (xc_numRH X g (by omega) (by omega)) (by omega) rfl (by decide) (by decide) rfl sq_c_11 rfl (Nat.le_of_ble_eq_true rfl) ?_
  refine sr_if_neN (tgt := 13) hA si_20_8 (by decide) (by omega) (fun c1 => absurd c1 (by omega)) (fun c1 => ?_)
  refine sr_iconst (v := (-1)) hA si_20_11 (by decide) ?_
  exact sr_iretF hA si_20_12 sq_r_20 rfl rfl
set_option maxRecDepth 20000 in
theorem xc_at_c (X : sp_X) (g : sp_G) {r : Nat} (hr : r < 6) (i : Int32) (hz : g.1 9 r = -1) : sp_Ct X 9 20 [.ref 0, .int (nI r), .int i] g (sp_Fi (-3) (sp_rx g 1)) := by
  refine sp_walkN (n := 4) sq_p_20 sq_l_20 (Nat.le_of_ble_eq_true rfl) (fun a hA => ?_)
  show sp_Ev X a 20 0 [.ref 0, .int (nI r), .int i, .null] [] g
  refine sr_aload_n hA si_20_0 rfl ?_
  refine sr_getR (r := 1) hA si_20_1 sf_20_14 (by decide) (by decide) rfl rfl rfl ?_
  refine sr_iload_n hA si_20_4 rfl ?_
  refine sr_VFi (c := 1) (ci := 5) (as := [.int (nI r)]) (st := []) hA si_20_5 sv_11 sk_20_72 (xc_numR1 X g (by omega)) (by omega) rfl (by decide) (by decide) rfl sq_c_11 rfl (Nat.le_of_ble_eq_true rfl) ?_
  refine sr_if_neN (tgt := 13) hA si_20_8 (by decide) (by omega) (fun c1 => ?_) (fun c1 => absurd c1 (by omega))
  refine sr_aload_n hA si_20_13 rfl ?_
  refine sr_getR (r := 1) hA si_20_14 sf_20_14 (by decide) (by decide) rfl rfl rfl ?_
  refine sr_iload_n hA si_20_17 rfl ?_
  refine sr_iload_n hA si_20_18 rfl ?_
  refine sr_SFi (as := [.ref 1, .int (nI r), .int i]) (st := []) hA si_20_19 ss_15 sk_20_84 (xc_pwR1 X g (by omega) hz) (by omega) rfl rfl (Nat.le_of_ble_eq_true rfl) ?_
  refine sr_istore_n (ls1 := [.ref 0, .int (nI r), .int i, .int (nI 1)]) hA si_20_22 rfl (by rw [sq_l_20]; decide) rfl ?_
  refine sr_iload_n hA si_20_23 rfl ?_
  refine sr_if_eqN (tgt := 33) hA si_20_24 (by decide) (by omega) (fun c2 => absurd c2 (by omega)) (fun c2 => ?_)
  refine sr_aload_n hA si_20_27 rfl ?_
  refine sr_iload_n hA si_20_28 rfl ?_
  refine sr_VFi (c := 0) (ci := 7) (as := [.int (nI 1)]) (st := []) hA si_20_29 sv_12 sk_20_76 (xc_refuse X g (by omega)) (by omega) rfl (by decide) (by decide) rfl sq_c_12 rfl (Nat.le_of_ble_eq_true rfl) ?_
  exact sr_iretF hA si_20_32 sq_r_20 rfl rfl
set_option maxRecDepth 20000 in
theorem xc_at_d (X : sp_X) (g : sp_G) {r : Nat} (hr : r < 6) {i : Int32} (hi : i < 0) {z : Nat} (hz : g.1 9 r = nI z) (hzb : z ≤ 40) : sp_Ct X 9 20 [.ref 0, .int (nI r), .int i] g (sp_Fi (-3) (sp_rx g 2)) := by
  refine sp_walkN (n := 4) sq_p_20 sq_l_20 (Nat.le_of_ble_eq_true rfl) (fun a hA => ?_)
  show sp_Ev X a 20 0 [.ref 0, .int (nI r), .int i, .null] [] g
  refine sr_aload_n hA si_20_0 rfl ?_
  refine sr_getR (r := 1) hA si_20_1 sf_20_14 (by decide) (by decide) rfl rfl rfl ?_
  refine sr_iload_n hA si_20_4 rfl ?_
  refine sr_VFi (c := 1) (ci := 5) (as := [.int (nI r)]) (st := []) hA si_20_5 sv_11 sk_20_72 (xc_numR1 X g (by omega)) (by omega) rfl (by decide) (by decide) rfl sq_c_11 rfl (Nat.le_of_ble_eq_true rfl) ?_
  refine sr_if_neN (tgt := 13) hA si_20_8 (by decide) (by omega) (fun c1 => ?_) (fun c1 => absurd c1 (by omega))
  refine sr_aload_n hA si_20_13 rfl ?_
  refine sr_getR (r := 1) hA si_20_14 sf_20_14 (by decide) (by decide) rfl rfl rfl ?_
  refine sr_iload_n hA si_20_17 rfl ?_
  refine sr_iload_n hA si_20_18 rfl ?_
  refine sr_SFi (as := [.ref 1, .int (nI r), .int i]) (st := []) hA si_20_19 ss_15 sk_20_84 (xc_pwRM X g (by omega) hz (by omega) hi) (by omega) rfl rfl (Nat.le_of_ble_eq_true rfl) ?_
  refine sr_istore_n (ls1 := [.ref 0, .int (nI r), .int i, .int (nI 2)]) hA si_20_22 rfl (by rw [sq_l_20]; decide) rfl ?_
  refine sr_iload_n hA si_20_23 rfl ?_
  refine sr_if_eqN (tgt := 33) hA si_20_24 (by decide) (by omega) (fun c2 => absurd c2 (by omega)) (fun c2 => ?_)
  refine sr_aload_n hA si_20_27 rfl ?_
  refine sr_iload_n hA si_20_28 rfl ?_
  refine sr_VFi (c := 0) (ci := 7) (as := [.int (nI 2)]) (st := []) hA si_20_29 sv_12 sk_20_76 (xc_refuse X g (by omega)) (by omega) rfl (by decide) (by decide) rfl sq_c_12 rfl (Nat.le_of_ble_eq_true rfl) ?_
  exact sr_iretF hA si_20_32 sq_r_20 rfl rfl
set_option maxRecDepth 20000 in
theorem xc_at_e (X : sp_X) (g : sp_G) {r : Nat} (hr : r < 6) {i : Nat} (hib : i < 2 ^ 31) {z : Nat} (hz : g.1 9 r = nI z) (hzb : z ≤ 40) (hi : z ≤ i) : sp_Ct X 9 20 [.ref 0, .int (nI r), .int (nI i)] g (sp_Fi (-3) (sp_rx g 2)) := by
  refine sp_walkN (n := 4) sq_p_20 sq_l_20 (Nat.le_of_ble_eq_true rfl) (fun a hA => ?_)
  show sp_Ev X a 20 0 [.ref 0, .int (nI r), .int (nI i), .null] [] g
  refine sr_aload_n hA si_20_0 rfl ?_
  refine sr_getR (r := 1) hA si_20_1 sf_20_14 (by decide) (by decide) rfl rfl rfl ?_
  refine sr_iload_n hA si_20_4 rfl ?_
  refine sr_VFi (c := 1) (ci := 5) (as := [.int (nI r)]) (st := []) hA si_20_5 sv_11 sk_20_72 (xc_numR1 X g (by omega)) (by omega) rfl (by decide) (by decide) rfl sq_c_11 rfl (Nat.le_of_ble_eq_true rfl) ?_
  refine sr_if_neN (tgt := 13) hA si_20_8 (by decide) (by omega) (fun c1 => ?_) (fun c1 => absurd c1 (by omega))
  refine sr_aload_n hA si_20_13 rfl ?_
  refine sr_getR (r := 1) hA si_20_14 sf_20_14 (by decide) (by decide) rfl rfl rfl ?_
  refine sr_iload_n hA si_20_17 rfl ?_
  refine sr_iload_n hA si_20_18 rfl ?_
  refine sr_SFi (as := [.ref 1, .int (nI r), .int (nI i)]) (st := []) hA si_20_19 ss_15 sk_20_84 (xc_pwR2 X g (by omega) hz (by omega) (by omega) (by omega)) (by omega) rfl rfl (Nat.le_of_ble_eq_true rfl) ?_
  refine sr_istore_n (ls1 := [.ref 0, .int (nI r), .int (nI i), .int (nI 2)]) hA si_20_22 rfl (by rw [sq_l_20]; decide) rfl ?_
  refine sr_iload_n hA si_20_23 rfl ?_
  refine sr_if_eqN (tgt := 33) hA si_20_24 (by decide) (by omega) (fun c2 => absurd c2 (by omega)) (fun c2 => ?_)
  refine sr_aload_n hA si_20_27 rfl ?_
  refine sr_iload_n hA si_20_28 rfl ?_
  refine sr_VFi (c := 0) (ci := 7) (as := [.int (nI 2)]) (st := []) hA si_20_29 sv_12 sk_20_76 (xc_refuse X g (by omega)) (by omega) rfl (by decide) (by decide) rfl sq_c_12 rfl (Nat.le_of_ble_eq_true rfl) ?_
  exact sr_iretF hA si_20_32 sq_r_20 rfl rfl
set_option maxRecDepth 20000 in
theorem xc_at_f (X : sp_X) (g : sp_G) {r : Nat} (hr : r < 6) {i : Nat} (hib : i < 2 ^ 31) {z : Nat} (hz : g.1 9 r = nI z) (hzb : z ≤ 40) (hi : i < z) : sp_Ct X 9 20 [.ref 0, .int (nI r), .int (nI i)] g (sp_Fi (nI 1) (sp_wI g 0 12 (g.1 (3 + r) i))) := by
  refine sp_walkN (n := 4) sq_p_20 sq_l_20 (Nat.le_of_ble_eq_true rfl) (fun a hA => ?_)
  show sp_Ev X a 20 0 [.ref 0, .int (nI r), .int (nI i), .null] [] g
  refine sr_aload_n hA si_20_0 rfl ?_
  refine sr_getR (r := 1) hA si_20_1 sf_20_14 (by decide) (by decide) rfl rfl rfl ?_
  refine sr_iload_n hA si_20_4 rfl ?_
  refine sr_VFi (c := 1) (ci := 5) (as := [.int (nI r)]) (st := []) hA si_20_5 sv_11 sk_20_72 (xc_numR1 X g (by omega)) (by omega) rfl (by decide) (by decide) rfl sq_c_11 rfl (Nat.le_of_ble_eq_true rfl) ?_
  refine sr_if_neN (tgt := 13) hA si_20_8 (by decide) (by omega) (fun c1 => ?_) (fun c1 => absurd c1 (by omega))
  refine sr_aload_n hA si_20_13 rfl ?_
  refine sr_getR (r := 1) hA si_20_14 sf_20_14 (by decide) (by decide) rfl rfl rfl ?_
  refine sr_iload_n hA si_20_17 rfl ?_
  refine sr_iload_n hA si_20_18 rfl ?_
  refine sr_SFi (as := [.ref 1, .int (nI r), .int (nI i)]) (st := []) hA si_20_19 ss_15 sk_20_84 (xc_pwR0 X g (by omega) hz (by omega) (by omega)) (by omega) rfl rfl (Nat.le_of_ble_eq_true rfl) ?_
  refine sr_istore_n (ls1 := [.ref 0, .int (nI r), .int (nI i), .int (nI 0)]) hA si_20_22 rfl (by rw [sq_l_20]; decide) rfl ?_
  refine sr_iload_n hA si_20_23 rfl ?_
  refine sr_if_eqN (tgt := 33) hA si_20_24 (by decide) (by omega) (fun c2 => ?_) (fun c2 => absurd c2 (by omega))
  refine sr_aload_n hA si_20_33 rfl ?_
  refine sr_aload_n hA si_20_34 rfl ?_
  refine sr_getR (r := 1) hA si_20_35 sf_20_14 (by decide) (by decide) rfl rfl rfl ?_
  refine sr_iload_n hA si_20_38 rfl ?_
  refine sr_iload_n hA si_20_39 rfl ?_
  refine sr_VFi (c := 1) (ci := 5) (as := [.int (nI r), .int (nI i)]) (st := [.ref 0]) hA si_20_40 sv_18 sk_20_88 (xc_getR X g (by omega) (by omega) rfl) (by omega) rfl (by decide) (by decide) rfl sq_c_18 rfl (Nat.le_of_ble_eq_true rfl) ?_
  refine sr_putI hA si_20_43 sf_20_92 rfl rfl (by decide) (by decide) rfl rfl ?_
  refine sr_iconst (v := nI 1) hA si_20_46 (by decide) ?_
  exact sr_iretF hA si_20_47 sq_r_20 rfl rfl
set_option maxRecDepth 20000 in
theorem mc_at_a (X : sp_X) (g : sp_G) {r : Int32} (hr : r < 0) (i : Int32) : sp_Ct X 9 145 [.ref 64, .int r, .int i] g (sp_Fi (-1) g) := by
  refine sp_walkN (n := 3) sq_p_145 sq_l_145 (Nat.le_of_ble_eq_true rfl) (fun a hA => ?_)
  show sp_Ev X a 145 0 [.ref 64, .int r, .int i] [] g
  refine sr_iload_n hA si_145_0 rfl ?_
  refine sr_SFi (as := [.int r]) (st := []) hA si_145_1 ss_140 sk_145_93 (mc_isRowM X g hr) (by omega) rfl rfl (Nat.le_of_ble_eq_true rfl) ?_
  refine sr_if_neN (tgt := 9) hA si_145_4 (by decide) (by omega) (fun c1 => absurd c1 (by omega)) (fun c1 => ?_)
  refine sr_iconst (v := (-1)) hA si_145_7 (by decide) ?_
  exact sr_iretF hA si_145_8 sq_r_145 rfl rfl
set_option maxRecDepth 20000 in
theorem mc_at_b (X : sp_X) (g : sp_G) {r : Nat} (hr : 6 ≤ r) (hrb : r < 2 ^ 31) (i : Int32) : sp_Ct X 9 145 [.ref 64, .int (nI r), .int i] g (sp_Fi (-1) g) := by
  refine sp_walkN (n := 3) sq_p_145 sq_l_145 (Nat.le_of_ble_eq_true rfl) (fun a hA => ?_)
  show sp_Ev X a 145 0 [.ref 64, .int (nI r), .int i] [] g
  refine sr_iload_n hA si_145_0 rfl ?_
  refine sr_SFi (as := [.int (nI r)]) (st := []) hA si_145_1 ss_140 sk_145_93 (mc_isRowH X g (by omega) (by omega)) (by omega) rfl rfl (Nat.le_of_ble_eq_true rfl) ?_
  refine sr_if_neN (tgt := 9) hA si_145_4 (by decide) (by omega) (fun c1 => absurd c1 (by omega)) (fun c1 => ?_)
  refine sr_iconst (v := (-1)) hA si_145_7 (by decide) ?_
  exact sr_iretF hA si_145_8 sq_r_145 rfl rfl
set_option maxRecDepth 20000 in
theorem mc_at_c (X : sp_X) (g : sp_G) {r : Nat} (hr : r < 6) (i : Int32) (hz : g.1 66 r = -1) : sp_Ct X 9 145 [.ref 64, .int (nI r), .int i] g (sp_Fi (-3) (sp_rm6 g 1)) := by
  refine sp_walkN (n := 3) sq_p_145 sq_l_145 (Nat.le_of_ble_eq_true rfl) (fun a hA => ?_)
  show sp_Ev X a 145 0 [.ref 64, .int (nI r), .int i] [] g
  refine sr_iload_n hA si_145_0 rfl ?_
  refine sr_SFi (as := [.int (nI r)]) (st := []) hA si_145_1 ss_140 sk_145_93 (mc_isRow1 X g (by omega)) (by omega) rfl rfl (Nat.le_of_ble_eq_true rfl) ?_
  refine sr_if_neN (tgt := 9) hA si_145_4 (by decide) (by omega) (fun c1 => ?_) (fun c1 => absurd c1 (by omega))
  refine sr_aload_n hA si_145_9 rfl ?_
  refine sr_getR (r := 66) hA si_145_10 sf_145_17 (by decide) (by decide) rfl rfl rfl ?_
  refine sr_iload_n hA si_145_13 rfl ?_
  refine sr_ialdNv (v := (-1)) (n := 6) hA si_145_14 (by decide) rfl rfl (by omega) (by decide) hz ?_
  refine sr_if_ge (tgt := 24) hA si_145_15 (by decide) (fun c2 => absurd c2 (sp_m4 (by decide))) (fun c2 => ?_)
  refine sr_aload_n hA si_145_18 rfl ?_
  refine sr_iconst (v := nI 1) hA si_145_19 (by decide) ?_
  refine sr_VFi (c := 64) (ci := 8) (as := [.int (nI 1)]) (st := []) hA si_145_20 sv_141 sk_145_97 (mc_meets X g (by omega)) (by omega) rfl (by decide) (by decide) rfl sq_c_141 rfl (Nat.le_of_ble_eq_true rfl) ?_
  exact sr_iretF hA si_145_23 sq_r_145 rfl rfl
set_option maxRecDepth 20000 in
theorem mc_at_d (X : sp_X) (g : sp_G) {r : Nat} (hr : r < 6) {i : Int32} (hi : i < 0) {z : Nat} (hz : g.1 66 r = nI z) (hzb : z ≤ 40) : sp_Ct X 9 145 [.ref 64, .int (nI r), .int i] g (sp_Fi (-3) (sp_rm6 g 2)) := by
  refine sp_walkN (n := 3) sq_p_145 sq_l_145 (Nat.le_of_ble_eq_true rfl) (fun a hA => ?_)
  show sp_Ev X a 145 0 [.ref 64, .int (nI r), .int i] [] g
  refine sr_iload_n hA si_145_0 rfl ?_
  refine sr_SFi (as := [.int (nI r)]) (st := []) hA si_145_1 ss_140 sk_145_93 (mc_isRow1 X g (by omega)) (by omega) rfl rfl (Nat.le_of_ble_eq_true rfl) ?_
  refine sr_if_neN (tgt := 9) hA si_145_4 (by decide) (by omega) (fun c1 => ?_) (fun c1 => absurd c1 (by omega))
  refine sr_aload_n hA si_145_9 rfl ?_
  refine sr_getR (r := 66) hA si_145_10 sf_145_17 (by decide) (by decide) rfl rfl rfl ?_
  refine sr_iload_n hA si_145_13 rfl ?_
  refine sr_ialdNv (v := nI z) (n := 6) hA si_145_14 (by decide) rfl rfl (by omega) (by decide) hz ?_
  refine sr_if_geN (tgt := 24) hA si_145_15 (by decide) (by omega) ?_
  refine sr_iload_n hA si_145_24 rfl ?_
  refine sr_iconst (v := nI 0) hA si_145_25 (by decide) ?_
  refine sr_aload_n hA si_145_26 rfl ?_
  refine sr_getR (r := 66) hA si_145_27 sf_145_17 (by decide) (by decide) rfl rfl rfl ?_
  refine sr_iload_n hA si_145_30 rfl ?_
  refine sr_ialdNv (v := nI z) (n := 6) hA si_145_31 (by decide) rfl rfl (by omega) (by decide) hz ?_
  refine sr_iconst (v := nI 1) hA si_145_32 (by decide) ?_
  refine sr_isub hA si_145_33 ?_
  refine sr_SFi (as := [.int i, .int (nI 0), .int ((nI z) - (nI 1))]) (st := []) hA si_145_34 ss_135 sk_145_83 (mc_inM X g hi (by omega)) (by omega) rfl rfl (Nat.le_of_ble_eq_true rfl) ?_
  refine sr_if_eqN (tgt := 54) hA si_145_37 (by decide) (by omega) (fun c3 => ?_) (fun c3 => absurd c3 (by omega))
  refine sr_aload_n hA si_145_54 rfl ?_
  refine sr_iconst (v := nI 2) hA si_145_55 (by decide) ?_
  refine sr_VFi (c := 64) (ci := 8) (as := [.int (nI 2)]) (st := []) hA si_145_56 sv_141 sk_145_97 (mc_meets X g (by omega)) (by omega) rfl (by decide) (by decide) rfl sq_c_141 rfl (Nat.le_of_ble_eq_true rfl) ?_
  exact sr_iretF hA si_145_59 sq_r_145 rfl rfl
set_option maxRecDepth 20000 in
theorem mc_at_e (X : sp_X) (g : sp_G) {r : Nat} (hr : r < 6) {i : Nat} (hib : i < 2 ^ 31) {z : Nat} (hz : g.1 66 r = nI z) (hzb : z ≤ 40) (hi : z ≤ i) : sp_Ct X 9 145 [.ref 64, .int (nI r), .int (nI i)] g (sp_Fi (-3) (sp_rm6 g 2)) := by
  refine sp_walkN (n := 3) sq_p_145 sq_l_145 (Nat.le_of_ble_eq_true rfl) (fun a hA => ?_)
  show sp_Ev X a 145 0 [.ref 64, .int (nI r), .int (nI i)] [] g
  refine sr_iload_n hA si_145_0 rfl ?_
  refine sr_SFi (as := [.int (nI r)]) (st := []) hA si_145_1 ss_140 sk_145_93 (mc_isRow1 X g (by omega)) (by omega) rfl rfl (Nat.le_of_ble_eq_true rfl) ?_
  refine sr_if_neN (tgt := 9) hA si_145_4 (by decide) (by omega) (fun c1 => ?_) (fun c1 => absurd c1 (by omega))
  refine sr_aload_n hA si_145_9 rfl ?_
  refine sr_getR (r := 66) hA si_145_10 sf_145_17 (by decide) (by decide) rfl rfl rfl ?_
  refine sr_iload_n hA si_145_13 rfl ?_
  refine sr_ialdNv (v := nI z) (n := 6) hA si_145_14 (by decide) rfl rfl (by omega) (by decide) hz ?_
  refine sr_if_geN (tgt := 24) hA si_145_15 (by decide) (by omega) ?_
  refine sr_iload_n hA si_145_24 rfl ?_
  refine sr_iconst (v := nI 0) hA si_145_25 (by decide) ?_
  refine sr_aload_n hA si_145_26 rfl ?_
  refine sr_getR (r := 66) hA si_145_27 sf_145_17 (by decide) (by decide) rfl rfl rfl ?_
  refine sr_iload_n hA si_145_30 rfl ?_
  refine sr_ialdNv (v := nI z) (n := 6) hA si_145_31 (by decide) rfl rfl (by omega) (by decide) hz ?_
  refine sr_iconst (v := nI 1) hA si_145_32 (by decide) ?_
  refine sr_isub hA si_145_33 ?_
  refine sr_SFi (as := [.int (nI i), .int (nI 0), .int ((nI z) - (nI 1))]) (st := []) hA si_145_34 ss_135 sk_145_83 (mc_in0 X g (fun q => absurd q.2 (sp_nk (by omega) (by omega)))) (by omega) rfl rfl (Nat.le_of_ble_eq_true rfl) ?_
  refine sr_if_eqN (tgt := 54) hA si_145_37 (by decide) (by omega) (fun c3 => ?_) (fun c3 => absurd c3 (by omega))
  refine sr_aload_n hA si_145_54 rfl ?_
  refine sr_iconst (v := nI 2) hA si_145_55 (by decide) ?_
  refine sr_VFi (c := 64) (ci := 8) (as := [.int (nI 2)]) (st := []) hA si_145_56 sv_141 sk_145_97 (mc_meets X g (by omega)) (by omega) rfl (by decide) (by decide) rfl sq_c_141 rfl (Nat.le_of_ble_eq_true rfl) ?_
  exact sr_iretF hA si_145_59 sq_r_145 rfl rfl
set_option maxRecDepth 20000 in
theorem mc_at_f (X : sp_X) (g : sp_G) {r : Nat} (hr : r < 6) {i : Nat} (hib : i < 2 ^ 31) {z : Nat} (hz : g.1 66 r = nI z) (hzb : z ≤ 40) (hi : i < z) : sp_Ct X 9 145 [.ref 64, .int (nI r), .int (nI i)] g (sp_Fi (nI 1) (sp_wI g 64 2 (g.1 67 (40 * r + i)))) := by
  refine sp_walkN (n := 3) sq_p_145 sq_l_145 (Nat.le_of_ble_eq_true rfl) (fun a hA => ?_)
  show sp_Ev X a 145 0 [.ref 64, .int (nI r), .int (nI i)] [] g
  refine sr_iload_n hA si_145_0 rfl ?_
  refine sr_SFi (as := [.int (nI r)]) (st := []) hA si_145_1 ss_140 sk_145_93 (mc_isRow1 X g (by omega)) (by omega) rfl rfl (Nat.le_of_ble_eq_true rfl) ?_
  refine sr_if_neN (tgt := 9) hA si_145_4 (by decide) (by omega) (fun c1 => ?_) (fun c1 => absurd c1 (by omega))
  refine sr_aload_n hA si_145_9 rfl ?_
  refine sr_getR (r := 66) hA si_145_10 sf_145_17 (by decide) (by decide) rfl rfl rfl ?_
  refine sr_iload_n hA si_145_13 rfl ?_
  refine sr_ialdNv (v := nI z) (n := 6) hA si_145_14 (by decide) rfl rfl (by omega) (by decide) hz ?_
  refine sr_if_geN (tgt := 24) hA si_145_15 (by decide) (by omega) ?_
  refine sr_iload_n hA si_145_24 rfl ?_
  refine sr_iconst (v := nI 0) hA si_145_25 (by decide) ?_
  refine sr_aload_n hA si_145_26 rfl ?_
  refine sr_getR (r := 66) hA si_145_27 sf_145_17 (by decide) (by decide) rfl rfl rfl ?_
  refine sr_iload_n hA si_145_30 rfl ?_
  refine sr_ialdNv (v := nI z) (n := 6) hA si_145_31 (by decide) rfl rfl (by omega) (by decide) hz ?_
  refine sr_iconst (v := nI 1) hA si_145_32 (by decide) ?_
  refine sr_isubN hA si_145_33 (by omega) ?_
  refine sr_SFi (as := [.int (nI i), .int (nI 0), .int (nI (z - 1))]) (st := []) hA si_145_34 ss_135 sk_145_83 (mc_inN X g (by omega) (by omega) (by omega)) (by omega) rfl rfl (Nat.le_of_ble_eq_true rfl) ?_
  refine sr_if_eqN (tgt := 54) hA si_145_37 (by decide) (by omega) (fun c3 => absurd c3 (by omega)) (fun c3 => ?_)
  refine sr_aload_n hA si_145_40 rfl ?_
  refine sr_aload_n hA si_145_41 rfl ?_
  refine sr_iload_n hA si_145_42 rfl ?_
  refine sr_iload_n hA si_145_43 rfl ?_
  refine sr_VFi (c := 64) (ci := 8) (as := [.int (nI r), .int (nI i)]) (st := [.ref 64]) hA si_145_44 sv_143 sk_145_101 (mc_rowAt X g (by omega)) (by omega) rfl (by decide) (by decide) rfl sq_c_143 rfl (Nat.le_of_ble_eq_true rfl) ?_
  refine sr_iconst (v := nI 1) hA si_145_47 (by decide) ?_
  refine sr_VFi (c := 64) (ci := 8) (as := [.int (g.1 67 (40 * r + i)), .int (nI 1)]) (st := []) hA si_145_48 sv_144 sk_145_105 (mc_tells X g (g.1 67 (40 * r + i)) (nI 1)) (by omega) rfl (by decide) (by decide) rfl sq_c_144 rfl (Nat.le_of_ble_eq_true rfl) ?_
  refine sr_goto (tgt := 59) hA si_145_51 (by decide) ?_
  exact sr_iretF hA si_145_59 sq_r_145 rfl rfl
set_option maxRecDepth 20000 in
theorem xc_tear_a (X : sp_X) (g : sp_G) {r : Int32} (hr : r < 0) : sp_Ct X 9 21 [.ref 0, .int r] g (sp_Fi (-1) g) := by
  refine sp_walkN (n := 2) sq_p_21 sq_l_21 (Nat.le_of_ble_eq_true rfl) (fun a hA => ?_)
  show sp_Ev X a 21 0 [.ref 0, .int r] [] g
  refine sr_aload_n hA si_21_0 rfl ?_
  refine sr_getR (r := 1) hA si_21_1 sf_21_14 (by decide) (by decide) rfl rfl rfl ?_
  refine sr_iload_n hA si_21_4 rfl ?_
  refine sr_VFi (c := 1) (ci := 5) (as := [.int r]) (st := []) hA si_21_5 sv_11 sk_21_72 (xc_numRM X g hr) (by omega) rfl (by decide) (by decide) rfl sq_c_11 rfl (Nat.le_of_ble_eq_true rfl) ?_
  refine sr_if_neN (tgt := 13) hA si_21_8 (by decide) (by omega) (fun c1 => absurd c1 (by omega)) (fun c1 => ?_)
  refine sr_iconst (v := (-1)) hA si_21_11 (by decide) ?_
  exact sr_iretF hA si_21_12 sq_r_21 rfl rfl
set_option maxRecDepth 20000 in
theorem xc_tear_b (X : sp_X) (g : sp_G) {r : Nat} (hr : 6 ≤ r) (hrb : r < 2 ^ 31) : sp_Ct X 9 21 [.ref 0, .int (nI r)] g (sp_Fi (-1) g) := by
  refine sp_walkN (n := 2) sq_p_21 sq_l_21 (Nat.le_of_ble_eq_true rfl) (fun a hA => ?_)
  show sp_Ev X a 21 0 [.ref 0, .int (nI r)] [] g
  refine sr_aload_n hA si_21_0 rfl ?_
  refine sr_getR (r := 1) hA si_21_1 sf_21_14 (by decide) (by decide) rfl rfl rfl ?_
  refine sr_iload_n hA si_21_4 rfl ?_
  refine sr_VFi (c := 1) (ci := 5) (as := [.int (nI r)]) (st := []) hA si_21_5 sv_11 sk_21_72 (xc_numRH X g (by omega) (by omega)) (by omega) rfl (by decide) (by decide) rfl sq_c_11 rfl (Nat.le_of_ble_eq_true rfl) ?_
  refine sr_if_neN (tgt := 13) hA si_21_8 (by decide) (by omega) (fun c1 => absurd c1 (by omega)) (fun c1 => ?_)
  refine sr_iconst (v := (-1)) hA si_21_11 (by decide) ?_
  exact sr_iretF hA si_21_12 sq_r_21 rfl rfl
set_option maxRecDepth 20000 in
theorem xc_tear_c (X : sp_X) (g : sp_G) {r : Nat} (hr : r < 6) (hz : g.1 9 r = -1) : sp_Ct X 9 21 [.ref 0, .int (nI r)] g (sp_Fi (-3) (sp_rx g 1)) := by
  refine sp_walkN (n := 2) sq_p_21 sq_l_21 (Nat.le_of_ble_eq_true rfl) (fun a hA => ?_)
  show sp_Ev X a 21 0 [.ref 0, .int (nI r)] [] g
  refine sr_aload_n hA si_21_0 rfl ?_
  refine sr_getR (r := 1) hA si_21_1 sf_21_14 (by decide) (by decide) rfl rfl rfl ?_
  refine sr_iload_n hA si_21_4 rfl ?_
  refine sr_VFi (c := 1) (ci := 5) (as := [.int (nI r)]) (st := []) hA si_21_5 sv_11 sk_21_72 (xc_numR1 X g (by omega)) (by omega) rfl (by decide) (by decide) rfl sq_c_11 rfl (Nat.le_of_ble_eq_true rfl) ?_
  refine sr_if_neN (tgt := 13) hA si_21_8 (by decide) (by omega) (fun c1 => ?_) (fun c1 => absurd c1 (by omega))
  refine sr_aload_n hA si_21_13 rfl ?_
  refine sr_getR (r := 1) hA si_21_14 sf_21_14 (by decide) (by decide) rfl rfl rfl ?_
  refine sr_iload_n hA si_21_17 rfl ?_
  refine sr_VFi (c := 1) (ci := 5) (as := [.int (nI r)]) (st := []) hA si_21_18 sv_16 sk_21_99 (xc_thereR0 X g (by omega) hz) (by omega) rfl (by decide) (by decide) rfl sq_c_16 rfl (Nat.le_of_ble_eq_true rfl) ?_
  refine sr_if_neN (tgt := 30) hA si_21_21 (by decide) (by omega) (fun c2 => absurd c2 (by omega)) (fun c2 => ?_)
  refine sr_aload_n hA si_21_24 rfl ?_
  refine sr_iconst (v := nI 1) hA si_21_25 (by decide) ?_
  refine sr_VFi (c := 0) (ci := 7) (as := [.int (nI 1)]) (st := []) hA si_21_26 sv_12 sk_21_76 (xc_refuse X g (by omega)) (by omega) rfl (by decide) (by decide) rfl sq_c_12 rfl (Nat.le_of_ble_eq_true rfl) ?_
  exact sr_iretF hA si_21_29 sq_r_21 rfl rfl
set_option maxRecDepth 20000 in
theorem xc_tear_d (X : sp_X) (g : sp_G) {r : Nat} (hr : r < 6) {z : Nat} (hz : g.1 9 r = nI z) (hzb : z ≤ 40) : sp_Ct X 9 21 [.ref 0, .int (nI r)] g (sp_Fi (nI 1) (sp_wI g 9 r (-1))) := by
  refine sp_walkN (n := 2) sq_p_21 sq_l_21 (Nat.le_of_ble_eq_true rfl) (fun a hA => ?_)
  show sp_Ev X a 21 0 [.ref 0, .int (nI r)] [] g
  refine sr_aload_n hA si_21_0 rfl ?_
  refine sr_getR (r := 1) hA si_21_1 sf_21_14 (by decide) (by decide) rfl rfl rfl ?_
  refine sr_iload_n hA si_21_4 rfl ?_
  refine sr_VFi (c := 1) (ci := 5) (as := [.int (nI r)]) (st := []) hA si_21_5 sv_11 sk_21_72 (xc_numR1 X g (by omega)) (by omega) rfl (by decide) (by decide) rfl sq_c_11 rfl (Nat.le_of_ble_eq_true rfl) ?_
  refine sr_if_neN (tgt := 13) hA si_21_8 (by decide) (by omega) (fun c1 => ?_) (fun c1 => absurd c1 (by omega))
  refine sr_aload_n hA si_21_13 rfl ?_
  refine sr_getR (r := 1) hA si_21_14 sf_21_14 (by decide) (by decide) rfl rfl rfl ?_
  refine sr_iload_n hA si_21_17 rfl ?_
  refine sr_VFi (c := 1) (ci := 5) (as := [.int (nI r)]) (st := []) hA si_21_18 sv_16 sk_21_99 (xc_thereR1 X g (by omega) hz (by omega)) (by omega) rfl (by decide) (by decide) rfl sq_c_16 rfl (Nat.le_of_ble_eq_true rfl) ?_
  refine sr_if_neN (tgt := 30) hA si_21_21 (by decide) (by omega) (fun c2 => ?_) (fun c2 => absurd c2 (by omega))
  refine sr_aload_n hA si_21_30 rfl ?_
  refine sr_getR (r := 1) hA si_21_31 sf_21_14 (by decide) (by decide) rfl rfl rfl ?_
  refine sr_iload_n hA si_21_34 rfl ?_
  refine sr_VFv (c := 1) (ci := 5) (as := [.int (nI r)]) (st := []) hA si_21_35 sv_22 sk_21_102 (xc_dropR X g (by omega)) (by omega) rfl (by decide) (by decide) rfl sq_c_22 rfl (Nat.le_of_ble_eq_true rfl) ?_
  refine sr_iconst (v := nI 1) hA si_21_38 (by decide) ?_
  exact sr_iretF hA si_21_39 sq_r_21 rfl rfl
set_option maxRecDepth 20000 in
theorem mc_tear_a (X : sp_X) (g : sp_G) {r : Int32} (hr : r < 0) : sp_Ct X 9 146 [.ref 64, .int r] g (sp_Fi (-1) g) := by
  refine sp_walkN (n := 2) sq_p_146 sq_l_146 (Nat.le_of_ble_eq_true rfl) (fun a hA => ?_)
  show sp_Ev X a 146 0 [.ref 64, .int r] [] g
  refine sr_iload_n hA si_146_0 rfl ?_
  refine sr_SFi (as := [.int r]) (st := []) hA si_146_1 ss_140 sk_146_93 (mc_isRowM X g hr) (by omega) rfl rfl (Nat.le_of_ble_eq_true rfl) ?_
  refine sr_if_neN (tgt := 9) hA si_146_4 (by decide) (by omega) (fun c1 => absurd c1 (by omega)) (fun c1 => ?_)
  refine sr_iconst (v := (-1)) hA si_146_7 (by decide) ?_
  exact sr_iretF hA si_146_8 sq_r_146 rfl rfl
set_option maxRecDepth 20000 in
theorem mc_tear_b (X : sp_X) (g : sp_G) {r : Nat} (hr : 6 ≤ r) (hrb : r < 2 ^ 31) : sp_Ct X 9 146 [.ref 64, .int (nI r)] g (sp_Fi (-1) g) := by
  refine sp_walkN (n := 2) sq_p_146 sq_l_146 (Nat.le_of_ble_eq_true rfl) (fun a hA => ?_)
  show sp_Ev X a 146 0 [.ref 64, .int (nI r)] [] g
  refine sr_iload_n hA si_146_0 rfl ?_
  refine sr_SFi (as := [.int (nI r)]) (st := []) hA si_146_1 ss_140 sk_146_93 (mc_isRowH X g (by omega) (by omega)) (by omega) rfl rfl (Nat.le_of_ble_eq_true rfl) ?_
  refine sr_if_neN (tgt := 9) hA si_146_4 (by decide) (by omega) (fun c1 => absurd c1 (by omega)) (fun c1 => ?_)
  refine sr_iconst (v := (-1)) hA si_146_7 (by decide) ?_
  exact sr_iretF hA si_146_8 sq_r_146 rfl rfl
set_option maxRecDepth 20000 in
theorem mc_tear_c (X : sp_X) (g : sp_G) {r : Nat} (hr : r < 6) (hz : g.1 66 r = -1) : sp_Ct X 9 146 [.ref 64, .int (nI r)] g (sp_Fi (-3) (sp_rm6 g 1)) := by
  refine sp_walkN (n := 2) sq_p_146 sq_l_146 (Nat.le_of_ble_eq_true rfl) (fun a hA => ?_)
  show sp_Ev X a 146 0 [.ref 64, .int (nI r)] [] g
  refine sr_iload_n hA si_146_0 rfl ?_
  refine sr_SFi (as := [.int (nI r)]) (st := []) hA si_146_1 ss_140 sk_146_93 (mc_isRow1 X g (by omega)) (by omega) rfl rfl (Nat.le_of_ble_eq_true rfl) ?_
  refine sr_if_neN (tgt := 9) hA si_146_4 (by decide) (by omega) (fun c1 => ?_) (fun c1 => absurd c1 (by omega))
  refine sr_aload_n hA si_146_9 rfl ?_
  refine sr_getR (r := 66) hA si_146_10 sf_146_17 (by decide) (by decide) rfl rfl rfl ?_
  refine sr_iload_n hA si_146_13 rfl ?_
  refine sr_ialdNv (v := (-1)) (n := 6) hA si_146_14 (by decide) rfl rfl (by omega) (by decide) hz ?_
  refine sr_if_ge (tgt := 24) hA si_146_15 (by decide) (fun c2 => absurd c2 (sp_m4 (by decide))) (fun c2 => ?_)
  refine sr_aload_n hA si_146_18 rfl ?_
  refine sr_iconst (v := nI 1) hA si_146_19 (by decide) ?_
  refine sr_VFi (c := 64) (ci := 8) (as := [.int (nI 1)]) (st := []) hA si_146_20 sv_141 sk_146_97 (mc_meets X g (by omega)) (by omega) rfl (by decide) (by decide) rfl sq_c_141 rfl (Nat.le_of_ble_eq_true rfl) ?_
  exact sr_iretF hA si_146_23 sq_r_146 rfl rfl
set_option maxRecDepth 20000 in
theorem mc_tear_d (X : sp_X) (g : sp_G) {r : Nat} (hr : r < 6) {z : Nat} (hz : g.1 66 r = nI z) (hzb : z ≤ 40) : sp_Ct X 9 146 [.ref 64, .int (nI r)] g (sp_Fi (nI 1) (sp_wI g 66 r (-1))) := by
  refine sp_walkN (n := 2) sq_p_146 sq_l_146 (Nat.le_of_ble_eq_true rfl) (fun a hA => ?_)
  show sp_Ev X a 146 0 [.ref 64, .int (nI r)] [] g
  refine sr_iload_n hA si_146_0 rfl ?_
  refine sr_SFi (as := [.int (nI r)]) (st := []) hA si_146_1 ss_140 sk_146_93 (mc_isRow1 X g (by omega)) (by omega) rfl rfl (Nat.le_of_ble_eq_true rfl) ?_
  refine sr_if_neN (tgt := 9) hA si_146_4 (by decide) (by omega) (fun c1 => ?_) (fun c1 => absurd c1 (by omega))
  refine sr_aload_n hA si_146_9 rfl ?_
  refine sr_getR (r := 66) hA si_146_10 sf_146_17 (by decide) (by decide) rfl rfl rfl ?_
  refine sr_iload_n hA si_146_13 rfl ?_
  refine sr_ialdNv (v := nI z) (n := 6) hA si_146_14 (by decide) rfl rfl (by omega) (by decide) hz ?_
  refine sr_if_geN (tgt := 24) hA si_146_15 (by decide) (by omega) ?_
  refine sr_aload_n hA si_146_24 rfl ?_
  refine sr_getR (r := 66) hA si_146_25 sf_146_17 (by decide) (by decide) rfl rfl rfl ?_
  refine sr_iload_n hA si_146_28 rfl ?_
  refine sr_iconst (v := (-1)) hA si_146_29 (by decide) ?_
  refine sr_iastN (n := 6) hA si_146_30 (by decide) rfl rfl (by omega) (by decide) ?_
  refine sr_iconst (v := nI 1) hA si_146_31 (by decide) ?_
  exact sr_iretF hA si_146_32 sq_r_146 rfl rfl
set_option maxRecDepth 20000 in
theorem xc_mean_a (X : sp_X) (g : sp_G) {r : Int32} (hr : r < 0) : sp_Ct X 9 25 [.ref 0, .int r] g (sp_Fi (-1) g) := by
  refine sp_walkN (n := 6) sq_p_25 sq_l_25 (Nat.le_of_ble_eq_true rfl) (fun a hA => ?_)
  show sp_Ev X a 25 0 [.ref 0, .int r, .null, .null, .null, .null] [] g
  refine sr_aload_n hA si_25_0 rfl ?_
  refine sr_getR (r := 1) hA si_25_1 sf_25_14 (by decide) (by decide) rfl rfl rfl ?_
  refine sr_iload_n hA si_25_4 rfl ?_
  refine sr_VFi (c := 1) (ci := 5) (as := [.int r]) (st := []) hA si_25_5 sv_11 sk_25_72 (xc_numRM X g hr) (by omega) rfl (by decide) (by decide) rfl sq_c_11 rfl (Nat.le_of_ble_eq_true rfl) ?_
  refine sr_if_neN (tgt := 13) hA si_25_8 (by decide) (by omega) (fun c1 => absurd c1 (by omega)) (fun c1 => ?_)
  refine sr_iconst (v := (-1)) hA si_25_11 (by decide) ?_
  exact sr_iretF hA si_25_12 sq_r_25 rfl rfl
set_option maxRecDepth 20000 in
theorem xc_mean_b (X : sp_X) (g : sp_G) {r : Nat} (hr : 6 ≤ r) (hrb : r < 2 ^ 31) : sp_Ct X 9 25 [.ref 0, .int (nI r)] g (sp_Fi (-1) g) := by
  refine sp_walkN (n := 6) sq_p_25 sq_l_25 (Nat.le_of_ble_eq_true rfl) (fun a hA => ?_)
  show sp_Ev X a 25 0 [.ref 0, .int (nI r), .null, .null, .null, .null] [] g
  refine sr_aload_n hA si_25_0 rfl ?_
  refine sr_getR (r := 1) hA si_25_1 sf_25_14 (by decide) (by decide) rfl rfl rfl ?_
  refine sr_iload_n hA si_25_4 rfl ?_
  refine sr_VFi (c := 1) (ci := 5) (as := [.int (nI r)]) (st := []) hA si_25_5 sv_11 sk_25_72 (xc_numRH X g (by omega) (by omega)) (by omega) rfl (by decide) (by decide) rfl sq_c_11 rfl (Nat.le_of_ble_eq_true rfl) ?_
  refine sr_if_neN (tgt := 13) hA si_25_8 (by decide) (by omega) (fun c1 => absurd c1 (by omega)) (fun c1 => ?_)
  refine sr_iconst (v := (-1)) hA si_25_11 (by decide) ?_
  exact sr_iretF hA si_25_12 sq_r_25 rfl rfl
set_option maxRecDepth 20000 in
theorem xc_mean_c (X : sp_X) (g : sp_G) {r : Nat} (hr : r < 6) (hz : g.1 9 r = -1) : sp_Ct X 9 25 [.ref 0, .int (nI r)] g (sp_Fi (-3) (sp_rx g 1)) := by
  refine sp_walkN (n := 6) sq_p_25 sq_l_25 (Nat.le_of_ble_eq_true rfl) (fun a hA => ?_)
  show sp_Ev X a 25 0 [.ref 0, .int (nI r), .null, .null, .null, .null] [] g
  refine sr_aload_n hA si_25_0 rfl ?_
  refine sr_getR (r := 1) hA si_25_1 sf_25_14 (by decide) (by decide) rfl rfl rfl ?_
  refine sr_iload_n hA si_25_4 rfl ?_
  refine sr_VFi (c := 1) (ci := 5) (as := [.int (nI r)]) (st := []) hA si_25_5 sv_11 sk_25_72 (xc_numR1 X g (by omega)) (by omega) rfl (by decide) (by decide) rfl sq_c_11 rfl (Nat.le_of_ble_eq_true rfl) ?_
  refine sr_if_neN (tgt := 13) hA si_25_8 (by decide) (by omega) (fun c1 => ?_) (fun c1 => absurd c1 (by omega))
  refine sr_aload_n hA si_25_13 rfl ?_
  refine sr_getR (r := 1) hA si_25_14 sf_25_14 (by decide) (by decide) rfl rfl rfl ?_
  refine sr_iload_n hA si_25_17 rfl ?_
  refine sr_VFi (c := 1) (ci := 5) (as := [.int (nI r)]) (st := []) hA si_25_18 sv_16 sk_25_99 (xc_thereR0 X g (by omega) hz) (by omega) rfl (by decide) (by decide) rfl sq_c_16 rfl (Nat.le_of_ble_eq_true rfl) ?_
  refine sr_if_neN (tgt := 30) hA si_25_21 (by decide) (by omega) (fun c2 => absurd c2 (by omega)) (fun c2 => ?_)
  refine sr_aload_n hA si_25_24 rfl ?_
  refine sr_iconst (v := nI 1) hA si_25_25 (by decide) ?_
  refine sr_VFi (c := 0) (ci := 7) (as := [.int (nI 1)]) (st := []) hA si_25_26 sv_12 sk_25_76 (xc_refuse X g (by omega)) (by omega) rfl (by decide) (by decide) rfl sq_c_12 rfl (Nat.le_of_ble_eq_true rfl) ?_
  exact sr_iretF hA si_25_29 sq_r_25 rfl rfl
set_option maxRecDepth 20000 in
theorem xc_mean_d (X : sp_X) (g : sp_G) {r : Nat} (hr : r < 6) (hz : g.1 9 r = nI 0) : sp_Ct X 9 25 [.ref 0, .int (nI r)] g (sp_Fi (-3) (sp_rx g 4)) := by
  refine sp_walkN (n := 6) sq_p_25 sq_l_25 (Nat.le_of_ble_eq_true rfl) (fun a hA => ?_)
  show sp_Ev X a 25 0 [.ref 0, .int (nI r), .null, .null, .null, .null] [] g
  refine sr_aload_n hA si_25_0 rfl ?_
  refine sr_getR (r := 1) hA si_25_1 sf_25_14 (by decide) (by decide) rfl rfl rfl ?_
  refine sr_iload_n hA si_25_4 rfl ?_
  refine sr_VFi (c := 1) (ci := 5) (as := [.int (nI r)]) (st := []) hA si_25_5 sv_11 sk_25_72 (xc_numR1 X g (by omega)) (by omega) rfl (by decide) (by decide) rfl sq_c_11 rfl (Nat.le_of_ble_eq_true rfl) ?_
  refine sr_if_neN (tgt := 13) hA si_25_8 (by decide) (by omega) (fun c1 => ?_) (fun c1 => absurd c1 (by omega))
  refine sr_aload_n hA si_25_13 rfl ?_
  refine sr_getR (r := 1) hA si_25_14 sf_25_14 (by decide) (by decide) rfl rfl rfl ?_
  refine sr_iload_n hA si_25_17 rfl ?_
  refine sr_VFi (c := 1) (ci := 5) (as := [.int (nI r)]) (st := []) hA si_25_18 sv_16 sk_25_99 (xc_thereR1 X g (by omega) hz (by omega)) (by omega) rfl (by decide) (by decide) rfl sq_c_16 rfl (Nat.le_of_ble_eq_true rfl) ?_
  refine sr_if_neN (tgt := 30) hA si_25_21 (by decide) (by omega) (fun c2 => ?_) (fun c2 => absurd c2 (by omega))
  refine sr_aload_n hA si_25_30 rfl ?_
  refine sr_getR (r := 1) hA si_25_31 sf_25_14 (by decide) (by decide) rfl rfl rfl ?_
  refine sr_iload_n hA si_25_34 rfl ?_
  refine sr_VFi (c := 1) (ci := 5) (as := [.int (nI r)]) (st := []) hA si_25_35 sv_26 sk_25_114 (xc_sizeR X g (by omega) hz) (by omega) rfl (by decide) (by decide) rfl sq_c_26 rfl (Nat.le_of_ble_eq_true rfl) ?_
  refine sr_istore_n (ls1 := [.ref 0, .int (nI r), .int (nI 0), .null, .null, .null]) hA si_25_38 rfl (by rw [sq_l_25]; decide) rfl ?_
  refine sr_iload_n hA si_25_39 rfl ?_
  refine sr_if_gtN (tgt := 49) hA si_25_40 (by decide) (by omega) (fun c3 => absurd c3 (by omega)) (fun c3 => ?_)
  refine sr_aload_n hA si_25_43 rfl ?_
  refine sr_iconst (v := nI 4) hA si_25_44 (by decide) ?_
  refine sr_VFi (c := 0) (ci := 7) (as := [.int (nI 4)]) (st := []) hA si_25_45 sv_12 sk_25_76 (xc_refuse X g (by omega)) (by omega) rfl (by decide) (by decide) rfl sq_c_12 rfl (Nat.le_of_ble_eq_true rfl) ?_
  exact sr_iretF hA si_25_48 sq_r_25 rfl rfl
set_option maxRecDepth 20000 in
theorem mc_mean_a (X : sp_X) (g : sp_G) {r : Int32} (hr : r < 0) : sp_Ct X 9 148 [.ref 64, .int r] g (sp_Fi (-1) g) := by
  refine sp_walkN (n := 5) sq_p_148 sq_l_148 (Nat.le_of_ble_eq_true rfl) (fun a hA => ?_)
  show sp_Ev X a 148 0 [.ref 64, .int r, .null, .null, .null] [] g
  refine sr_iload_n hA si_148_0 rfl ?_
  refine sr_SFi (as := [.int r]) (st := []) hA si_148_1 ss_140 sk_148_93 (mc_isRowM X g hr) (by omega) rfl rfl (Nat.le_of_ble_eq_true rfl) ?_
  refine sr_if_neN (tgt := 9) hA si_148_4 (by decide) (by omega) (fun c1 => absurd c1 (by omega)) (fun c1 => ?_)
  refine sr_iconst (v := (-1)) hA si_148_7 (by decide) ?_
  exact sr_iretF hA si_148_8 sq_r_148 rfl rfl
set_option maxRecDepth 20000 in
theorem mc_mean_b (X : sp_X) (g : sp_G) {r : Nat} (hr : 6 ≤ r) (hrb : r < 2 ^ 31) : sp_Ct X 9 148 [.ref 64, .int (nI r)] g (sp_Fi (-1) g) := by
  refine sp_walkN (n := 5) sq_p_148 sq_l_148 (Nat.le_of_ble_eq_true rfl) (fun a hA => ?_)
  show sp_Ev X a 148 0 [.ref 64, .int (nI r), .null, .null, .null] [] g
  refine sr_iload_n hA si_148_0 rfl ?_
  refine sr_SFi (as := [.int (nI r)]) (st := []) hA si_148_1 ss_140 sk_148_93 (mc_isRowH X g (by omega) (by omega)) (by omega) rfl rfl (Nat.le_of_ble_eq_true rfl) ?_
  refine sr_if_neN (tgt := 9) hA si_148_4 (by decide) (by omega) (fun c1 => absurd c1 (by omega)) (fun c1 => ?_)
  refine sr_iconst (v := (-1)) hA si_148_7 (by decide) ?_
  exact sr_iretF hA si_148_8 sq_r_148 rfl rfl
set_option maxRecDepth 20000 in
theorem mc_mean_c (X : sp_X) (g : sp_G) {r : Nat} (hr : r < 6) (hz : g.1 66 r = -1) : sp_Ct X 9 148 [.ref 64, .int (nI r)] g (sp_Fi (-3) (sp_rm6 g 1)) := by
  refine sp_walkN (n := 5) sq_p_148 sq_l_148 (Nat.le_of_ble_eq_true rfl) (fun a hA => ?_)
  show sp_Ev X a 148 0 [.ref 64, .int (nI r), .null, .null, .null] [] g
  refine sr_iload_n hA si_148_0 rfl ?_
  refine sr_SFi (as := [.int (nI r)]) (st := []) hA si_148_1 ss_140 sk_148_93 (mc_isRow1 X g (by omega)) (by omega) rfl rfl (Nat.le_of_ble_eq_true rfl) ?_
  refine sr_if_neN (tgt := 9) hA si_148_4 (by decide) (by omega) (fun c1 => ?_) (fun c1 => absurd c1 (by omega))
  refine sr_aload_n hA si_148_9 rfl ?_
  refine sr_getR (r := 66) hA si_148_10 sf_148_17 (by decide) (by decide) rfl rfl rfl ?_
  refine sr_iload_n hA si_148_13 rfl ?_
  refine sr_ialdNv (v := (-1)) (n := 6) hA si_148_14 (by decide) rfl rfl (by omega) (by decide) hz ?_
  refine sr_if_ge (tgt := 24) hA si_148_15 (by decide) (fun c2 => absurd c2 (sp_m4 (by decide))) (fun c2 => ?_)
  refine sr_aload_n hA si_148_18 rfl ?_
  refine sr_iconst (v := nI 1) hA si_148_19 (by decide) ?_
  refine sr_VFi (c := 64) (ci := 8) (as := [.int (nI 1)]) (st := []) hA si_148_20 sv_141 sk_148_97 (mc_meets X g (by omega)) (by omega) rfl (by decide) (by decide) rfl sq_c_141 rfl (Nat.le_of_ble_eq_true rfl) ?_
  exact sr_iretF hA si_148_23 sq_r_148 rfl rfl
set_option maxRecDepth 20000 in
theorem mc_mean_d (X : sp_X) (g : sp_G) {r : Nat} (hr : r < 6) (hz : g.1 66 r = nI 0) : sp_Ct X 9 148 [.ref 64, .int (nI r)] g (sp_Fi (-3) (sp_rm6 g 4)) := by
  refine sp_walkN (n := 5) sq_p_148 sq_l_148 (Nat.le_of_ble_eq_true rfl) (fun a hA => ?_)
  show sp_Ev X a 148 0 [.ref 64, .int (nI r), .null, .null, .null] [] g
  refine sr_iload_n hA si_148_0 rfl ?_
  refine sr_SFi (as := [.int (nI r)]) (st := []) hA si_148_1 ss_140 sk_148_93 (mc_isRow1 X g (by omega)) (by omega) rfl rfl (Nat.le_of_ble_eq_true rfl) ?_
  refine sr_if_neN (tgt := 9) hA si_148_4 (by decide) (by omega) (fun c1 => ?_) (fun c1 => absurd c1 (by omega))
  refine sr_aload_n hA si_148_9 rfl ?_
  refine sr_getR (r := 66) hA si_148_10 sf_148_17 (by decide) (by decide) rfl rfl rfl ?_
  refine sr_iload_n hA si_148_13 rfl ?_
  refine sr_ialdNv (v := nI 0) (n := 6) hA si_148_14 (by decide) rfl rfl (by omega) (by decide) hz ?_
  refine sr_if_geN (tgt := 24) hA si_148_15 (by decide) (by omega) ?_
  refine sr_aload_n hA si_148_24 rfl ?_
  refine sr_getR (r := 66) hA si_148_25 sf_148_17 (by decide) (by decide) rfl rfl rfl ?_
  refine sr_iload_n hA si_148_28 rfl ?_
  refine sr_ialdNv (v := nI 0) (n := 6) hA si_148_29 (by decide) rfl rfl (by omega) (by decide) hz ?_
  refine sr_if_neN (tgt := 39) hA si_148_30 (by decide) (by omega) (fun c3 => absurd c3 (by omega)) (fun c3 => ?_)
  refine sr_aload_n hA si_148_33 rfl ?_
  refine sr_iconst (v := nI 4) hA si_148_34 (by decide) ?_
  refine sr_VFi (c := 64) (ci := 8) (as := [.int (nI 4)]) (st := []) hA si_148_35 sv_141 sk_148_97 (mc_meets X g (by omega)) (by omega) rfl (by decide) (by decide) rfl sq_c_141 rfl (Nat.le_of_ble_eq_true rfl) ?_
  exact sr_iretF hA si_148_38 sq_r_148 rfl rfl
set_option maxRecDepth 20000 in
theorem xl_mean {X : sp_X} {a : sp_Ac} {g : sp_G} {r z : Nat} (hr : r < 6) (hz : g.1 9 r = nI z) (hz0 : 0 < z) (hzb : z ≤ 40) (hA : sp_Act X 25 9 (sp_Fi (nI 1) (sp_wI g 0 12 ((sp_sum (fun i => g.1 (3 + r) i) z / (nI z).toInt64).toInt32))) a) : ∀ (m : Nat) (i : Nat), i + m = z → sp_Ev X a 25 54 [.ref 0, .int (nI r), .int (nI z), .long (sp_sum (fun i => g.1 (3 + r) i) i), .null, .int (nI i)] [] g := by
  intro m
  induction m with
  | zero =>
    intro i h0_
    refine sr_iload hA si_25_54 rfl ?_
    refine sr_iload_n hA si_25_56 rfl ?_
    refine sr_icmp_geN (tgt := 80) hA si_25_57 (by decide) (by omega) (by omega) (fun c1 => ?_) (fun c1 => absurd c1 (by omega))
    refine sr_aload_n hA si_25_80 rfl ?_
    refine sr_lload_n hA si_25_81 rfl ?_
    refine sr_iload_n hA si_25_82 rfl ?_
    refine sr_i2l hA si_25_83 ?_
    refine sr_ldiv hA si_25_84 (sp_l0 hz0 (by omega)) ?_
    refine sr_l2i hA si_25_85 ?_
    refine sr_putI hA si_25_86 sf_25_92 rfl rfl (by decide) (by decide) rfl rfl ?_
    refine sr_iconst (v := nI 1) hA si_25_89 (by decide) ?_
    exact sr_iretF hA si_25_90 sq_r_25 rfl (by rw [show i = z by omega])
  | succ m ih =>
    intro i h0_
    refine sr_iload hA si_25_54 rfl ?_
    refine sr_iload_n hA si_25_56 rfl ?_
    refine sr_icmp_geN (tgt := 80) hA si_25_57 (by decide) (by omega) (by omega) (fun c1 => absurd c1 (by omega)) (fun c1 => ?_)
    refine sr_lload_n hA si_25_60 rfl ?_
    refine sr_aload_n hA si_25_61 rfl ?_
    refine sr_getR (r := 1) hA si_25_62 sf_25_14 (by decide) (by decide) rfl rfl rfl ?_
    refine sr_iload_n hA si_25_65 rfl ?_
    refine sr_iload hA si_25_66 rfl ?_
    refine sr_VFi (c := 1) (ci := 5) (as := [.int (nI r), .int (nI i)]) (st := [.long (sp_sum (fun i => g.1 (3 + r) i) i)]) hA si_25_68 sv_18 sk_25_88 (xc_getR X g (by omega) (by omega) rfl) (by omega) rfl (by decide) (by decide) rfl sq_c_18 rfl (Nat.le_of_ble_eq_true rfl) ?_
    refine sr_i2l hA si_25_71 ?_
    refine sr_ladd hA si_25_72 ?_
    refine sr_lstore_n (ls1 := [.ref 0, .int (nI r), .int (nI z), .long ((sp_sum (fun i => g.1 (3 + r) i) i) + ((g.1 (3 + r) i).toInt64)), .null, .int (nI i)]) hA si_25_73 rfl (by rw [sq_l_25]; decide) rfl ?_
    refine sr_iincN (x := i) (y := 1) (ls1 := [.ref 0, .int (nI r), .int (nI z), .long ((sp_sum (fun i => g.1 (3 + r) i) i) + ((g.1 (3 + r) i).toInt64)), .null, .int (nI (i + 1))]) hA si_25_74 rfl rfl (by rw [sq_l_25]; decide) rfl ?_
    refine sr_goto (tgt := 54) hA si_25_77 (by decide) ?_
    exact ih (i + 1) (by omega)
set_option maxRecDepth 20000 in
theorem xc_mean_e (X : sp_X) (g : sp_G) {r : Nat} (hr : r < 6) {z : Nat} (hz : g.1 9 r = nI z) (hzb : z ≤ 40) (hz0 : 0 < z) : sp_Ct X 9 25 [.ref 0, .int (nI r)] g (sp_Fi (nI 1) (sp_wI g 0 12 ((sp_sum (fun i => g.1 (3 + r) i) z / (nI z).toInt64).toInt32))) := by
  refine sp_walkN (n := 6) sq_p_25 sq_l_25 (Nat.le_of_ble_eq_true rfl) (fun a hA => ?_)
  show sp_Ev X a 25 0 [.ref 0, .int (nI r), .null, .null, .null, .null] [] g
  refine sr_aload_n hA si_25_0 rfl ?_
  refine sr_getR (r := 1) hA si_25_1 sf_25_14 (by decide) (by decide) rfl rfl rfl ?_
  refine sr_iload_n hA si_25_4 rfl ?_
  refine sr_VFi (c := 1) (ci := 5) (as := [.int (nI r)]) (st := []) hA si_25_5 sv_11 sk_25_72 (xc_numR1 X g (by omega)) (by omega) rfl (by decide) (by decide) rfl sq_c_11 rfl (Nat.le_of_ble_eq_true rfl) ?_
  refine sr_if_neN (tgt := 13) hA si_25_8 (by decide) (by omega) (fun c1 => ?_) (fun c1 => absurd c1 (by omega))
  refine sr_aload_n hA si_25_13 rfl ?_
  refine sr_getR (r := 1) hA si_25_14 sf_25_14 (by decide) (by decide) rfl rfl rfl ?_
  refine sr_iload_n hA si_25_17 rfl ?_
  refine sr_VFi (c := 1) (ci := 5) (as := [.int (nI r)]) (st := []) hA si_25_18 sv_16 sk_25_99 (xc_thereR1 X g (by omega) hz (by omega)) (by omega) rfl (by decide) (by decide) rfl sq_c_16 rfl (Nat.le_of_ble_eq_true rfl) ?_
  refine sr_if_neN (tgt := 30) hA si_25_21 (by decide) (by omega) (fun c2 => ?_) (fun c2 => absurd c2 (by omega))
  refine sr_aload_n hA si_25_30 rfl ?_
  refine sr_getR (r := 1) hA si_25_31 sf_25_14 (by decide) (by decide) rfl rfl rfl ?_
  refine sr_iload_n hA si_25_34 rfl ?_
  refine sr_VFi (c := 1) (ci := 5) (as := [.int (nI r)]) (st := []) hA si_25_35 sv_26 sk_25_114 (xc_sizeR X g (by omega) hz) (by omega) rfl (by decide) (by decide) rfl sq_c_26 rfl (Nat.le_of_ble_eq_true rfl) ?_
  refine sr_istore_n (ls1 := [.ref 0, .int (nI r), .int (nI z), .null, .null, .null]) hA si_25_38 rfl (by rw [sq_l_25]; decide) rfl ?_
  refine sr_iload_n hA si_25_39 rfl ?_
  refine sr_if_gtN (tgt := 49) hA si_25_40 (by decide) (by omega) (fun c3 => ?_) (fun c3 => absurd c3 (by omega))
  refine sr_lconst (v := 0) hA si_25_49 rfl ?_
  refine sr_lstore_n (ls1 := [.ref 0, .int (nI r), .int (nI z), .long 0, .null, .null]) hA si_25_50 rfl (by rw [sq_l_25]; decide) rfl ?_
  refine sr_iconst (v := nI 0) hA si_25_51 (by decide) ?_
  refine sr_istore (ls1 := [.ref 0, .int (nI r), .int (nI z), .long 0, .null, .int (nI 0)]) hA si_25_52 (by rw [sq_l_25]; decide) rfl ?_
  exact xl_mean hr hz hz0 hzb hA z 0 (by omega)
set_option maxRecDepth 20000 in
theorem ml_mean {X : sp_X} {a : sp_Ac} {g : sp_G} {r z : Nat} (hr : r < 6) (hz : g.1 66 r = nI z) (hz0 : 0 < z) (hzb : z ≤ 40) (hA : sp_Act X 148 9 (sp_Fi (nI 1) (sp_wI g 64 2 ((sp_sum (fun i => g.1 67 (40 * r + i)) z / (nI z).toInt64).toInt32))) a) : ∀ (m : Nat) (i : Nat), i + m = z → sp_Ev X a 148 44 [.ref 64, .int (nI r), .long (sp_sum (fun i => g.1 67 (40 * r + i)) i), .null, .int (nI i)] [] g := by
  intro m
  induction m with
  | zero =>
    intro i h0_
    refine sr_iload hA si_148_44 rfl ?_
    refine sr_aload_n hA si_148_46 rfl ?_
    refine sr_getR (r := 66) hA si_148_47 sf_148_17 (by decide) (by decide) rfl rfl rfl ?_
    refine sr_iload_n hA si_148_50 rfl ?_
    refine sr_ialdNv (v := nI z) (n := 6) hA si_148_51 (by decide) rfl rfl (by omega) (by decide) hz ?_
    refine sr_icmp_geN (tgt := 72) hA si_148_52 (by decide) (by omega) (by omega) (fun c1 => ?_) (fun c1 => absurd c1 (by omega))
    refine sr_aload_n hA si_148_72 rfl ?_
    refine sr_lload_n hA si_148_73 rfl ?_
    refine sr_aload_n hA si_148_74 rfl ?_
    refine sr_getR (r := 66) hA si_148_75 sf_148_17 (by decide) (by decide) rfl rfl rfl ?_
    refine sr_iload_n hA si_148_78 rfl ?_
    refine sr_ialdNv (v := nI z) (n := 6) hA si_148_79 (by decide) rfl rfl (by omega) (by decide) hz ?_
    refine sr_i2l hA si_148_80 ?_
    refine sr_ldiv hA si_148_81 (sp_l0 hz0 (by omega)) ?_
    refine sr_l2i hA si_148_82 ?_
    refine sr_iconst (v := nI 1) hA si_148_83 (by decide) ?_
    refine sr_VFi (c := 64) (ci := 8) (as := [.int (((sp_sum (fun i => g.1 67 (40 * r + i)) i) / ((nI z).toInt64)).toInt32), .int (nI 1)]) (st := []) hA si_148_84 sv_144 sk_148_105 (mc_tells X g (((sp_sum (fun i => g.1 67 (40 * r + i)) i) / ((nI z).toInt64)).toInt32) (nI 1)) (by omega) rfl (by decide) (by decide) rfl sq_c_144 rfl (Nat.le_of_ble_eq_true rfl) ?_
    exact sr_iretF hA si_148_87 sq_r_148 rfl (by rw [show i = z by omega])
  | succ m ih =>
    intro i h0_
    refine sr_iload hA si_148_44 rfl ?_
    refine sr_aload_n hA si_148_46 rfl ?_
    refine sr_getR (r := 66) hA si_148_47 sf_148_17 (by decide) (by decide) rfl rfl rfl ?_
    refine sr_iload_n hA si_148_50 rfl ?_
    refine sr_ialdNv (v := nI z) (n := 6) hA si_148_51 (by decide) rfl rfl (by omega) (by decide) hz ?_
    refine sr_icmp_geN (tgt := 72) hA si_148_52 (by decide) (by omega) (by omega) (fun c1 => absurd c1 (by omega)) (fun c1 => ?_)
    refine sr_lload_n hA si_148_55 rfl ?_
    refine sr_aload_n hA si_148_56 rfl ?_
    refine sr_iload_n hA si_148_57 rfl ?_
    refine sr_iload hA si_148_58 rfl ?_
    refine sr_VFi (c := 64) (ci := 8) (as := [.int (nI r), .int (nI i)]) (st := [.long (sp_sum (fun i => g.1 67 (40 * r + i)) i)]) hA si_148_60 sv_143 sk_148_101 (mc_rowAt X g (by omega)) (by omega) rfl (by decide) (by decide) rfl sq_c_143 rfl (Nat.le_of_ble_eq_true rfl) ?_
    refine sr_i2l hA si_148_63 ?_
    refine sr_ladd hA si_148_64 ?_
    refine sr_lstore_n (ls1 := [.ref 64, .int (nI r), .long ((sp_sum (fun i => g.1 67 (40 * r + i)) i) + ((g.1 67 (40 * r + i)).toInt64)), .null, .int (nI i)]) hA si_148_65 rfl (by rw [sq_l_148]; decide) rfl ?_
    refine sr_iincN (x := i) (y := 1) (ls1 := [.ref 64, .int (nI r), .long ((sp_sum (fun i => g.1 67 (40 * r + i)) i) + ((g.1 67 (40 * r + i)).toInt64)), .null, .int (nI (i + 1))]) hA si_148_66 rfl rfl (by rw [sq_l_148]; decide) rfl ?_
    refine sr_goto (tgt := 44) hA si_148_69 (by decide) ?_
    exact ih (i + 1) (by omega)
set_option maxRecDepth 20000 in
theorem mc_mean_e (X : sp_X) (g : sp_G) {r : Nat} (hr : r < 6) {z : Nat} (hz : g.1 66 r = nI z) (hzb : z ≤ 40) (hz0 : 0 < z) : sp_Ct X 9 148 [.ref 64, .int (nI r)] g (sp_Fi (nI 1) (sp_wI g 64 2 ((sp_sum (fun i => g.1 67 (40 * r + i)) z / (nI z).toInt64).toInt32))) := by
  refine sp_walkN (n := 5) sq_p_148 sq_l_148 (Nat.le_of_ble_eq_true rfl) (fun a hA => ?_)
  show sp_Ev X a 148 0 [.ref 64, .int (nI r), .null, .null, .null] [] g
  refine sr_iload_n hA si_148_0 rfl ?_
  refine sr_SFi (as := [.int (nI r)]) (st := []) hA si_148_1 ss_140 sk_148_93 (mc_isRow1 X g (by omega)) (by omega) rfl rfl (Nat.le_of_ble_eq_true rfl) ?_
  refine sr_if_neN (tgt := 9) hA si_148_4 (by decide) (by omega) (fun c1 => ?_) (fun c1 => absurd c1 (by omega))
  refine sr_aload_n hA si_148_9 rfl ?_
  refine sr_getR (r := 66) hA si_148_10 sf_148_17 (by decide) (by decide) rfl rfl rfl ?_
  refine sr_iload_n hA si_148_13 rfl ?_
  refine sr_ialdNv (v := nI z) (n := 6) hA si_148_14 (by decide) rfl rfl (by omega) (by decide) hz ?_
  refine sr_if_geN (tgt := 24) hA si_148_15 (by decide) (by omega) ?_
  refine sr_aload_n hA si_148_24 rfl ?_
  refine sr_getR (r := 66) hA si_148_25 sf_148_17 (by decide) (by decide) rfl rfl rfl ?_
  refine sr_iload_n hA si_148_28 rfl ?_
  refine sr_ialdNv (v := nI z) (n := 6) hA si_148_29 (by decide) rfl rfl (by omega) (by decide) hz ?_
  refine sr_if_neN (tgt := 39) hA si_148_30 (by decide) (by omega) (fun c3 => ?_) (fun c3 => absurd c3 (by omega))
  refine sr_lconst (v := 0) hA si_148_39 rfl ?_
  refine sr_lstore_n (ls1 := [.ref 64, .int (nI r), .long 0, .null, .null]) hA si_148_40 rfl (by rw [sq_l_148]; decide) rfl ?_
  refine sr_iconst (v := nI 0) hA si_148_41 (by decide) ?_
  refine sr_istore (ls1 := [.ref 64, .int (nI r), .long 0, .null, .int (nI 0)]) hA si_148_42 (by rw [sq_l_148]; decide) rfl ?_
  exact ml_mean hr hz hz0 hzb hA z 0 (by omega)
set_option maxRecDepth 20000 in
theorem xc_move (X : sp_X) (g : sp_G) {r i t j n : Nat} (hr : r < 6) (ht : t < 6) (h1 : i + n ≤ 40) (h2 : j + n ≤ 40) : sp_Ct X 1 24 [.ref 1, .int (nI r), .int (nI i), .int (nI t), .int (nI j), .int (nI n)] g (sp_Fv (sp_wA g (3 + t) (va_cpy (g.1 (3 + r)) (g.1 (3 + t)) i j n))) := by
  refine sp_walkN (n := 6) sq_p_24 sq_l_24 (Nat.le_of_ble_eq_true rfl) (fun a hA => ?_)
  show sp_Ev X a 24 0 [.ref 1, .int (nI r), .int (nI i), .int (nI t), .int (nI j), .int (nI n)] [] g
  refine sr_aload_n hA si_24_0 rfl ?_
  refine sr_getR (r := 2) hA si_24_1 sf_24_9 (by decide) (by decide) rfl rfl rfl ?_
  refine sr_iload_n hA si_24_4 rfl ?_
  refine sr_aaldN (r := (3 + r)) (n := 6) hA si_24_5 (by decide) (by decide) rfl (by omega) (by decide) (sp_rwr (by omega)) ?_
  refine sr_iload_n hA si_24_6 rfl ?_
  refine sr_aload_n hA si_24_7 rfl ?_
  refine sr_getR (r := 2) hA si_24_8 sf_24_9 (by decide) (by decide) rfl rfl rfl ?_
  refine sr_iload_n hA si_24_11 rfl ?_
  refine sr_aaldN (r := (3 + t)) (n := 6) hA si_24_12 (by decide) (by decide) rfl (by omega) (by decide) (sp_rwr (by omega)) ?_
  refine sr_iload hA si_24_13 rfl ?_
  refine sr_iload hA si_24_15 rfl ?_
  refine sr_copyN (n0 := 40) (n1 := 40) hA si_24_17 sk_24_24 sn_1 sn_2 sn_3 (by omega) (sp_rwK (by omega)) (sp_rwK (by omega)) (sp_rwk (by omega)) (sp_rwk (by omega)) (sp_rwl (by omega)) (sp_rwl (by omega)) (by omega) (by omega) (by decide) (by decide) (Nat.le_of_ble_eq_true rfl) ?_
  exact sr_vretF hA si_24_20 sq_r_24 rfl
set_option maxRecDepth 20000 in
theorem xc_copy_a (X : sp_X) (g : sp_G) {r : Int32} (hr : r < 0) (i : Int32) (t : Int32) (j : Int32) (q : Int32) : sp_Ct X 9 23 [.ref 0, .int r, .int i, .int t, .int j, .int q] g (sp_Fi (-1) g) := by
  refine sp_walkN (n := 6) sq_p_23 sq_l_23 (Nat.le_of_ble_eq_true rfl) (fun a hA => ?_)
  show sp_Ev X a 23 0 [.ref 0, .int r, .int i, .int t, .int j, .int q] [] g
  refine sr_aload_n hA si_23_0 rfl ?_
  refine sr_getR (r := 1) hA si_23_1 sf_23_14 (by decide) (by decide) rfl rfl rfl ?_
  refine sr_iload_n hA si_23_4 rfl ?_
  refine sr_VFi (c := 1) (ci := 5) (as := [.int r]) (st := []) hA si_23_5 sv_11 sk_23_72 (xc_numRM X g hr) (by omega) rfl (by decide) (by decide) rfl sq_c_11 rfl (Nat.le_of_ble_eq_true rfl) ?_
  refine sr_if_eqN (tgt := 22) hA si_23_8 (by decide) (by omega) (fun c1 => ?_) (fun c1 => absurd c1 (by omega))
  refine sr_iconst (v := (-1)) hA si_23_22 (by decide) ?_
  exact sr_iretF hA si_23_23 sq_r_23 rfl rfl
set_option maxRecDepth 20000 in
theorem xc_copy_b (X : sp_X) (g : sp_G) {r : Nat} (hr : 6 ≤ r) (hrb : r < 2 ^ 31) (i : Int32) (t : Int32) (j : Int32) (q : Int32) : sp_Ct X 9 23 [.ref 0, .int (nI r), .int i, .int t, .int j, .int q] g (sp_Fi (-1) g) := by
  refine sp_walkN (n := 6) sq_p_23 sq_l_23 (Nat.le_of_ble_eq_true rfl) (fun a hA => ?_)
  show sp_Ev X a 23 0 [.ref 0, .int (nI r), .int i, .int t, .int j, .int q] [] g
  refine sr_aload_n hA si_23_0 rfl ?_
  refine sr_getR (r := 1) hA si_23_1 sf_23_14 (by decide) (by decide) rfl rfl rfl ?_
  refine sr_iload_n hA si_23_4 rfl ?_
  refine sr_VFi (c := 1) (ci := 5) (as := [.int (nI r)]) (st := []) hA si_23_5 sv_11 sk_23_72 (xc_numRH X g (by omega) (by omega)) (by omega) rfl (by decide) (by decide) rfl sq_c_11 rfl (Nat.le_of_ble_eq_true rfl) ?_
  refine sr_if_eqN (tgt := 22) hA si_23_8 (by decide) (by omega) (fun c1 => ?_) (fun c1 => absurd c1 (by omega))
  refine sr_iconst (v := (-1)) hA si_23_22 (by decide) ?_
  exact sr_iretF hA si_23_23 sq_r_23 rfl rfl
set_option maxRecDepth 20000 in
theorem xc_copy_c (X : sp_X) (g : sp_G) {r : Nat} (hr : r < 6) (i : Int32) {t : Int32} (ht : t < 0) (j : Int32) (q : Int32) : sp_Ct X 9 23 [.ref 0, .int (nI r), .int i, .int t, .int j, .int q] g (sp_Fi (-1) g) := by
  refine sp_walkN (n := 6) sq_p_23 sq_l_23 (Nat.le_of_ble_eq_true rfl) (fun a hA => ?_)
  show sp_Ev X a 23 0 [.ref 0, .int (nI r), .int i, .int t, .int j, .int q] [] g
  refine sr_aload_n hA si_23_0 rfl ?_
  refine sr_getR (r := 1) hA si_23_1 sf_23_14 (by decide) (by decide) rfl rfl rfl ?_
  refine sr_iload_n hA si_23_4 rfl ?_
  refine sr_VFi (c := 1) (ci := 5) (as := [.int (nI r)]) (st := []) hA si_23_5 sv_11 sk_23_72 (xc_numR1 X g (by omega)) (by omega) rfl (by decide) (by decide) rfl sq_c_11 rfl (Nat.le_of_ble_eq_true rfl) ?_
  refine sr_if_eqN (tgt := 22) hA si_23_8 (by decide) (by omega) (fun c1 => absurd c1 (by omega)) (fun c1 => ?_)
  refine sr_aload_n hA si_23_11 rfl ?_
  refine sr_getR (r := 1) hA si_23_12 sf_23_14 (by decide) (by decide) rfl rfl rfl ?_
  refine sr_iload_n hA si_23_15 rfl ?_
  refine sr_VFi (c := 1) (ci := 5) (as := [.int t]) (st := []) hA si_23_16 sv_11 sk_23_72 (xc_numRM X g ht) (by omega) rfl (by decide) (by decide) rfl sq_c_11 rfl (Nat.le_of_ble_eq_true rfl) ?_
  refine sr_if_neN (tgt := 24) hA si_23_19 (by decide) (by omega) (fun c2 => absurd c2 (by omega)) (fun c2 => ?_)
  refine sr_iconst (v := (-1)) hA si_23_22 (by decide) ?_
  exact sr_iretF hA si_23_23 sq_r_23 rfl rfl
set_option maxRecDepth 20000 in
theorem xc_copy_d (X : sp_X) (g : sp_G) {r : Nat} (hr : r < 6) (i : Int32) {t : Nat} (ht : 6 ≤ t) (htb : t < 2 ^ 31) (j : Int32) (q : Int32) : sp_Ct X 9 23 [.ref 0, .int (nI r), .int i, .int (nI t), .int j, .int q] g (sp_Fi (-1) g) := by
  refine sp_walkN (n := 6) sq_p_23 sq_l_23 (Nat.le_of_ble_eq_true rfl) (fun a hA => ?_)
  show sp_Ev X a 23 0 [.ref 0, .int (nI r), .int i, .int (nI t), .int j, .int q] [] g
  refine sr_aload_n hA si_23_0 rfl ?_
  refine sr_getR (r := 1) hA si_23_1 sf_23_14 (by decide) (by decide) rfl rfl rfl ?_
  refine sr_iload_n hA si_23_4 rfl ?_
  refine sr_VFi (c := 1) (ci := 5) (as := [.int (nI r)]) (st := []) hA si_23_5 sv_11 sk_23_72 (xc_numR1 X g (by omega)) (by omega) rfl (by decide) (by decide) rfl sq_c_11 rfl (Nat.le_of_ble_eq_true rfl) ?_
  refine sr_if_eqN (tgt := 22) hA si_23_8 (by decide) (by omega) (fun c1 => absurd c1 (by omega)) (fun c1 => ?_)
  refine sr_aload_n hA si_23_11 rfl ?_
  refine sr_getR (r := 1) hA si_23_12 sf_23_14 (by decide) (by decide) rfl rfl rfl ?_
  refine sr_iload_n hA si_23_15 rfl ?_
  refine sr_VFi (c := 1) (ci := 5) (as := [.int (nI t)]) (st := []) hA si_23_16 sv_11 sk_23_72 (xc_numRH X g (by omega) (by omega)) (by omega) rfl (by decide) (by decide) rfl sq_c_11 rfl (Nat.le_of_ble_eq_true rfl) ?_
  refine sr_if_neN (tgt := 24) hA si_23_19 (by decide) (by omega) (fun c2 => absurd c2 (by omega)) (fun c2 => ?_)
  refine sr_iconst (v := (-1)) hA si_23_22 (by decide) ?_
  exact sr_iretF hA si_23_23 sq_r_23 rfl rfl
set_option maxRecDepth 20000 in
theorem xc_copy_e (X : sp_X) (g : sp_G) {r : Nat} (hr : r < 6) (i : Int32) {t : Nat} (ht : t < 6) (j : Int32) {q : Int32} (hq : q < 0) : sp_Ct X 9 23 [.ref 0, .int (nI r), .int i, .int (nI t), .int j, .int q] g (sp_Fi (-3) (sp_rx g 5)) := by
  refine sp_walkN (n := 6) sq_p_23 sq_l_23 (Nat.le_of_ble_eq_true rfl) (fun a hA => ?_)
  show sp_Ev X a 23 0 [.ref 0, .int (nI r), .int i, .int (nI t), .int j, .int q] [] g
  refine sr_aload_n hA si_23_0 rfl ?_
  refine sr_getR (r := 1) hA si_23_1 sf_23_14 (by decide) (by decide) rfl rfl rfl ?_
  refine sr_iload_n hA si_23_4 rfl ?_
  refine sr_VFi (c := 1) (ci := 5) (as := [.int (nI r)]) (st := []) hA si_23_5 sv_11 sk_23_72 (xc_numR1 X g (by omega)) (by omega) rfl (by decide) (by decide) rfl sq_c_11 rfl (Nat.le_of_ble_eq_true rfl) ?_
  refine sr_if_eqN (tgt := 22) hA si_23_8 (by decide) (by omega) (fun c1 => absurd c1 (by omega)) (fun c1 => ?_)
  refine sr_aload_n hA si_23_11 rfl ?_
  refine sr_getR (r := 1) hA si_23_12 sf_23_14 (by decide) (by decide) rfl rfl rfl ?_
  refine sr_iload_n hA si_23_15 rfl ?_
  refine sr_VFi (c := 1) (ci := 5) (as := [.int (nI t)]) (st := []) hA si_23_16 sv_11 sk_23_72 (xc_numR1 X g (by omega)) (by omega) rfl (by decide) (by decide) rfl sq_c_11 rfl (Nat.le_of_ble_eq_true rfl) ?_
  refine sr_if_neN (tgt := 24) hA si_23_19 (by decide) (by omega) (fun c2 => ?_) (fun c2 => absurd c2 (by omega))
  refine sr_iload hA si_23_24 rfl ?_
  refine sr_if_ge (tgt := 35) hA si_23_26 (by decide) (fun c3 => absurd c3 (sp_m4 hq)) (fun c3 => ?_)
  refine sr_aload_n hA si_23_29 rfl ?_
  refine sr_iconst (v := nI 5) hA si_23_30 (by decide) ?_
  refine sr_VFi (c := 0) (ci := 7) (as := [.int (nI 5)]) (st := []) hA si_23_31 sv_12 sk_23_76 (xc_refuse X g (by omega)) (by omega) rfl (by decide) (by decide) rfl sq_c_12 rfl (Nat.le_of_ble_eq_true rfl) ?_
  exact sr_iretF hA si_23_34 sq_r_23 rfl rfl
set_option maxRecDepth 20000 in
theorem xc_copy_f (X : sp_X) (g : sp_G) {r : Nat} (hr : r < 6) (i : Int32) {t : Nat} (ht : t < 6) (j : Int32) {q : Nat} (hqb : q < 2 ^ 31) (hz : g.1 9 r = -1) : sp_Ct X 9 23 [.ref 0, .int (nI r), .int i, .int (nI t), .int j, .int (nI q)] g (sp_Fi (-3) (sp_rx g 1)) := by
  refine sp_walkN (n := 6) sq_p_23 sq_l_23 (Nat.le_of_ble_eq_true rfl) (fun a hA => ?_)
  show sp_Ev X a 23 0 [.ref 0, .int (nI r), .int i, .int (nI t), .int j, .int (nI q)] [] g
  refine sr_aload_n hA si_23_0 rfl ?_
  refine sr_getR (r := 1) hA si_23_1 sf_23_14 (by decide) (by decide) rfl rfl rfl ?_
  refine sr_iload_n hA si_23_4 rfl ?_
  refine sr_VFi (c := 1) (ci := 5) (as := [.int (nI r)]) (st := []) hA si_23_5 sv_11 sk_23_72 (xc_numR1 X g (by omega)) (by omega) rfl (by decide) (by decide) rfl sq_c_11 rfl (Nat.le_of_ble_eq_true rfl) ?_
  refine sr_if_eqN (tgt := 22) hA si_23_8 (by decide) (by omega) (fun c1 => absurd c1 (by omega)) (fun c1 => ?_)
  refine sr_aload_n hA si_23_11 rfl ?_
  refine sr_getR (r := 1) hA si_23_12 sf_23_14 (by decide) (by decide) rfl rfl rfl ?_
  refine sr_iload_n hA si_23_15 rfl ?_
  refine sr_VFi (c := 1) (ci := 5) (as := [.int (nI t)]) (st := []) hA si_23_16 sv_11 sk_23_72 (xc_numR1 X g (by omega)) (by omega) rfl (by decide) (by decide) rfl sq_c_11 rfl (Nat.le_of_ble_eq_true rfl) ?_
  refine sr_if_neN (tgt := 24) hA si_23_19 (by decide) (by omega) (fun c2 => ?_) (fun c2 => absurd c2 (by omega))
  refine sr_iload hA si_23_24 rfl ?_
  refine sr_if_geN (tgt := 35) hA si_23_26 (by decide) (by omega) ?_
  refine sr_aload_n hA si_23_35 rfl ?_
  refine sr_getR (r := 1) hA si_23_36 sf_23_14 (by decide) (by decide) rfl rfl rfl ?_
  refine sr_iload_n hA si_23_39 rfl ?_
  refine sr_VFi (c := 1) (ci := 5) (as := [.int (nI r)]) (st := []) hA si_23_40 sv_16 sk_23_99 (xc_thereR0 X g (by omega) hz) (by omega) rfl (by decide) (by decide) rfl sq_c_16 rfl (Nat.le_of_ble_eq_true rfl) ?_
  refine sr_if_eqN (tgt := 57) hA si_23_43 (by decide) (by omega) (fun c4 => ?_) (fun c4 => absurd c4 (by omega))
  refine sr_aload_n hA si_23_57 rfl ?_
  refine sr_iconst (v := nI 1) hA si_23_58 (by decide) ?_
  refine sr_VFi (c := 0) (ci := 7) (as := [.int (nI 1)]) (st := []) hA si_23_59 sv_12 sk_23_76 (xc_refuse X g (by omega)) (by omega) rfl (by decide) (by decide) rfl sq_c_12 rfl (Nat.le_of_ble_eq_true rfl) ?_
  exact sr_iretF hA si_23_62 sq_r_23 rfl rfl
set_option maxRecDepth 20000 in
theorem xc_copy_g (X : sp_X) (g : sp_G) {r : Nat} (hr : r < 6) (i : Int32) {t : Nat} (ht : t < 6) (j : Int32) {q : Nat} (hqb : q < 2 ^ 31) {z : Nat} (hz : g.1 9 r = nI z) (hzb : z ≤ 40) (hy : g.1 9 t = -1) : sp_Ct X 9 23 [.ref 0, .int (nI r), .int i, .int (nI t), .int j, .int (nI q)] g (sp_Fi (-3) (sp_rx g 1)) := by
  refine sp_walkN (n := 6) sq_p_23 sq_l_23 (Nat.le_of_ble_eq_true rfl) (fun a hA => ?_)
  show sp_Ev X a 23 0 [.ref 0, .int (nI r), .int i, .int (nI t), .int j, .int (nI q)] [] g
  refine sr_aload_n hA si_23_0 rfl ?_
  refine sr_getR (r := 1) hA si_23_1 sf_23_14 (by decide) (by decide) rfl rfl rfl ?_
  refine sr_iload_n hA si_23_4 rfl ?_
  refine sr_VFi (c := 1) (ci := 5) (as := [.int (nI r)]) (st := []) hA si_23_5 sv_11 sk_23_72 (xc_numR1 X g (by omega)) (by omega) rfl (by decide) (by decide) rfl sq_c_11 rfl (Nat.le_of_ble_eq_true rfl) ?_
  refine sr_if_eqN (tgt := 22) hA si_23_8 (by decide) (by omega) (fun c1 => absurd c1 (by omega)) (fun c1 => ?_)
  refine sr_aload_n hA si_23_11 rfl ?_
  refine sr_getR (r := 1) hA si_23_12 sf_23_14 (by decide) (by decide) rfl rfl rfl ?_
  refine sr_iload_n hA si_23_15 rfl ?_
  refine sr_VFi (c := 1) (ci := 5) (as := [.int (nI t)]) (st := []) hA si_23_16 sv_11 sk_23_72 (xc_numR1 X g (by omega)) (by omega) rfl (by decide) (by decide) rfl sq_c_11 rfl (Nat.le_of_ble_eq_true rfl) ?_
  refine sr_if_neN (tgt := 24) hA si_23_19 (by decide) (by omega) (fun c2 => ?_) (fun c2 => absurd c2 (by omega))
  refine sr_iload hA si_23_24 rfl ?_
  refine sr_if_geN (tgt := 35) hA si_23_26 (by decide) (by omega) ?_
  refine sr_aload_n hA si_23_35 rfl ?_
  refine sr_getR (r := 1) hA si_23_36 sf_23_14 (by decide) (by decide) rfl rfl rfl ?_
  refine sr_iload_n hA si_23_39 rfl ?_
  refine sr_VFi (c := 1) (ci := 5) (as := [.int (nI r)]) (st := []) hA si_23_40 sv_16 sk_23_99 (xc_thereR1 X g (by omega) hz (by omega)) (by omega) rfl (by decide) (by decide) rfl sq_c_16 rfl (Nat.le_of_ble_eq_true rfl) ?_
  refine sr_if_eqN (tgt := 57) hA si_23_43 (by decide) (by omega) (fun c4 => absurd c4 (by omega)) (fun c4 => ?_)
  refine sr_aload_n hA si_23_46 rfl ?_
  refine sr_getR (r := 1) hA si_23_47 sf_23_14 (by decide) (by decide) rfl rfl rfl ?_
  refine sr_iload_n hA si_23_50 rfl ?_
  refine sr_VFi (c := 1) (ci := 5) (as := [.int (nI t)]) (st := []) hA si_23_51 sv_16 sk_23_99 (xc_thereR0 X g (by omega) hy) (by omega) rfl (by decide) (by decide) rfl sq_c_16 rfl (Nat.le_of_ble_eq_true rfl) ?_
  refine sr_if_neN (tgt := 63) hA si_23_54 (by decide) (by omega) (fun c5 => absurd c5 (by omega)) (fun c5 => ?_)
  refine sr_aload_n hA si_23_57 rfl ?_
  refine sr_iconst (v := nI 1) hA si_23_58 (by decide) ?_
  refine sr_VFi (c := 0) (ci := 7) (as := [.int (nI 1)]) (st := []) hA si_23_59 sv_12 sk_23_76 (xc_refuse X g (by omega)) (by omega) rfl (by decide) (by decide) rfl sq_c_12 rfl (Nat.le_of_ble_eq_true rfl) ?_
  exact sr_iretF hA si_23_62 sq_r_23 rfl rfl
set_option maxRecDepth 20000 in
theorem xc_copy_h (X : sp_X) (g : sp_G) {r : Nat} (hr : r < 6) {i : Int32} (hi : i < 0) {t : Nat} (ht : t < 6) (j : Int32) {q : Nat} (hqb : q < 2 ^ 31) {z : Nat} (hz : g.1 9 r = nI z) (hzb : z ≤ 40) {y : Nat} (hy : g.1 9 t = nI y) (hyb : y ≤ 40) : sp_Ct X 9 23 [.ref 0, .int (nI r), .int i, .int (nI t), .int j, .int (nI q)] g (sp_Fi (-3) (sp_rx g 2)) := by
  refine sp_walkN (n := 6) sq_p_23 sq_l_23 (Nat.le_of_ble_eq_true rfl) (fun a hA => ?_)
  show sp_Ev X a 23 0 [.ref 0, .int (nI r), .int i, .int (nI t), .int j, .int (nI q)] [] g
  refine sr_aload_n hA si_23_0 rfl ?_
  refine sr_getR (r := 1) hA si_23_1 sf_23_14 (by decide) (by decide) rfl rfl rfl ?_
  refine sr_iload_n hA si_23_4 rfl ?_
  refine sr_VFi (c := 1) (ci := 5) (as := [.int (nI r)]) (st := []) hA si_23_5 sv_11 sk_23_72 (xc_numR1 X g (by omega)) (by omega) rfl (by decide) (by decide) rfl sq_c_11 rfl (Nat.le_of_ble_eq_true rfl) ?_
  refine sr_if_eqN (tgt := 22) hA si_23_8 (by decide) (by omega) (fun c1 => absurd c1 (by omega)) (fun c1 => ?_)
  refine sr_aload_n hA si_23_11 rfl ?_
  refine sr_getR (r := 1) hA si_23_12 sf_23_14 (by decide) (by decide) rfl rfl rfl ?_
  refine sr_iload_n hA si_23_15 rfl ?_
  refine sr_VFi (c := 1) (ci := 5) (as := [.int (nI t)]) (st := []) hA si_23_16 sv_11 sk_23_72 (xc_numR1 X g (by omega)) (by omega) rfl (by decide) (by decide) rfl sq_c_11 rfl (Nat.le_of_ble_eq_true rfl) ?_
  refine sr_if_neN (tgt := 24) hA si_23_19 (by decide) (by omega) (fun c2 => ?_) (fun c2 => absurd c2 (by omega))
  refine sr_iload hA si_23_24 rfl ?_
  refine sr_if_geN (tgt := 35) hA si_23_26 (by decide) (by omega) ?_
  refine sr_aload_n hA si_23_35 rfl ?_
  refine sr_getR (r := 1) hA si_23_36 sf_23_14 (by decide) (by decide) rfl rfl rfl ?_
  refine sr_iload_n hA si_23_39 rfl ?_
  refine sr_VFi (c := 1) (ci := 5) (as := [.int (nI r)]) (st := []) hA si_23_40 sv_16 sk_23_99 (xc_thereR1 X g (by omega) hz (by omega)) (by omega) rfl (by decide) (by decide) rfl sq_c_16 rfl (Nat.le_of_ble_eq_true rfl) ?_
  refine sr_if_eqN (tgt := 57) hA si_23_43 (by decide) (by omega) (fun c4 => absurd c4 (by omega)) (fun c4 => ?_)
  refine sr_aload_n hA si_23_46 rfl ?_
  refine sr_getR (r := 1) hA si_23_47 sf_23_14 (by decide) (by decide) rfl rfl rfl ?_
  refine sr_iload_n hA si_23_50 rfl ?_
  refine sr_VFi (c := 1) (ci := 5) (as := [.int (nI t)]) (st := []) hA si_23_51 sv_16 sk_23_99 (xc_thereR1 X g (by omega) hy (by omega)) (by omega) rfl (by decide) (by decide) rfl sq_c_16 rfl (Nat.le_of_ble_eq_true rfl) ?_
  refine sr_if_neN (tgt := 63) hA si_23_54 (by decide) (by omega) (fun c5 => ?_) (fun c5 => absurd c5 (by omega))
  refine sr_aload_n hA si_23_63 rfl ?_
  refine sr_getR (r := 1) hA si_23_64 sf_23_14 (by decide) (by decide) rfl rfl rfl ?_
  refine sr_iload_n hA si_23_67 rfl ?_
  refine sr_iload_n hA si_23_68 rfl ?_
  refine sr_iload hA si_23_69 rfl ?_
  refine sr_VFi (c := 1) (ci := 5) (as := [.int (nI r), .int i, .int (nI q)]) (st := []) hA si_23_71 sv_17 sk_23_106 (xc_spanRM X g hi) (by omega) rfl (by decide) (by decide) rfl sq_c_17 rfl (Nat.le_of_ble_eq_true rfl) ?_
  refine sr_if_eqN (tgt := 92) hA si_23_74 (by decide) (by omega) (fun c6 => ?_) (fun c6 => absurd c6 (by omega))
  refine sr_aload_n hA si_23_92 rfl ?_
  refine sr_iconst (v := nI 2) hA si_23_93 (by decide) ?_
  refine sr_VFi (c := 0) (ci := 7) (as := [.int (nI 2)]) (st := []) hA si_23_94 sv_12 sk_23_76 (xc_refuse X g (by omega)) (by omega) rfl (by decide) (by decide) rfl sq_c_12 rfl (Nat.le_of_ble_eq_true rfl) ?_
  exact sr_iretF hA si_23_97 sq_r_23 rfl rfl
set_option maxRecDepth 20000 in
theorem xc_copy_i (X : sp_X) (g : sp_G) {r : Nat} (hr : r < 6) {i : Nat} (hib : i < 2 ^ 31) {t : Nat} (ht : t < 6) (j : Int32) {q : Nat} (hqb : q < 2 ^ 31) {z : Nat} (hz : g.1 9 r = nI z) (hzb : z ≤ 40) {y : Nat} (hy : g.1 9 t = nI y) (hyb : y ≤ 40) (h1 : z < i + q) : sp_Ct X 9 23 [.ref 0, .int (nI r), .int (nI i), .int (nI t), .int j, .int (nI q)] g (sp_Fi (-3) (sp_rx g 2)) := by
  refine sp_walkN (n := 6) sq_p_23 sq_l_23 (Nat.le_of_ble_eq_true rfl) (fun a hA => ?_)
  show sp_Ev X a 23 0 [.ref 0, .int (nI r), .int (nI i), .int (nI t), .int j, .int (nI q)] [] g
  refine sr_aload_n hA si_23_0 rfl ?_
  refine sr_getR (r := 1) hA si_23_1 sf_23_14 (by decide) (by decide) rfl rfl rfl ?_
  refine sr_iload_n hA si_23_4 rfl ?_
  refine sr_VFi (c := 1) (ci := 5) (as := [.int (nI r)]) (st := []) hA si_23_5 sv_11 sk_23_72 (xc_numR1 X g (by omega)) (by omega) rfl (by decide) (by decide) rfl sq_c_11 rfl (Nat.le_of_ble_eq_true rfl) ?_
  refine sr_if_eqN (tgt := 22) hA si_23_8 (by decide) (by omega) (fun c1 => absurd c1 (by omega)) (fun c1 => ?_)
  refine sr_aload_n hA si_23_11 rfl ?_
  refine sr_getR (r := 1) hA si_23_12 sf_23_14 (by decide) (by decide) rfl rfl rfl ?_
  refine sr_iload_n hA si_23_15 rfl ?_
  refine sr_VFi (c := 1) (ci := 5) (as := [.int (nI t)]) (st := []) hA si_23_16 sv_11 sk_23_72 (xc_numR1 X g (by omega)) (by omega) rfl (by decide) (by decide) rfl sq_c_11 rfl (Nat.le_of_ble_eq_true rfl) ?_
  refine sr_if_neN (tgt := 24) hA si_23_19 (by decide) (by omega) (fun c2 => ?_) (fun c2 => absurd c2 (by omega))
  refine sr_iload hA si_23_24 rfl ?_
  refine sr_if_geN (tgt := 35) hA si_23_26 (by decide) (by omega) ?_
  refine sr_aload_n hA si_23_35 rfl ?_
  refine sr_getR (r := 1) hA si_23_36 sf_23_14 (by decide) (by decide) rfl rfl rfl ?_
  refine sr_iload_n hA si_23_39 rfl ?_
  refine sr_VFi (c := 1) (ci := 5) (as := [.int (nI r)]) (st := []) hA si_23_40 sv_16 sk_23_99 (xc_thereR1 X g (by omega) hz (by omega)) (by omega) rfl (by decide) (by decide) rfl sq_c_16 rfl (Nat.le_of_ble_eq_true rfl) ?_
  refine sr_if_eqN (tgt := 57) hA si_23_43 (by decide) (by omega) (fun c4 => absurd c4 (by omega)) (fun c4 => ?_)
  refine sr_aload_n hA si_23_46 rfl ?_
  refine sr_getR (r := 1) hA si_23_47 sf_23_14 (by decide) (by decide) rfl rfl rfl ?_
  refine sr_iload_n hA si_23_50 rfl ?_
  refine sr_VFi (c := 1) (ci := 5) (as := [.int (nI t)]) (st := []) hA si_23_51 sv_16 sk_23_99 (xc_thereR1 X g (by omega) hy (by omega)) (by omega) rfl (by decide) (by decide) rfl sq_c_16 rfl (Nat.le_of_ble_eq_true rfl) ?_
  refine sr_if_neN (tgt := 63) hA si_23_54 (by decide) (by omega) (fun c5 => ?_) (fun c5 => absurd c5 (by omega))
  refine sr_aload_n hA si_23_63 rfl ?_
  refine sr_getR (r := 1) hA si_23_64 sf_23_14 (by decide) (by decide) rfl rfl rfl ?_
  refine sr_iload_n hA si_23_67 rfl ?_
  refine sr_iload_n hA si_23_68 rfl ?_
  refine sr_iload hA si_23_69 rfl ?_
  refine sr_VFi (c := 1) (ci := 5) (as := [.int (nI r), .int (nI i), .int (nI q)]) (st := []) hA si_23_71 sv_17 sk_23_106 (xc_spanR0 X g (by omega) hz (by omega) (by omega) (by omega) (by omega)) (by omega) rfl (by decide) (by decide) rfl sq_c_17 rfl (Nat.le_of_ble_eq_true rfl) ?_
  refine sr_if_eqN (tgt := 92) hA si_23_74 (by decide) (by omega) (fun c6 => ?_) (fun c6 => absurd c6 (by omega))
  refine sr_aload_n hA si_23_92 rfl ?_
  refine sr_iconst (v := nI 2) hA si_23_93 (by decide) ?_
  refine sr_VFi (c := 0) (ci := 7) (as := [.int (nI 2)]) (st := []) hA si_23_94 sv_12 sk_23_76 (xc_refuse X g (by omega)) (by omega) rfl (by decide) (by decide) rfl sq_c_12 rfl (Nat.le_of_ble_eq_true rfl) ?_
  exact sr_iretF hA si_23_97 sq_r_23 rfl rfl
set_option maxRecDepth 20000 in
theorem xc_copy_j (X : sp_X) (g : sp_G) {r : Nat} (hr : r < 6) {i : Nat} (hib : i < 2 ^ 31) {t : Nat} (ht : t < 6) {j : Int32} (hj : j < 0) {q : Nat} (hqb : q < 2 ^ 31) {z : Nat} (hz : g.1 9 r = nI z) (hzb : z ≤ 40) {y : Nat} (hy : g.1 9 t = nI y) (hyb : y ≤ 40) (h1 : i + q ≤ z) : sp_Ct X 9 23 [.ref 0, .int (nI r), .int (nI i), .int (nI t), .int j, .int (nI q)] g (sp_Fi (-3) (sp_rx g 2)) := by
  refine sp_walkN (n := 6) sq_p_23 sq_l_23 (Nat.le_of_ble_eq_true rfl) (fun a hA => ?_)
  show sp_Ev X a 23 0 [.ref 0, .int (nI r), .int (nI i), .int (nI t), .int j, .int (nI q)] [] g
  refine sr_aload_n hA si_23_0 rfl ?_
  refine sr_getR (r := 1) hA si_23_1 sf_23_14 (by decide) (by decide) rfl rfl rfl ?_
  refine sr_iload_n hA si_23_4 rfl ?_
  refine sr_VFi (c := 1) (ci := 5) (as := [.int (nI r)]) (st := []) hA si_23_5 sv_11 sk_23_72 (xc_numR1 X g (by omega)) (by omega) rfl (by decide) (by decide) rfl sq_c_11 rfl (Nat.le_of_ble_eq_true rfl) ?_
  refine sr_if_eqN (tgt := 22) hA si_23_8 (by decide) (by omega) (fun c1 => absurd c1 (by omega)) (fun c1 => ?_)
  refine sr_aload_n hA si_23_11 rfl ?_
  refine sr_getR (r := 1) hA si_23_12 sf_23_14 (by decide) (by decide) rfl rfl rfl ?_
  refine sr_iload_n hA si_23_15 rfl ?_
  refine sr_VFi (c := 1) (ci := 5) (as := [.int (nI t)]) (st := []) hA si_23_16 sv_11 sk_23_72 (xc_numR1 X g (by omega)) (by omega) rfl (by decide) (by decide) rfl sq_c_11 rfl (Nat.le_of_ble_eq_true rfl) ?_
  refine sr_if_neN (tgt := 24) hA si_23_19 (by decide) (by omega) (fun c2 => ?_) (fun c2 => absurd c2 (by omega))
  refine sr_iload hA si_23_24 rfl ?_
  refine sr_if_geN (tgt := 35) hA si_23_26 (by decide) (by omega) ?_
  refine sr_aload_n hA si_23_35 rfl ?_
  refine sr_getR (r := 1) hA si_23_36 sf_23_14 (by decide) (by decide) rfl rfl rfl ?_
  refine sr_iload_n hA si_23_39 rfl ?_
  refine sr_VFi (c := 1) (ci := 5) (as := [.int (nI r)]) (st := []) hA si_23_40 sv_16 sk_23_99 (xc_thereR1 X g (by omega) hz (by omega)) (by omega) rfl (by decide) (by decide) rfl sq_c_16 rfl (Nat.le_of_ble_eq_true rfl) ?_
  refine sr_if_eqN (tgt := 57) hA si_23_43 (by decide) (by omega) (fun c4 => absurd c4 (by omega)) (fun c4 => ?_)
  refine sr_aload_n hA si_23_46 rfl ?_
  refine sr_getR (r := 1) hA si_23_47 sf_23_14 (by decide) (by decide) rfl rfl rfl ?_
  refine sr_iload_n hA si_23_50 rfl ?_
  refine sr_VFi (c := 1) (ci := 5) (as := [.int (nI t)]) (st := []) hA si_23_51 sv_16 sk_23_99 (xc_thereR1 X g (by omega) hy (by omega)) (by omega) rfl (by decide) (by decide) rfl sq_c_16 rfl (Nat.le_of_ble_eq_true rfl) ?_
  refine sr_if_neN (tgt := 63) hA si_23_54 (by decide) (by omega) (fun c5 => ?_) (fun c5 => absurd c5 (by omega))
  refine sr_aload_n hA si_23_63 rfl ?_
  refine sr_getR (r := 1) hA si_23_64 sf_23_14 (by decide) (by decide) rfl rfl rfl ?_
  refine sr_iload_n hA si_23_67 rfl ?_
  refine sr_iload_n hA si_23_68 rfl ?_
  refine sr_iload hA si_23_69 rfl ?_
  refine sr_VFi (c := 1) (ci := 5) (as := [.int (nI r), .int (nI i), .int (nI q)]) (st := []) hA si_23_71 sv_17 sk_23_106 (xc_spanR1 X g (by omega) hz (by omega) (by omega)) (by omega) rfl (by decide) (by decide) rfl sq_c_17 rfl (Nat.le_of_ble_eq_true rfl) ?_
  refine sr_if_eqN (tgt := 92) hA si_23_74 (by decide) (by omega) (fun c6 => absurd c6 (by omega)) (fun c6 => ?_)
  refine sr_aload_n hA si_23_77 rfl ?_
  refine sr_getR (r := 1) hA si_23_78 sf_23_14 (by decide) (by decide) rfl rfl rfl ?_
  refine sr_iload_n hA si_23_81 rfl ?_
  refine sr_iload hA si_23_82 rfl ?_
  refine sr_iload hA si_23_84 rfl ?_
  refine sr_VFi (c := 1) (ci := 5) (as := [.int (nI t), .int j, .int (nI q)]) (st := []) hA si_23_86 sv_17 sk_23_106 (xc_spanRM X g hj) (by omega) rfl (by decide) (by decide) rfl sq_c_17 rfl (Nat.le_of_ble_eq_true rfl) ?_
  refine sr_if_neN (tgt := 98) hA si_23_89 (by decide) (by omega) (fun c7 => absurd c7 (by omega)) (fun c7 => ?_)
  refine sr_aload_n hA si_23_92 rfl ?_
  refine sr_iconst (v := nI 2) hA si_23_93 (by decide) ?_
  refine sr_VFi (c := 0) (ci := 7) (as := [.int (nI 2)]) (st := []) hA si_23_94 sv_12 sk_23_76 (xc_refuse X g (by omega)) (by omega) rfl (by decide) (by decide) rfl sq_c_12 rfl (Nat.le_of_ble_eq_true rfl) ?_
  exact sr_iretF hA si_23_97 sq_r_23 rfl rfl
set_option maxRecDepth 20000 in
theorem xc_copy_k (X : sp_X) (g : sp_G) {r : Nat} (hr : r < 6) {i : Nat} (hib : i < 2 ^ 31) {t : Nat} (ht : t < 6) {j : Nat} (hjb : j < 2 ^ 31) {q : Nat} (hqb : q < 2 ^ 31) {z : Nat} (hz : g.1 9 r = nI z) (hzb : z ≤ 40) {y : Nat} (hy : g.1 9 t = nI y) (hyb : y ≤ 40) (h1 : i + q ≤ z) (h2 : y < j + q) : sp_Ct X 9 23 [.ref 0, .int (nI r), .int (nI i), .int (nI t), .int (nI j), .int (nI q)] g (sp_Fi (-3) (sp_rx g 2)) := by
  refine sp_walkN (n := 6) sq_p_23 sq_l_23 (Nat.le_of_ble_eq_true rfl) (fun a hA => ?_)
  show sp_Ev X a 23 0 [.ref 0, .int (nI r), .int (nI i), .int (nI t), .int (nI j), .int (nI q)] [] g
  refine sr_aload_n hA si_23_0 rfl ?_
  refine sr_getR (r := 1) hA si_23_1 sf_23_14 (by decide) (by decide) rfl rfl rfl ?_
  refine sr_iload_n hA si_23_4 rfl ?_
  refine sr_VFi (c := 1) (ci := 5) (as := [.int (nI r)]) (st := []) hA si_23_5 sv_11 sk_23_72 (xc_numR1 X g (by omega)) (by omega) rfl (by decide) (by decide) rfl sq_c_11 rfl (Nat.le_of_ble_eq_true rfl) ?_
  refine sr_if_eqN (tgt := 22) hA si_23_8 (by decide) (by omega) (fun c1 => absurd c1 (by omega)) (fun c1 => ?_)
  refine sr_aload_n hA si_23_11 rfl ?_
  refine sr_getR (r := 1) hA si_23_12 sf_23_14 (by decide) (by decide) rfl rfl rfl ?_
  refine sr_iload_n hA si_23_15 rfl ?_
  refine sr_VFi (c := 1) (ci := 5) (as := [.int (nI t)]) (st := []) hA si_23_16 sv_11 sk_23_72 (xc_numR1 X g (by omega)) (by omega) rfl (by decide) (by decide) rfl sq_c_11 rfl (Nat.le_of_ble_eq_true rfl) ?_
  refine sr_if_neN (tgt := 24) hA si_23_19 (by decide) (by omega) (fun c2 => ?_) (fun c2 => absurd c2 (by omega))
  refine sr_iload hA si_23_24 rfl ?_
  refine sr_if_geN (tgt := 35) hA si_23_26 (by decide) (by omega) ?_
  refine sr_aload_n hA si_23_35 rfl ?_
  refine sr_getR (r := 1) hA si_23_36 sf_23_14 (by decide) (by decide) rfl rfl rfl ?_
  refine sr_iload_n hA si_23_39 rfl ?_
  refine sr_VFi (c := 1) (ci := 5) (as := [.int (nI r)]) (st := []) hA si_23_40 sv_16 sk_23_99 (xc_thereR1 X g (by omega) hz (by omega)) (by omega) rfl (by decide) (by decide) rfl sq_c_16 rfl (Nat.le_of_ble_eq_true rfl) ?_
  refine sr_if_eqN (tgt := 57) hA si_23_43 (by decide) (by omega) (fun c4 => absurd c4 (by omega)) (fun c4 => ?_)
  refine sr_aload_n hA si_23_46 rfl ?_
  refine sr_getR (r := 1) hA si_23_47 sf_23_14 (by decide) (by decide) rfl rfl rfl ?_
  refine sr_iload_n hA si_23_50 rfl ?_
  refine sr_VFi (c := 1) (ci := 5) (as := [.int (nI t)]) (st := []) hA si_23_51 sv_16 sk_23_99 (xc_thereR1 X g (by omega) hy (by omega)) (by omega) rfl (by decide) (by decide) rfl sq_c_16 rfl (Nat.le_of_ble_eq_true rfl) ?_
  refine sr_if_neN (tgt := 63) hA si_23_54 (by decide) (by omega) (fun c5 => ?_) (fun c5 => absurd c5 (by omega))
  refine sr_aload_n hA si_23_63 rfl ?_
  refine sr_getR (r := 1) hA si_23_64 sf_23_14 (by decide) (by decide) rfl rfl rfl ?_
  refine sr_iload_n hA si_23_67 rfl ?_
  refine sr_iload_n hA si_23_68 rfl ?_
  refine sr_iload hA si_23_69 rfl ?_
  refine sr_VFi (c := 1) (ci := 5) (as := [.int (nI r), .int (nI i), .int (nI q)]) (st := []) hA si_23_71 sv_17 sk_23_106 (xc_spanR1 X g (by omega) hz (by omega) (by omega)) (by omega) rfl (by decide) (by decide) rfl sq_c_17 rfl (Nat.le_of_ble_eq_true rfl) ?_
  refine sr_if_eqN (tgt := 92) hA si_23_74 (by decide) (by omega) (fun c6 => absurd c6 (by omega)) (fun c6 => ?_)
  refine sr_aload_n hA si_23_77 rfl ?_
  refine sr_getR (r := 1) hA si_23_78 sf_23_14 (by decide) (by decide) rfl rfl rfl ?_
  refine sr_iload_n hA si_23_81 rfl ?_
  refine sr_iload hA si_23_82 rfl ?_
  refine sr_iload hA si_23_84 rfl ?_
  refine sr_VFi (c := 1) (ci := 5) (as := [.int (nI t), .int (nI j), .int (nI q)]) (st := []) hA si_23_86 sv_17 sk_23_106 (xc_spanR0 X g (by omega) hy (by omega) (by omega) (by omega) (by omega)) (by omega) rfl (by decide) (by decide) rfl sq_c_17 rfl (Nat.le_of_ble_eq_true rfl) ?_
  refine sr_if_neN (tgt := 98) hA si_23_89 (by decide) (by omega) (fun c7 => absurd c7 (by omega)) (fun c7 => ?_)
  refine sr_aload_n hA si_23_92 rfl ?_
  refine sr_iconst (v := nI 2) hA si_23_93 (by decide) ?_
  refine sr_VFi (c := 0) (ci := 7) (as := [.int (nI 2)]) (st := []) hA si_23_94 sv_12 sk_23_76 (xc_refuse X g (by omega)) (by omega) rfl (by decide) (by decide) rfl sq_c_12 rfl (Nat.le_of_ble_eq_true rfl) ?_
  exact sr_iretF hA si_23_97 sq_r_23 rfl rfl
set_option maxRecDepth 20000 in
theorem xc_copy_l (X : sp_X) (g : sp_G) {r : Nat} (hr : r < 6) {i : Nat} (hib : i < 2 ^ 31) {t : Nat} (ht : t < 6) {j : Nat} (hjb : j < 2 ^ 31) {q : Nat} (hqb : q < 2 ^ 31) {z : Nat} (hz : g.1 9 r = nI z) (hzb : z ≤ 40) {y : Nat} (hy : g.1 9 t = nI y) (hyb : y ≤ 40) (h1 : i + q ≤ z) (h2 : j + q ≤ y) : sp_Ct X 9 23 [.ref 0, .int (nI r), .int (nI i), .int (nI t), .int (nI j), .int (nI q)] g (sp_Fi (nI 1) (sp_wA g (3 + t) (va_cpy (g.1 (3 + r)) (g.1 (3 + t)) i j q))) := by
  refine sp_walkN (n := 6) sq_p_23 sq_l_23 (Nat.le_of_ble_eq_true rfl) (fun a hA => ?_)
  show sp_Ev X a 23 0 [.ref 0, .int (nI r), .int (nI i), .int (nI t), .int (nI j), .int (nI q)] [] g
  refine sr_aload_n hA si_23_0 rfl ?_
  refine sr_getR (r := 1) hA si_23_1 sf_23_14 (by decide) (by decide) rfl rfl rfl ?_
  refine sr_iload_n hA si_23_4 rfl ?_
  refine sr_VFi (c := 1) (ci := 5) (as := [.int (nI r)]) (st := []) hA si_23_5 sv_11 sk_23_72 (xc_numR1 X g (by omega)) (by omega) rfl (by decide) (by decide) rfl sq_c_11 rfl (Nat.le_of_ble_eq_true rfl) ?_
  refine sr_if_eqN (tgt := 22) hA si_23_8 (by decide) (by omega) (fun c1 => absurd c1 (by omega)) (fun c1 => ?_)
  refine sr_aload_n hA si_23_11 rfl ?_
  refine sr_getR (r := 1) hA si_23_12 sf_23_14 (by decide) (by decide) rfl rfl rfl ?_
  refine sr_iload_n hA si_23_15 rfl ?_
  refine sr_VFi (c := 1) (ci := 5) (as := [.int (nI t)]) (st := []) hA si_23_16 sv_11 sk_23_72 (xc_numR1 X g (by omega)) (by omega) rfl (by decide) (by decide) rfl sq_c_11 rfl (Nat.le_of_ble_eq_true rfl) ?_
  refine sr_if_neN (tgt := 24) hA si_23_19 (by decide) (by omega) (fun c2 => ?_) (fun c2 => absurd c2 (by omega))
  refine sr_iload hA si_23_24 rfl ?_
  refine sr_if_geN (tgt := 35) hA si_23_26 (by decide) (by omega) ?_
  refine sr_aload_n hA si_23_35 rfl ?_
  refine sr_getR (r := 1) hA si_23_36 sf_23_14 (by decide) (by decide) rfl rfl rfl ?_
  refine sr_iload_n hA si_23_39 rfl ?_
  refine sr_VFi (c := 1) (ci := 5) (as := [.int (nI r)]) (st := []) hA si_23_40 sv_16 sk_23_99 (xc_thereR1 X g (by omega) hz (by omega)) (by omega) rfl (by decide) (by decide) rfl sq_c_16 rfl (Nat.le_of_ble_eq_true rfl) ?_
  refine sr_if_eqN (tgt := 57) hA si_23_43 (by decide) (by omega) (fun c4 => absurd c4 (by omega)) (fun c4 => ?_)
  refine sr_aload_n hA si_23_46 rfl ?_
  refine sr_getR (r := 1) hA si_23_47 sf_23_14 (by decide) (by decide) rfl rfl rfl ?_
  refine sr_iload_n hA si_23_50 rfl ?_
  refine sr_VFi (c := 1) (ci := 5) (as := [.int (nI t)]) (st := []) hA si_23_51 sv_16 sk_23_99 (xc_thereR1 X g (by omega) hy (by omega)) (by omega) rfl (by decide) (by decide) rfl sq_c_16 rfl (Nat.le_of_ble_eq_true rfl) ?_
  refine sr_if_neN (tgt := 63) hA si_23_54 (by decide) (by omega) (fun c5 => ?_) (fun c5 => absurd c5 (by omega))
  refine sr_aload_n hA si_23_63 rfl ?_
  refine sr_getR (r := 1) hA si_23_64 sf_23_14 (by decide) (by decide) rfl rfl rfl ?_
  refine sr_iload_n hA si_23_67 rfl ?_
  refine sr_iload_n hA si_23_68 rfl ?_
  refine sr_iload hA si_23_69 rfl ?_
  refine sr_VFi (c := 1) (ci := 5) (as := [.int (nI r), .int (nI i), .int (nI q)]) (st := []) hA si_23_71 sv_17 sk_23_106 (xc_spanR1 X g (by omega) hz (by omega) (by omega)) (by omega) rfl (by decide) (by decide) rfl sq_c_17 rfl (Nat.le_of_ble_eq_true rfl) ?_
  refine sr_if_eqN (tgt := 92) hA si_23_74 (by decide) (by omega) (fun c6 => absurd c6 (by omega)) (fun c6 => ?_)
  refine sr_aload_n hA si_23_77 rfl ?_
  refine sr_getR (r := 1) hA si_23_78 sf_23_14 (by decide) (by decide) rfl rfl rfl ?_
  refine sr_iload_n hA si_23_81 rfl ?_
  refine sr_iload hA si_23_82 rfl ?_
  refine sr_iload hA si_23_84 rfl ?_
  refine sr_VFi (c := 1) (ci := 5) (as := [.int (nI t), .int (nI j), .int (nI q)]) (st := []) hA si_23_86 sv_17 sk_23_106 (xc_spanR1 X g (by omega) hy (by omega) (by omega)) (by omega) rfl (by decide) (by decide) rfl sq_c_17 rfl (Nat.le_of_ble_eq_true rfl) ?_
  refine sr_if_neN (tgt := 98) hA si_23_89 (by decide) (by omega) (fun c7 => ?_) (fun c7 => absurd c7 (by omega))
  refine sr_aload_n hA si_23_98 rfl ?_
  refine sr_getR (r := 1) hA si_23_99 sf_23_14 (by decide) (by decide) rfl rfl rfl ?_
  refine sr_iload_n hA si_23_102 rfl ?_
  refine sr_iload_n hA si_23_103 rfl ?_
  refine sr_iload_n hA si_23_104 rfl ?_
  refine sr_iload hA si_23_105 rfl ?_
  refine sr_iload hA si_23_107 rfl ?_
  refine sr_VFv (c := 1) (ci := 5) (as := [.int (nI r), .int (nI i), .int (nI t), .int (nI j), .int (nI q)]) (st := []) hA si_23_109 sv_24 sk_23_110 (xc_move X g (by omega) (by omega) (by omega) (by omega)) (by omega) rfl (by decide) (by decide) rfl sq_c_24 rfl (Nat.le_of_ble_eq_true rfl) ?_
  refine sr_iconst (v := nI 1) hA si_23_112 (by decide) ?_
  exact sr_iretF hA si_23_113 sq_r_23 rfl rfl
set_option maxRecDepth 20000 in
theorem mc_copy_a (X : sp_X) (g : sp_G) {r : Int32} (hr : r < 0) (i : Int32) (t : Int32) (j : Int32) (q : Int32) : sp_Ct X 9 147 [.ref 64, .int r, .int i, .int t, .int j, .int q] g (sp_Fi (-1) g) := by
  refine sp_walkN (n := 7) sq_p_147 sq_l_147 (Nat.le_of_ble_eq_true rfl) (fun a hA => ?_)
  show sp_Ev X a 147 0 [.ref 64, .int r, .int i, .int t, .int j, .int q, .null] [] g
  refine sr_iload_n hA si_147_0 rfl ?_
  refine sr_SFi (as := [.int r]) (st := []) hA si_147_1 ss_140 sk_147_93 (mc_isRowM X g hr) (by omega) rfl rfl (Nat.le_of_ble_eq_true rfl) ?_
  refine sr_if_eqN (tgt := 14) hA si_147_4 (by decide) (by omega) (fun c1 => ?_) (fun c1 => absurd c1 (by omega))
  refine sr_iconst (v := (-1)) hA si_147_14 (by decide) ?_
  exact sr_iretF hA si_147_15 sq_r_147 rfl rfl
set_option maxRecDepth 20000 in
theorem mc_copy_b (X : sp_X) (g : sp_G) {r : Nat} (hr : 6 ≤ r) (hrb : r < 2 ^ 31) (i : Int32) (t : Int32) (j : Int32) (q : Int32) : sp_Ct X 9 147 [.ref 64, .int (nI r), .int i, .int t, .int j, .int q] g (sp_Fi (-1) g) := by
  refine sp_walkN (n := 7) sq_p_147 sq_l_147 (Nat.le_of_ble_eq_true rfl) (fun a hA => ?_)
  show sp_Ev X a 147 0 [.ref 64, .int (nI r), .int i, .int t, .int j, .int q, .null] [] g
  refine sr_iload_n hA si_147_0 rfl ?_
  refine sr_SFi (as := [.int (nI r)]) (st := []) hA si_147_1 ss_140 sk_147_93 (mc_isRowH X g (by omega) (by omega)) (by omega) rfl rfl (Nat.le_of_ble_eq_true rfl) ?_
  refine sr_if_eqN (tgt := 14) hA si_147_4 (by decide) (by omega) (fun c1 => ?_) (fun c1 => absurd c1 (by omega))
  refine sr_iconst (v := (-1)) hA si_147_14 (by decide) ?_
  exact sr_iretF hA si_147_15 sq_r_147 rfl rfl
set_option maxRecDepth 20000 in
theorem mc_copy_c (X : sp_X) (g : sp_G) {r : Nat} (hr : r < 6) (i : Int32) {t : Int32} (ht : t < 0) (j : Int32) (q : Int32) : sp_Ct X 9 147 [.ref 64, .int (nI r), .int i, .int t, .int j, .int q] g (sp_Fi (-1) g) := by
  refine sp_walkN (n := 7) sq_p_147 sq_l_147 (Nat.le_of_ble_eq_true rfl) (fun a hA => ?_)
  show sp_Ev X a 147 0 [.ref 64, .int (nI r), .int i, .int t, .int j, .int q, .null] [] g
  refine sr_iload_n hA si_147_0 rfl ?_
  refine sr_SFi (as := [.int (nI r)]) (st := []) hA si_147_1 ss_140 sk_147_93 (mc_isRow1 X g (by omega)) (by omega) rfl rfl (Nat.le_of_ble_eq_true rfl) ?_
  refine sr_if_eqN (tgt := 14) hA si_147_4 (by decide) (by omega) (fun c1 => absurd c1 (by omega)) (fun c1 => ?_)
  refine sr_iload_n hA si_147_7 rfl ?_
  refine sr_SFi (as := [.int t]) (st := []) hA si_147_8 ss_140 sk_147_93 (mc_isRowM X g ht) (by omega) rfl rfl (Nat.le_of_ble_eq_true rfl) ?_
  refine sr_if_neN (tgt := 16) hA si_147_11 (by decide) (by omega) (fun c2 => absurd c2 (by omega)) (fun c2 => ?_)
  refine sr_iconst (v := (-1)) hA si_147_14 (by decide) ?_
  exact sr_iretF hA si_147_15 sq_r_147 rfl rfl
set_option maxRecDepth 20000 in
theorem mc_copy_d (X : sp_X) (g : sp_G) {r : Nat} (hr : r < 6) (i : Int32) {t : Nat} (ht : 6 ≤ t) (htb : t < 2 ^ 31) (j : Int32) (q : Int32) : sp_Ct X 9 147 [.ref 64, .int (nI r), .int i, .int (nI t), .int j, .int q] g (sp_Fi (-1) g) := by
  refine sp_walkN (n := 7) sq_p_147 sq_l_147 (Nat.le_of_ble_eq_true rfl) (fun a hA => ?_)
  show sp_Ev X a 147 0 [.ref 64, .int (nI r), .int i, .int (nI t), .int j, .int q, .null] [] g
  refine sr_iload_n hA si_147_0 rfl ?_
  refine sr_SFi (as := [.int (nI r)]) (st := []) hA si_147_1 ss_140 sk_147_93 (mc_isRow1 X g (by omega)) (by omega) rfl rfl (Nat.le_of_ble_eq_true rfl) ?_
  refine sr_if_eqN (tgt := 14) hA si_147_4 (by decide) (by omega) (fun c1 => absurd c1 (by omega)) (fun c1 => ?_)
  refine sr_iload_n hA si_147_7 rfl ?_
  refine sr_SFi (as := [.int (nI t)]) (st := []) hA si_147_8 ss_140 sk_147_93 (mc_isRowH X g (by omega) (by omega)) (by omega) rfl rfl (Nat.le_of_ble_eq_true rfl) ?_
  refine sr_if_neN (tgt := 16) hA si_147_11 (by decide) (by omega) (fun c2 => absurd c2 (by omega)) (fun c2 => ?_)
  refine sr_iconst (v := (-1)) hA si_147_14 (by decide) ?_
  exact sr_iretF hA si_147_15 sq_r_147 rfl rfl
set_option maxRecDepth 20000 in
theorem mc_copy_e (X : sp_X) (g : sp_G) {r : Nat} (hr : r < 6) (i : Int32) {t : Nat} (ht : t < 6) (j : Int32) {q : Int32} (hq : q < 0) : sp_Ct X 9 147 [.ref 64, .int (nI r), .int i, .int (nI t), .int j, .int q] g (sp_Fi (-3) (sp_rm6 g 5)) := by
  refine sp_walkN (n := 7) sq_p_147 sq_l_147 (Nat.le_of_ble_eq_true rfl) (fun a hA => ?_)
  show sp_Ev X a 147 0 [.ref 64, .int (nI r), .int i, .int (nI t), .int j, .int q, .null] [] g
  refine sr_iload_n hA si_147_0 rfl ?_
  refine sr_SFi (as := [.int (nI r)]) (st := []) hA si_147_1 ss_140 sk_147_93 (mc_isRow1 X g (by omega)) (by omega) rfl rfl (Nat.le_of_ble_eq_true rfl) ?_
  refine sr_if_eqN (tgt := 14) hA si_147_4 (by decide) (by omega) (fun c1 => absurd c1 (by omega)) (fun c1 => ?_)
  refine sr_iload_n hA si_147_7 rfl ?_
  refine sr_SFi (as := [.int (nI t)]) (st := []) hA si_147_8 ss_140 sk_147_93 (mc_isRow1 X g (by omega)) (by omega) rfl rfl (Nat.le_of_ble_eq_true rfl) ?_
  refine sr_if_neN (tgt := 16) hA si_147_11 (by decide) (by omega) (fun c2 => ?_) (fun c2 => absurd c2 (by omega))
  refine sr_iload hA si_147_16 rfl ?_
  refine sr_if_ge (tgt := 27) hA si_147_18 (by decide) (fun c3 => absurd c3 (sp_m4 hq)) (fun c3 => ?_)
  refine sr_aload_n hA si_147_21 rfl ?_
  refine sr_iconst (v := nI 5) hA si_147_22 (by decide) ?_
  refine sr_VFi (c := 64) (ci := 8) (as := [.int (nI 5)]) (st := []) hA si_147_23 sv_141 sk_147_97 (mc_meets X g (by omega)) (by omega) rfl (by decide) (by decide) rfl sq_c_141 rfl (Nat.le_of_ble_eq_true rfl) ?_
  exact sr_iretF hA si_147_26 sq_r_147 rfl rfl
set_option maxRecDepth 20000 in
theorem mc_copy_f (X : sp_X) (g : sp_G) {r : Nat} (hr : r < 6) (i : Int32) {t : Nat} (ht : t < 6) (j : Int32) {q : Nat} (hqb : q < 2 ^ 31) (hz : g.1 66 r = -1) : sp_Ct X 9 147 [.ref 64, .int (nI r), .int i, .int (nI t), .int j, .int (nI q)] g (sp_Fi (-3) (sp_rm6 g 1)) := by
  refine sp_walkN (n := 7) sq_p_147 sq_l_147 (Nat.le_of_ble_eq_true rfl) (fun a hA => ?_)
  show sp_Ev X a 147 0 [.ref 64, .int (nI r), .int i, .int (nI t), .int j, .int (nI q), .null] [] g
  refine sr_iload_n hA si_147_0 rfl ?_
  refine sr_SFi (as := [.int (nI r)]) (st := []) hA si_147_1 ss_140 sk_147_93 (mc_isRow1 X g (by omega)) (by omega) rfl rfl (Nat.le_of_ble_eq_true rfl) ?_
  refine sr_if_eqN (tgt := 14) hA si_147_4 (by decide) (by omega) (fun c1 => absurd c1 (by omega)) (fun c1 => ?_)
  refine sr_iload_n hA si_147_7 rfl ?_
  refine sr_SFi (as := [.int (nI t)]) (st := []) hA si_147_8 ss_140 sk_147_93 (mc_isRow1 X g (by omega)) (by omega) rfl rfl (Nat.le_of_ble_eq_true rfl) ?_
  refine sr_if_neN (tgt := 16) hA si_147_11 (by decide) (by omega) (fun c2 => ?_) (fun c2 => absurd c2 (by omega))
  refine sr_iload hA si_147_16 rfl ?_
  refine sr_if_geN (tgt := 27) hA si_147_18 (by decide) (by omega) ?_
  refine sr_aload_n hA si_147_27 rfl ?_
  refine sr_getR (r := 66) hA si_147_28 sf_147_17 (by decide) (by decide) rfl rfl rfl ?_
  refine sr_iload_n hA si_147_31 rfl ?_
  refine sr_ialdNv (v := (-1)) (n := 6) hA si_147_32 (by decide) rfl rfl (by omega) (by decide) hz ?_
  refine sr_if_lt (tgt := 45) hA si_147_33 (by decide) (fun c4 => ?_) (fun c4 => absurd (by decide) c4)
  refine sr_aload_n hA si_147_45 rfl ?_
  refine sr_iconst (v := nI 1) hA si_147_46 (by decide) ?_
  refine sr_VFi (c := 64) (ci := 8) (as := [.int (nI 1)]) (st := []) hA si_147_47 sv_141 sk_147_97 (mc_meets X g (by omega)) (by omega) rfl (by decide) (by decide) rfl sq_c_141 rfl (Nat.le_of_ble_eq_true rfl) ?_
  exact sr_iretF hA si_147_50 sq_r_147 rfl rfl
set_option maxRecDepth 20000 in
theorem mc_copy_g (X : sp_X) (g : sp_G) {r : Nat} (hr : r < 6) (i : Int32) {t : Nat} (ht : t < 6) (j : Int32) {q : Nat} (hqb : q < 2 ^ 31) {z : Nat} (hz : g.1 66 r = nI z) (hzb : z ≤ 40) (hy : g.1 66 t = -1) : sp_Ct X 9 147 [.ref 64, .int (nI r), .int i, .int (nI t), .int j, .int (nI q)] g (sp_Fi (-3) (sp_rm6 g 1)) := by
  refine sp_walkN (n := 7) sq_p_147 sq_l_147 (Nat.le_of_ble_eq_true rfl) (fun a hA => ?_)
  show sp_Ev X a 147 0 [.ref 64, .int (nI r), .int i, .int (nI t), .int j, .int (nI q), .null] [] g
  refine sr_iload_n hA si_147_0 rfl ?_
  refine sr_SFi (as := [.int (nI r)]) (st := []) hA si_147_1 ss_140 sk_147_93 (mc_isRow1 X g (by omega)) (by omega) rfl rfl (Nat.le_of_ble_eq_true rfl) ?_
  refine sr_if_eqN (tgt := 14) hA si_147_4 (by decide) (by omega) (fun c1 => absurd c1 (by omega)) (fun c1 => ?_)
  refine sr_iload_n hA si_147_7 rfl ?_
  refine sr_SFi (as := [.int (nI t)]) (st := []) hA si_147_8 ss_140 sk_147_93 (mc_isRow1 X g (by omega)) (by omega) rfl rfl (Nat.le_of_ble_eq_true rfl) ?_
  refine sr_if_neN (tgt := 16) hA si_147_11 (by decide) (by omega) (fun c2 => ?_) (fun c2 => absurd c2 (by omega))
  refine sr_iload hA si_147_16 rfl ?_
  refine sr_if_geN (tgt := 27) hA si_147_18 (by decide) (by omega) ?_
  refine sr_aload_n hA si_147_27 rfl ?_
  refine sr_getR (r := 66) hA si_147_28 sf_147_17 (by decide) (by decide) rfl rfl rfl ?_
  refine sr_iload_n hA si_147_31 rfl ?_
  refine sr_ialdNv (v := nI z) (n := 6) hA si_147_32 (by decide) rfl rfl (by omega) (by decide) hz ?_
  refine sr_if_ltN (tgt := 45) hA si_147_33 (by decide) (by omega) ?_
  refine sr_aload_n hA si_147_36 rfl ?_
  refine sr_getR (r := 66) hA si_147_37 sf_147_17 (by decide) (by decide) rfl rfl rfl ?_
  refine sr_iload_n hA si_147_40 rfl ?_
  refine sr_ialdNv (v := (-1)) (n := 6) hA si_147_41 (by decide) rfl rfl (by omega) (by decide) hy ?_
  refine sr_if_ge (tgt := 51) hA si_147_42 (by decide) (fun c5 => absurd c5 (sp_m4 (by decide))) (fun c5 => ?_)
  refine sr_aload_n hA si_147_45 rfl ?_
  refine sr_iconst (v := nI 1) hA si_147_46 (by decide) ?_
  refine sr_VFi (c := 64) (ci := 8) (as := [.int (nI 1)]) (st := []) hA si_147_47 sv_141 sk_147_97 (mc_meets X g (by omega)) (by omega) rfl (by decide) (by decide) rfl sq_c_141 rfl (Nat.le_of_ble_eq_true rfl) ?_
  exact sr_iretF hA si_147_50 sq_r_147 rfl rfl
set_option maxRecDepth 20000 in
theorem mc_copy_h (X : sp_X) (g : sp_G) {r : Nat} (hr : r < 6) {i : Int32} (hi : i < 0) {t : Nat} (ht : t < 6) (j : Int32) {q : Nat} (hqb : q < 2 ^ 31) {z : Nat} (hz : g.1 66 r = nI z) (hzb : z ≤ 40) {y : Nat} (hy : g.1 66 t = nI y) (hyb : y ≤ 40) : sp_Ct X 9 147 [.ref 64, .int (nI r), .int i, .int (nI t), .int j, .int (nI q)] g (sp_Fi (-3) (sp_rm6 g 2)) := by
  refine sp_walkN (n := 7) sq_p_147 sq_l_147 (Nat.le_of_ble_eq_true rfl) (fun a hA => ?_)
  show sp_Ev X a 147 0 [.ref 64, .int (nI r), .int i, .int (nI t), .int j, .int (nI q), .null] [] g
  refine sr_iload_n hA si_147_0 rfl ?_
  refine sr_SFi (as := [.int (nI r)]) (st := []) hA si_147_1 ss_140 sk_147_93 (mc_isRow1 X g (by omega)) (by omega) rfl rfl (Nat.le_of_ble_eq_true rfl) ?_
  refine sr_if_eqN (tgt := 14) hA si_147_4 (by decide) (by omega) (fun c1 => absurd c1 (by omega)) (fun c1 => ?_)
  refine sr_iload_n hA si_147_7 rfl ?_
  refine sr_SFi (as := [.int (nI t)]) (st := []) hA si_147_8 ss_140 sk_147_93 (mc_isRow1 X g (by omega)) (by omega) rfl rfl (Nat.le_of_ble_eq_true rfl) ?_
  refine sr_if_neN (tgt := 16) hA si_147_11 (by decide) (by omega) (fun c2 => ?_) (fun c2 => absurd c2 (by omega))
  refine sr_iload hA si_147_16 rfl ?_
  refine sr_if_geN (tgt := 27) hA si_147_18 (by decide) (by omega) ?_
  refine sr_aload_n hA si_147_27 rfl ?_
  refine sr_getR (r := 66) hA si_147_28 sf_147_17 (by decide) (by decide) rfl rfl rfl ?_
  refine sr_iload_n hA si_147_31 rfl ?_
  refine sr_ialdNv (v := nI z) (n := 6) hA si_147_32 (by decide) rfl rfl (by omega) (by decide) hz ?_
  refine sr_if_ltN (tgt := 45) hA si_147_33 (by decide) (by omega) ?_
  refine sr_aload_n hA si_147_36 rfl ?_
  refine sr_getR (r := 66) hA si_147_37 sf_147_17 (by decide) (by decide) rfl rfl rfl ?_
  refine sr_iload_n hA si_147_40 rfl ?_
  refine sr_ialdNv (v := nI y) (n := 6) hA si_147_41 (by decide) rfl rfl (by omega) (by decide) hy ?_
  refine sr_if_geN (tgt := 51) hA si_147_42 (by decide) (by omega) ?_
  refine sr_iload_n hA si_147_51 rfl ?_
  refine sr_if_lt (tgt := 95) hA si_147_52 (by decide) (fun c6 => ?_) (fun c6 => absurd hi c6)
  refine sr_aload_n hA si_147_95 rfl ?_
  refine sr_iconst (v := nI 2) hA si_147_96 (by decide) ?_
  refine sr_VFi (c := 64) (ci := 8) (as := [.int (nI 2)]) (st := []) hA si_147_97 sv_141 sk_147_97 (mc_meets X g (by omega)) (by omega) rfl (by decide) (by decide) rfl sq_c_141 rfl (Nat.le_of_ble_eq_true rfl) ?_
  exact sr_iretF hA si_147_100 sq_r_147 rfl rfl
set_option maxRecDepth 20000 in
theorem mc_copy_i (X : sp_X) (g : sp_G) {r : Nat} (hr : r < 6) {i : Nat} (hib : i < 2 ^ 31) {t : Nat} (ht : t < 6) {j : Int32} (hj : j < 0) {q : Nat} (hqb : q < 2 ^ 31) {z : Nat} (hz : g.1 66 r = nI z) (hzb : z ≤ 40) {y : Nat} (hy : g.1 66 t = nI y) (hyb : y ≤ 40) (h1 : z < i + q) : sp_Ct X 9 147 [.ref 64, .int (nI r), .int (nI i), .int (nI t), .int j, .int (nI q)] g (sp_Fi (-3) (sp_rm6 g 2)) := by
  refine sp_walkN (n := 7) sq_p_147 sq_l_147 (Nat.le_of_ble_eq_true rfl) (fun a hA => ?_)
  show sp_Ev X a 147 0 [.ref 64, .int (nI r), .int (nI i), .int (nI t), .int j, .int (nI q), .null] [] g
  refine sr_iload_n hA si_147_0 rfl ?_
  refine sr_SFi (as := [.int (nI r)]) (st := []) hA si_147_1 ss_140 sk_147_93 (mc_isRow1 X g (by omega)) (by omega) rfl rfl (Nat.le_of_ble_eq_true rfl) ?_
  refine sr_if_eqN (tgt := 14) hA si_147_4 (by decide) (by omega) (fun c1 => absurd c1 (by omega)) (fun c1 => ?_)
  refine sr_iload_n hA si_147_7 rfl ?_
  refine sr_SFi (as := [.int (nI t)]) (st := []) hA si_147_8 ss_140 sk_147_93 (mc_isRow1 X g (by omega)) (by omega) rfl rfl (Nat.le_of_ble_eq_true rfl) ?_
  refine sr_if_neN (tgt := 16) hA si_147_11 (by decide) (by omega) (fun c2 => ?_) (fun c2 => absurd c2 (by omega))
  refine sr_iload hA si_147_16 rfl ?_
  refine sr_if_geN (tgt := 27) hA si_147_18 (by decide) (by omega) ?_
  refine sr_aload_n hA si_147_27 rfl ?_
  refine sr_getR (r := 66) hA si_147_28 sf_147_17 (by decide) (by decide) rfl rfl rfl ?_
  refine sr_iload_n hA si_147_31 rfl ?_
  refine sr_ialdNv (v := nI z) (n := 6) hA si_147_32 (by decide) rfl rfl (by omega) (by decide) hz ?_
  refine sr_if_ltN (tgt := 45) hA si_147_33 (by decide) (by omega) ?_
  refine sr_aload_n hA si_147_36 rfl ?_
  refine sr_getR (r := 66) hA si_147_37 sf_147_17 (by decide) (by decide) rfl rfl rfl ?_
  refine sr_iload_n hA si_147_40 rfl ?_
  refine sr_ialdNv (v := nI y) (n := 6) hA si_147_41 (by decide) rfl rfl (by omega) (by decide) hy ?_
  refine sr_if_geN (tgt := 51) hA si_147_42 (by decide) (by omega) ?_
  refine sr_iload_n hA si_147_51 rfl ?_
  refine sr_if_ltN (tgt := 95) hA si_147_52 (by decide) (by omega) ?_
  refine sr_iload hA si_147_55 rfl ?_
  refine sr_if_lt (tgt := 95) hA si_147_57 (by decide) (fun c7 => ?_) (fun c7 => absurd hj c7)
  refine sr_aload_n hA si_147_95 rfl ?_
  refine sr_iconst (v := nI 2) hA si_147_96 (by decide) ?_
  refine sr_VFi (c := 64) (ci := 8) (as := [.int (nI 2)]) (st := []) hA si_147_97 sv_141 sk_147_97 (mc_meets X g (by omega)) (by omega) rfl (by decide) (by decide) rfl sq_c_141 rfl (Nat.le_of_ble_eq_true rfl) ?_
  exact sr_iretF hA si_147_100 sq_r_147 rfl rfl
set_option maxRecDepth 20000 in
theorem mc_copy_i2 (X : sp_X) (g : sp_G) {r : Nat} (hr : r < 6) {i : Nat} (hib : i < 2 ^ 31) {t : Nat} (ht : t < 6) {j : Nat} (hjb : j < 2 ^ 31) {q : Nat} (hqb : q < 2 ^ 31) {z : Nat} (hz : g.1 66 r = nI z) (hzb : z ≤ 40) {y : Nat} (hy : g.1 66 t = nI y) (hyb : y ≤ 40) (h1 : z < i + q) : sp_Ct X 9 147 [.ref 64, .int (nI r), .int (nI i), .int (nI t), .int (nI j), .int (nI q)] g (sp_Fi (-3) (sp_rm6 g 2)) := by
  refine sp_walkN (n := 7) sq_p_147 sq_l_147 (Nat.le_of_ble_eq_true rfl) (fun a hA => ?_)
  show sp_Ev X a 147 0 [.ref 64, .int (nI r), .int (nI i), .int (nI t), .int (nI j), .int (nI q), .null] [] g
  refine sr_iload_n hA si_147_0 rfl ?_
  refine sr_SFi (as := [.int (nI r)]) (st := []) hA si_147_1 ss_140 sk_147_93 (mc_isRow1 X g (by omega)) (by omega) rfl rfl (Nat.le_of_ble_eq_true rfl) ?_
  refine sr_if_eqN (tgt := 14) hA si_147_4 (by decide) (by omega) (fun c1 => absurd c1 (by omega)) (fun c1 => ?_)
  refine sr_iload_n hA si_147_7 rfl ?_
  refine sr_SFi (as := [.int (nI t)]) (st := []) hA si_147_8 ss_140 sk_147_93 (mc_isRow1 X g (by omega)) (by omega) rfl rfl (Nat.le_of_ble_eq_true rfl) ?_
  refine sr_if_neN (tgt := 16) hA si_147_11 (by decide) (by omega) (fun c2 => ?_) (fun c2 => absurd c2 (by omega))
  refine sr_iload hA si_147_16 rfl ?_
  refine sr_if_geN (tgt := 27) hA si_147_18 (by decide) (by omega) ?_
  refine sr_aload_n hA si_147_27 rfl ?_
  refine sr_getR (r := 66) hA si_147_28 sf_147_17 (by decide) (by decide) rfl rfl rfl ?_
  refine sr_iload_n hA si_147_31 rfl ?_
  refine sr_ialdNv (v := nI z) (n := 6) hA si_147_32 (by decide) rfl rfl (by omega) (by decide) hz ?_
  refine sr_if_ltN (tgt := 45) hA si_147_33 (by decide) (by omega) ?_
  refine sr_aload_n hA si_147_36 rfl ?_
  refine sr_getR (r := 66) hA si_147_37 sf_147_17 (by decide) (by decide) rfl rfl rfl ?_
  refine sr_iload_n hA si_147_40 rfl ?_
  refine sr_ialdNv (v := nI y) (n := 6) hA si_147_41 (by decide) rfl rfl (by omega) (by decide) hy ?_
  refine sr_if_geN (tgt := 51) hA si_147_42 (by decide) (by omega) ?_
  refine sr_iload_n hA si_147_51 rfl ?_
  refine sr_if_ltN (tgt := 95) hA si_147_52 (by decide) (by omega) ?_
  refine sr_iload hA si_147_55 rfl ?_
  refine sr_if_ltN (tgt := 95) hA si_147_57 (by decide) (by omega) ?_
  refine sr_iload_n hA si_147_60 rfl ?_
  refine sr_i2l hA si_147_61 ?_
  refine sr_iload hA si_147_62 rfl ?_
  refine sr_i2l hA si_147_64 ?_
  refine sr_ladd hA si_147_65 ?_
  refine sr_aload_n hA si_147_66 rfl ?_
  refine sr_getR (r := 66) hA si_147_67 sf_147_17 (by decide) (by decide) rfl rfl rfl ?_
  refine sr_iload_n hA si_147_70 rfl ?_
  refine sr_ialdNv (v := nI z) (n := 6) hA si_147_71 (by decide) rfl rfl (by omega) (by decide) hz ?_
  refine sr_i2l hA si_147_72 ?_
  refine sr_lcmp hA si_147_73 ?_
  refine sr_if_gt (tgt := 95) hA si_147_74 (by decide) (fun c8 => ?_) (fun c8 => absurd ((sp_lc (by omega) (by omega) (by omega)).mpr (by omega)) c8)
  refine sr_aload_n hA si_147_95 rfl ?_
  refine sr_iconst (v := nI 2) hA si_147_96 (by decide) ?_
  refine sr_VFi (c := 64) (ci := 8) (as := [.int (nI 2)]) (st := []) hA si_147_97 sv_141 sk_147_97 (mc_meets X g (by omega)) (by omega) rfl (by decide) (by decide) rfl sq_c_141 rfl (Nat.le_of_ble_eq_true rfl) ?_
  exact sr_iretF hA si_147_100 sq_r_147 rfl rfl
set_option maxRecDepth 20000 in
theorem mc_copy_j (X : sp_X) (g : sp_G) {r : Nat} (hr : r < 6) {i : Nat} (hib : i < 2 ^ 31) {t : Nat} (ht : t < 6) {j : Int32} (hj : j < 0) {q : Nat} (hqb : q < 2 ^ 31) {z : Nat} (hz : g.1 66 r = nI z) (hzb : z ≤ 40) {y : Nat} (hy : g.1 66 t = nI y) (hyb : y ≤ 40) (h1 : i + q ≤ z) : sp_Ct X 9 147 [.ref 64, .int (nI r), .int (nI i), .int (nI t), .int j, .int (nI q)] g (sp_Fi (-3) (sp_rm6 g 2)) := by
  refine sp_walkN (n := 7) sq_p_147 sq_l_147 (Nat.le_of_ble_eq_true rfl) (fun a hA => ?_)
  show sp_Ev X a 147 0 [.ref 64, .int (nI r), .int (nI i), .int (nI t), .int j, .int (nI q), .null] [] g
  refine sr_iload_n hA si_147_0 rfl ?_
  refine sr_SFi (as := [.int (nI r)]) (st := []) hA si_147_1 ss_140 sk_147_93 (mc_isRow1 X g (by omega)) (by omega) rfl rfl (Nat.le_of_ble_eq_true rfl) ?_
  refine sr_if_eqN (tgt := 14) hA si_147_4 (by decide) (by omega) (fun c1 => absurd c1 (by omega)) (fun c1 => ?_)
  refine sr_iload_n hA si_147_7 rfl ?_
  refine sr_SFi (as := [.int (nI t)]) (st := []) hA si_147_8 ss_140 sk_147_93 (mc_isRow1 X g (by omega)) (by omega) rfl rfl (Nat.le_of_ble_eq_true rfl) ?_
  refine sr_if_neN (tgt := 16) hA si_147_11 (by decide) (by omega) (fun c2 => ?_) (fun c2 => absurd c2 (by omega))
  refine sr_iload hA si_147_16 rfl ?_
  refine sr_if_geN (tgt := 27) hA si_147_18 (by decide) (by omega) ?_
  refine sr_aload_n hA si_147_27 rfl ?_
  refine sr_getR (r := 66) hA si_147_28 sf_147_17 (by decide) (by decide) rfl rfl rfl ?_
  refine sr_iload_n hA si_147_31 rfl ?_
  refine sr_ialdNv (v := nI z) (n := 6) hA si_147_32 (by decide) rfl rfl (by omega) (by decide) hz ?_
  refine sr_if_ltN (tgt := 45) hA si_147_33 (by decide) (by omega) ?_
  refine sr_aload_n hA si_147_36 rfl ?_
  refine sr_getR (r := 66) hA si_147_37 sf_147_17 (by decide) (by decide) rfl rfl rfl ?_
  refine sr_iload_n hA si_147_40 rfl ?_
  refine sr_ialdNv (v := nI y) (n := 6) hA si_147_41 (by decide) rfl rfl (by omega) (by decide) hy ?_
  refine sr_if_geN (tgt := 51) hA si_147_42 (by decide) (by omega) ?_
  refine sr_iload_n hA si_147_51 rfl ?_
  refine sr_if_ltN (tgt := 95) hA si_147_52 (by decide) (by omega) ?_
  refine sr_iload hA si_147_55 rfl ?_
  refine sr_if_lt (tgt := 95) hA si_147_57 (by decide) (fun c7 => ?_) (fun c7 => absurd hj c7)
  refine sr_aload_n hA si_147_95 rfl ?_
  refine sr_iconst (v := nI 2) hA si_147_96 (by decide) ?_
  refine sr_VFi (c := 64) (ci := 8) (as := [.int (nI 2)]) (st := []) hA si_147_97 sv_141 sk_147_97 (mc_meets X g (by omega)) (by omega) rfl (by decide) (by decide) rfl sq_c_141 rfl (Nat.le_of_ble_eq_true rfl) ?_
  exact sr_iretF hA si_147_100 sq_r_147 rfl rfl
set_option maxRecDepth 20000 in
theorem mc_copy_k (X : sp_X) (g : sp_G) {r : Nat} (hr : r < 6) {i : Nat} (hib : i < 2 ^ 31) {t : Nat} (ht : t < 6) {j : Nat} (hjb : j < 2 ^ 31) {q : Nat} (hqb : q < 2 ^ 31) {z : Nat} (hz : g.1 66 r = nI z) (hzb : z ≤ 40) {y : Nat} (hy : g.1 66 t = nI y) (hyb : y ≤ 40) (h1 : i + q ≤ z) (h2 : y < j + q) : sp_Ct X 9 147 [.ref 64, .int (nI r), .int (nI i), .int (nI t), .int (nI j), .int (nI q)] g (sp_Fi (-3) (sp_rm6 g 2)) := by
  refine sp_walkN (n := 7) sq_p_147 sq_l_147 (Nat.le_of_ble_eq_true rfl) (fun a hA => ?_)
  show sp_Ev X a 147 0 [.ref 64, .int (nI r), .int (nI i), .int (nI t), .int (nI j), .int (nI q), .null] [] g
  refine sr_iload_n hA si_147_0 rfl ?_
  refine sr_SFi (as := [.int (nI r)]) (st := []) hA si_147_1 ss_140 sk_147_93 (mc_isRow1 X g (by omega)) (by omega) rfl rfl (Nat.le_of_ble_eq_true rfl) ?_
  refine sr_if_eqN (tgt := 14) hA si_147_4 (by decide) (by omega) (fun c1 => absurd c1 (by omega)) (fun c1 => ?_)
  refine sr_iload_n hA si_147_7 rfl ?_
  refine sr_SFi (as := [.int (nI t)]) (st := []) hA si_147_8 ss_140 sk_147_93 (mc_isRow1 X g (by omega)) (by omega) rfl rfl (Nat.le_of_ble_eq_true rfl) ?_
  refine sr_if_neN (tgt := 16) hA si_147_11 (by decide) (by omega) (fun c2 => ?_) (fun c2 => absurd c2 (by omega))
  refine sr_iload hA si_147_16 rfl ?_
  refine sr_if_geN (tgt := 27) hA si_147_18 (by decide) (by omega) ?_
  refine sr_aload_n hA si_147_27 rfl ?_
  refine sr_getR (r := 66) hA si_147_28 sf_147_17 (by decide) (by decide) rfl rfl rfl ?_
  refine sr_iload_n hA si_147_31 rfl ?_
  refine sr_ialdNv (v := nI z) (n := 6) hA si_147_32 (by decide) rfl rfl (by omega) (by decide) hz ?_
  refine sr_if_ltN (tgt := 45) hA si_147_33 (by decide) (by omega) ?_
  refine sr_aload_n hA si_147_36 rfl ?_
  refine sr_getR (r := 66) hA si_147_37 sf_147_17 (by decide) (by decide) rfl rfl rfl ?_
  refine sr_iload_n hA si_147_40 rfl ?_
  refine sr_ialdNv (v := nI y) (n := 6) hA si_147_41 (by decide) rfl rfl (by omega) (by decide) hy ?_
  refine sr_if_geN (tgt := 51) hA si_147_42 (by decide) (by omega) ?_
  refine sr_iload_n hA si_147_51 rfl ?_
  refine sr_if_ltN (tgt := 95) hA si_147_52 (by decide) (by omega) ?_
  refine sr_iload hA si_147_55 rfl ?_
  refine sr_if_ltN (tgt := 95) hA si_147_57 (by decide) (by omega) ?_
  refine sr_iload_n hA si_147_60 rfl ?_
  refine sr_i2l hA si_147_61 ?_
  refine sr_iload hA si_147_62 rfl ?_
  refine sr_i2l hA si_147_64 ?_
  refine sr_ladd hA si_147_65 ?_
  refine sr_aload_n hA si_147_66 rfl ?_
  refine sr_getR (r := 66) hA si_147_67 sf_147_17 (by decide) (by decide) rfl rfl rfl ?_
  refine sr_iload_n hA si_147_70 rfl ?_
  refine sr_ialdNv (v := nI z) (n := 6) hA si_147_71 (by decide) rfl rfl (by omega) (by decide) hz ?_
  refine sr_i2l hA si_147_72 ?_
  refine sr_lcmp hA si_147_73 ?_
  refine sr_if_gt (tgt := 95) hA si_147_74 (by decide) (fun c8 => absurd ((sp_lc (by omega) (by omega) (by omega)).mp c8) (by omega)) (fun c8 => ?_)
  refine sr_iload hA si_147_77 rfl ?_
  refine sr_i2l hA si_147_79 ?_
  refine sr_iload hA si_147_80 rfl ?_
  refine sr_i2l hA si_147_82 ?_
  refine sr_ladd hA si_147_83 ?_
  refine sr_aload_n hA si_147_84 rfl ?_
  refine sr_getR (r := 66) hA si_147_85 sf_147_17 (by decide) (by decide) rfl rfl rfl ?_
  refine sr_iload_n hA si_147_88 rfl ?_
  refine sr_ialdNv (v := nI y) (n := 6) hA si_147_89 (by decide) rfl rfl (by omega) (by decide) hy ?_
  refine sr_i2l hA si_147_90 ?_
  refine sr_lcmp hA si_147_91 ?_
  refine sr_if_le (tgt := 101) hA si_147_92 (by decide) (fun c9 => absurd ((sp_lc' (by omega) (by omega) (by omega)).mp c9) (by omega)) (fun c9 => ?_)
  refine sr_aload_n hA si_147_95 rfl ?_
  refine sr_iconst (v := nI 2) hA si_147_96 (by decide) ?_
  refine sr_VFi (c := 64) (ci := 8) (as := [.int (nI 2)]) (st := []) hA si_147_97 sv_141 sk_147_97 (mc_meets X g (by omega)) (by omega) rfl (by decide) (by decide) rfl sq_c_141 rfl (Nat.le_of_ble_eq_true rfl) ?_
  exact sr_iretF hA si_147_100 sq_r_147 rfl rfl
set_option maxRecDepth 20000 in
theorem ml_copy2 {X : sp_X} {a : sp_Ac} {g : sp_G} {r i t j q : Nat} (ht : t < 6) (h2 : j + q ≤ 40) (hA : sp_Act X 147 9 (sp_Fi (nI 1) (sp_wA g 67 (va_cpy (g.1 68) (g.1 67) 0 (40 * t + j) q))) a) : ∀ (m : Nat) (k : Nat), k + m = q → sp_Ev X a 147 136 [.ref 64, .int (nI r), .int (nI i), .int (nI t), .int (nI j), .int (nI q), .int (nI k)] [] (sp_wA g 67 (va_cpy (g.1 68) (g.1 67) 0 (40 * t + j) k)) := by
  intro m
  induction m with
  | zero =>
    intro k h0_
    refine sr_iload hA si_147_136 rfl ?_
    refine sr_iload hA si_147_138 rfl ?_
    refine sr_icmp_geN (tgt := 171) hA si_147_140 (by decide) (by omega) (by omega) (fun c1 => ?_) (fun c1 => absurd c1 (by omega))
    refine sr_iconst (v := nI 1) hA si_147_171 (by decide) ?_
    exact sr_iretF hA si_147_172 sq_r_147 rfl (by rw [show k = q by omega])
  | succ m ih =>
    intro k h0_
    refine sr_iload hA si_147_136 rfl ?_
    refine sr_iload hA si_147_138 rfl ?_
    refine sr_icmp_geN (tgt := 171) hA si_147_140 (by decide) (by omega) (by omega) (fun c1 => absurd c1 (by omega)) (fun c1 => ?_)
    refine sr_aload_n hA si_147_143 rfl ?_
    refine sr_getR (r := 67) hA si_147_144 sf_147_20 (by decide) (by decide) rfl rfl rfl ?_
    refine sr_bipush (v := nI 40) hA si_147_147 (by decide) ?_
    refine sr_iload_n hA si_147_149 rfl ?_
    refine sr_imulN hA si_147_150 ?_
    refine sr_iload hA si_147_151 rfl ?_
    refine sr_iaddN hA si_147_153 ?_
    refine sr_iload hA si_147_154 rfl ?_
    refine sr_iaddN hA si_147_156 ?_
    refine sr_aload_n hA si_147_157 rfl ?_
    refine sr_getR (r := 68) hA si_147_158 sf_147_23 (by decide) (by decide) rfl rfl rfl ?_
    refine sr_iload hA si_147_161 rfl ?_
    refine sr_ialdNv (v := (sp_wA g 67 (va_cpy (g.1 68) (g.1 67) 0 (40 * t + j) k)).1 68 k) (n := 40) hA si_147_163 (by decide) rfl rfl (by omega) (by decide) rfl ?_
    refine sr_iastN (n := 240) hA si_147_164 (by decide) rfl rfl (by omega) (by decide) ?_
    refine sr_iincN (x := k) (y := 1) (ls1 := [.ref 64, .int (nI r), .int (nI i), .int (nI t), .int (nI j), .int (nI q), .int (nI (k + 1))]) hA si_147_165 rfl rfl (by rw [sq_l_147]; decide) rfl ?_
    refine sr_goto (tgt := 136) hA si_147_168 (by decide) ?_
    have e := sp_cpyS g 67 (g.1 68) 0 (40 * t + j) k
    rw [Nat.zero_add] at e
    have e2 : ∀ x, (sp_wA g 67 (va_cpy (g.1 68) (g.1 67) 0 (40 * t + j) k)).1 68 x = g.1 68 x := fun x => by rw [sp_rdA (by decide)]
    rw [e2, e]
    exact ih (k + 1) (by omega)
set_option maxRecDepth 20000 in
theorem ml_copy1 {X : sp_X} {a : sp_Ac} {g g0 : sp_G} {r i t j q : Nat} (hr : r < 6) (ht : t < 6) (h1 : i + q ≤ 40) (h2 : j + q ≤ 40) (hg : g0 = sp_wA (sp_wA g 68 (va_cpy (g.1 67) (g.1 68) (40 * r + i) 0 q)) 67 (va_cpy (va_cpy (g.1 67) (g.1 68) (40 * r + i) 0 q) (g.1 67) 0 (40 * t + j) q)) (hA : sp_Act X 147 9 (sp_Fi (nI 1) g0) a) : ∀ (m : Nat) (k : Nat), k + m = q → sp_Ev X a 147 104 [.ref 64, .int (nI r), .int (nI i), .int (nI t), .int (nI j), .int (nI q), .int (nI k)] [] (sp_wA g 68 (va_cpy (g.1 67) (g.1 68) (40 * r + i) 0 k)) := by
  intro m
  induction m with
  | zero =>
    intro k h0_
    refine sr_iload hA si_147_104 rfl ?_
    refine sr_iload hA si_147_106 rfl ?_
    refine sr_icmp_geN (tgt := 133) hA si_147_108 (by decide) (by omega) (by omega) (fun c1 => ?_) (fun c1 => absurd c1 (by omega))
    refine sr_iconst (v := nI 0) hA si_147_133 (by decide) ?_
    refine sr_istore (ls1 := [.ref 64, .int (nI r), .int (nI i), .int (nI t), .int (nI j), .int (nI q), .int (nI 0)]) hA si_147_134 (by rw [sq_l_147]; decide) rfl ?_
    obtain rfl : k = q := by omega
    subst hg
    have h0 := ml_copy2 (g := sp_wA g 68 (va_cpy (g.1 67) (g.1 68) (40 * r + i) 0 k)) (r := r) (i := i) ht h2 (by rw [sp_rdAs, sp_rdA (by decide)]; exact hA) k 0 (by omega)
    rw [sp_cpy0] at h0
    exact h0
  | succ m ih =>
    intro k h0_
    refine sr_iload hA si_147_104 rfl ?_
    refine sr_iload hA si_147_106 rfl ?_
    refine sr_icmp_geN (tgt := 133) hA si_147_108 (by decide) (by omega) (by omega) (fun c1 => absurd c1 (by omega)) (fun c1 => ?_)
    refine sr_aload_n hA si_147_111 rfl ?_
    refine sr_getR (r := 68) hA si_147_112 sf_147_23 (by decide) (by decide) rfl rfl rfl ?_
    refine sr_iload hA si_147_115 rfl ?_
    refine sr_aload_n hA si_147_117 rfl ?_
    refine sr_iload_n hA si_147_118 rfl ?_
    refine sr_iload_n hA si_147_119 rfl ?_
    refine sr_iload hA si_147_120 rfl ?_
    refine sr_iaddN hA si_147_122 ?_
    refine sr_VFi (c := 64) (ci := 8) (as := [.int (nI r), .int (nI (i + k))]) (st := [.int (nI k), .ref 68]) hA si_147_123 sv_143 sk_147_101 (mc_rowAt X (sp_wA g 68 (va_cpy (g.1 67) (g.1 68) (40 * r + i) 0 k)) (by omega)) (by omega) rfl (by decide) (by decide) rfl sq_c_143 rfl (Nat.le_of_ble_eq_true rfl) ?_
    refine sr_iastN (n := 40) hA si_147_126 (by decide) rfl rfl (by omega) (by decide) ?_
    refine sr_iincN (x := k) (y := 1) (ls1 := [.ref 64, .int (nI r), .int (nI i), .int (nI t), .int (nI j), .int (nI q), .int (nI (k + 1))]) hA si_147_127 rfl rfl (by rw [sq_l_147]; decide) rfl ?_
    refine sr_goto (tgt := 104) hA si_147_130 (by decide) ?_
    have e := sp_cpyS g 68 (g.1 67) (40 * r + i) 0 k
    rw [Nat.zero_add] at e
    have e2 : ∀ x, (sp_wA g 68 (va_cpy (g.1 67) (g.1 68) (40 * r + i) 0 k)).1 67 x = g.1 67 x := fun x => by rw [sp_rdA (by decide)]
    rw [e2, show 40 * r + (i + k) = 40 * r + i + k by omega, e]
    exact ih (k + 1) (by omega)
set_option maxRecDepth 20000 in
theorem mc_copy_l (X : sp_X) (g : sp_G) {r : Nat} (hr : r < 6) {i : Nat} (hib : i < 2 ^ 31) {t : Nat} (ht : t < 6) {j : Nat} (hjb : j < 2 ^ 31) {q : Nat} (hqb : q < 2 ^ 31) {z : Nat} (hz : g.1 66 r = nI z) (hzb : z ≤ 40) {y : Nat} (hy : g.1 66 t = nI y) (hyb : y ≤ 40) (h1 : i + q ≤ z) (h2 : j + q ≤ y) : sp_Ct X 9 147 [.ref 64, .int (nI r), .int (nI i), .int (nI t), .int (nI j), .int (nI q)] g (sp_Fi (nI 1) (sp_wA (sp_wA g 68 (va_cpy (g.1 67) (g.1 68) (40 * r + i) 0 q)) 67 (va_cpy (va_cpy (g.1 67) (g.1 68) (40 * r + i) 0 q) (g.1 67) 0 (40 * t + j) q))) := by
  refine sp_walkN (n := 7) sq_p_147 sq_l_147 (Nat.le_of_ble_eq_true rfl) (fun a hA => ?_)
  show sp_Ev X a 147 0 [.ref 64, .int (nI r), .int (nI i), .int (nI t), .int (nI j), .int (nI q), .null] [] g
  refine sr_iload_n hA si_147_0 rfl ?_
  refine sr_SFi (as := [.int (nI r)]) (st := []) hA si_147_1 ss_140 sk_147_93 (mc_isRow1 X g (by omega)) (by omega) rfl rfl (Nat.le_of_ble_eq_true rfl) ?_
  refine sr_if_eqN (tgt := 14) hA si_147_4 (by decide) (by omega) (fun c1 => absurd c1 (by omega)) (fun c1 => ?_)
  refine sr_iload_n hA si_147_7 rfl ?_
  refine sr_SFi (as := [.int (nI t)]) (st := []) hA si_147_8 ss_140 sk_147_93 (mc_isRow1 X g (by omega)) (by omega) rfl rfl (Nat.le_of_ble_eq_true rfl) ?_
  refine sr_if_neN (tgt := 16) hA si_147_11 (by decide) (by omega) (fun c2 => ?_) (fun c2 => absurd c2 (by omega))
  refine sr_iload hA si_147_16 rfl ?_
  refine sr_if_geN (tgt := 27) hA si_147_18 (by decide) (by omega) ?_
  refine sr_aload_n hA si_147_27 rfl ?_
  refine sr_getR (r := 66) hA si_147_28 sf_147_17 (by decide) (by decide) rfl rfl rfl ?_
  refine sr_iload_n hA si_147_31 rfl ?_
  refine sr_ialdNv (v := nI z) (n := 6) hA si_147_32 (by decide) rfl rfl (by omega) (by decide) hz ?_
  refine sr_if_ltN (tgt := 45) hA si_147_33 (by decide) (by omega) ?_
  refine sr_aload_n hA si_147_36 rfl ?_
  refine sr_getR (r := 66) hA si_147_37 sf_147_17 (by decide) (by decide) rfl rfl rfl ?_
  refine sr_iload_n hA si_147_40 rfl ?_
  refine sr_ialdNv (v := nI y) (n := 6) hA si_147_41 (by decide) rfl rfl (by omega) (by decide) hy ?_
  refine sr_if_geN (tgt := 51) hA si_147_42 (by decide) (by omega) ?_
  refine sr_iload_n hA si_147_51 rfl ?_
  refine sr_if_ltN (tgt := 95) hA si_147_52 (by decide) (by omega) ?_
  refine sr_iload hA si_147_55 rfl ?_
  refine sr_if_ltN (tgt := 95) hA si_147_57 (by decide) (by omega) ?_
  refine sr_iload_n hA si_147_60 rfl ?_
  refine sr_i2l hA si_147_61 ?_
  refine sr_iload hA si_147_62 rfl ?_
  refine sr_i2l hA si_147_64 ?_
  refine sr_ladd hA si_147_65 ?_
  refine sr_aload_n hA si_147_66 rfl ?_
  refine sr_getR (r := 66) hA si_147_67 sf_147_17 (by decide) (by decide) rfl rfl rfl ?_
  refine sr_iload_n hA si_147_70 rfl ?_
  refine sr_ialdNv (v := nI z) (n := 6) hA si_147_71 (by decide) rfl rfl (by omega) (by decide) hz ?_
  refine sr_i2l hA si_147_72 ?_
  refine sr_lcmp hA si_147_73 ?_
  refine sr_if_gt (tgt := 95) hA si_147_74 (by decide) (fun c8 => absurd ((sp_lc (by omega) (by omega) (by omega)).mp c8) (by omega)) (fun c8 => ?_)
  refine sr_iload hA si_147_77 rfl ?_
  refine sr_i2l hA si_147_79 ?_
  refine sr_iload hA si_147_80 rfl ?_
  refine sr_i2l hA si_147_82 ?_
  refine sr_ladd hA si_147_83 ?_
  refine sr_aload_n hA si_147_84 rfl ?_
  refine sr_getR (r := 66) hA si_147_85 sf_147_17 (by decide) (by decide) rfl rfl rfl ?_
  refine sr_iload_n hA si_147_88 rfl ?_
  refine sr_ialdNv (v := nI y) (n := 6) hA si_147_89 (by decide) rfl rfl (by omega) (by decide) hy ?_
  refine sr_i2l hA si_147_90 ?_
  refine sr_lcmp hA si_147_91 ?_
  refine sr_if_le (tgt := 101) hA si_147_92 (by decide) (fun c9 => ?_) (fun c9 => absurd ((sp_lc' (by omega) (by omega) (by omega)).mpr (by omega)) c9)
  refine sr_iconst (v := nI 0) hA si_147_101 (by decide) ?_
  refine sr_istore (ls1 := [.ref 64, .int (nI r), .int (nI i), .int (nI t), .int (nI j), .int (nI q), .int (nI 0)]) hA si_147_102 (by rw [sq_l_147]; decide) rfl ?_
  have h0 := ml_copy1 (g := g) hr ht (by omega) (by omega) rfl hA q 0 (by omega)
  rw [sp_cpy0] at h0
  exact h0
