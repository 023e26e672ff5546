set_option maxRecDepth 20000 in
theorem xc_text_a (X : sp_X) (g : sp_G) {r : Int32} (hr : r < 0) (q : Int32) : sp_Ct X 9 27 [.ref 0, .int r, .int q] g (sp_Fi (-1) g) := by
  refine sp_walkN (n := 3) sq_p_27 sq_l_27 (Nat.le_of_ble_eq_true rfl) (fun a hA => ?_)
  show sp_Ev X a 27 0 [.ref 0, .int r, .int q] [] g
  refine sr_aload_n hA si_27_0 rfl ?_
  refine sr_getR (r := 10) hA si_27_1 sf_27_18 (by decide) (by decide) rfl rfl rfl ?_
  refine sr_iload_n hA si_27_4 rfl ?_
  refine sr_VFi (c := 10) (ci := 5) (as := [.int r]) (st := []) hA si_27_5 sv_11 sk_27_72 (xc_numTM X g hr) (by omega) rfl (by decide) (by decide) rfl sq_c_11 rfl (Nat.le_of_ble_eq_true rfl) ?_
  refine sr_if_eqN (tgt := 17) hA si_27_8 (by decide) (by omega) (fun c1 => ?_) (fun c1 => absurd c1 (by omega))
  refine sr_iconst (v := (-1)) hA si_27_17 (by decide) ?_
  exact sr_iretF hA si_27_18 sq_r_27 rfl rfl
set_option maxRecDepth 20000 in
theorem xc_text_b (X : sp_X) (g : sp_G) {r : Nat} (hr : 4 ≤ r) (hrb : r < 2 ^ 31) (q : Int32) : sp_Ct X 9 27 [.ref 0, .int (nI r), .int q] g (sp_Fi (-1) g) := by
  refine sp_walkN (n := 3) sq_p_27 sq_l_27 (Nat.le_of_ble_eq_true rfl) (fun a hA => ?_)
  show sp_Ev X a 27 0 [.ref 0, .int (nI r), .int q] [] g
  refine sr_aload_n hA si_27_0 rfl ?_
  refine sr_getR (r := 10) hA si_27_1 sf_27_18 (by decide) (by decide) rfl rfl rfl ?_
  refine sr_iload_n hA si_27_4 rfl ?_
  refine sr_VFi (c := 10) (ci := 5) (as := [.int (nI r)]) (st := []) hA si_27_5 sv_11 sk_27_72 (xc_numTH X g (by omega) (by omega)) (by omega) rfl (by decide) (by decide) rfl sq_c_11 rfl (Nat.le_of_ble_eq_true rfl) ?_
  refine sr_if_eqN (tgt := 17) hA si_27_8 (by decide) (by omega) (fun c1 => ?_) (fun c1 => absurd c1 (by omega))
  refine sr_iconst (v := (-1)) hA si_27_17 (by decide) ?_
  exact sr_iretF hA si_27_18 sq_r_27 rfl rfl
set_option maxRecDepth 20000 in
theorem xc_text_c (X : sp_X) (g : sp_G) {r : Nat} (hr : r < 4) {q : Nat} (hq : 61 ≤ q) (hqb : q < 2 ^ 31) : sp_Ct X 9 27 [.ref 0, .int (nI r), .int (nI q)] g (sp_Fi (-1) g) := by
  refine sp_walkN (n := 3) sq_p_27 sq_l_27 (Nat.le_of_ble_eq_true rfl) (fun a hA => ?_)
  show sp_Ev X a 27 0 [.ref 0, .int (nI r), .int (nI q)] [] g
  refine sr_aload_n hA si_27_0 rfl ?_
  refine sr_getR (r := 10) hA si_27_1 sf_27_18 (by decide) (by decide) rfl rfl rfl ?_
  refine sr_iload_n hA si_27_4 rfl ?_
  refine sr_VFi (c := 10) (ci := 5) (as := [.int (nI r)]) (st := []) hA si_27_5 sv_11 sk_27_72 (xc_numT1 X g (by omega)) (by omega) rfl (by decide) (by decide) rfl sq_c_11 rfl (Nat.le_of_ble_eq_true rfl) ?_
  refine sr_if_eqN (tgt := 17) hA si_27_8 (by decide) (by omega) (fun c1 => absurd c1 (by omega)) (fun c1 => ?_)
  refine sr_iload_n hA si_27_11 rfl ?_
  refine sr_bipush (v := nI 60) hA si_27_12 (by decide) ?_
  refine sr_icmp_leN (tgt := 19) hA si_27_14 (by decide) (by omega) (by omega) (fun c2 => absurd c2 (by omega)) (fun c2 => ?_)
  refine sr_iconst (v := (-1)) hA si_27_17 (by decide) ?_
  exact sr_iretF hA si_27_18 sq_r_27 rfl rfl
set_option maxRecDepth 20000 in
theorem xc_text_d (X : sp_X) (g : sp_G) {r : Nat} (hr : r < 4) {q : Int32} (hq : q < 0) : sp_Ct X 9 27 [.ref 0, .int (nI r), .int q] g (sp_Fi (-3) (sp_rx g 5)) := by
  refine sp_walkN (n := 3) sq_p_27 sq_l_27 (Nat.le_of_ble_eq_true rfl) (fun a hA => ?_)
  show sp_Ev X a 27 0 [.ref 0, .int (nI r), .int q] [] g
  refine sr_aload_n hA si_27_0 rfl ?_
  refine sr_getR (r := 10) hA si_27_1 sf_27_18 (by decide) (by decide) rfl rfl rfl ?_
  refine sr_iload_n hA si_27_4 rfl ?_
  refine sr_VFi (c := 10) (ci := 5) (as := [.int (nI r)]) (st := []) hA si_27_5 sv_11 sk_27_72 (xc_numT1 X g (by omega)) (by omega) rfl (by decide) (by decide) rfl sq_c_11 rfl (Nat.le_of_ble_eq_true rfl) ?_
  refine sr_if_eqN (tgt := 17) hA si_27_8 (by decide) (by omega) (fun c1 => absurd c1 (by omega)) (fun c1 => ?_)
  refine sr_iload_n hA si_27_11 rfl ?_
  refine sr_bipush (v := nI 60) hA si_27_12 (by decide) ?_
  refine sr_icmp_le (tgt := 19) hA si_27_14 (by decide) (fun c2 => ?_) (fun c2 => absurd (sp_n2 hq (by omega)) c2)
  refine sr_iload_n hA si_27_19 rfl ?_
  refine sr_if_ge (tgt := 29) hA si_27_20 (by decide) (fun c3 => absurd c3 (sp_m4 hq)) (fun c3 => ?_)
  refine sr_aload_n hA si_27_23 rfl ?_
  refine sr_iconst (v := nI 5) hA si_27_24 (by decide) ?_
  refine sr_VFi (c := 0) (ci := 7) (as := [.int (nI 5)]) (st := []) hA si_27_25 sv_12 sk_27_76 (xc_refuse X g (by omega)) (by omega) rfl (by decide) (by decide) rfl sq_c_12 rfl (Nat.le_of_ble_eq_true rfl) ?_
  exact sr_iretF hA si_27_28 sq_r_27 rfl rfl
set_option maxRecDepth 20000 in
theorem mc_text_a (X : sp_X) (g : sp_G) {r : Int32} (hr : r < 0) (q : Int32) : sp_Ct X 9 149 [.ref 64, .int r, .int q] g (sp_Fi (-1) g) := by
  refine sp_walkN (n := 4) sq_p_149 sq_l_149 (Nat.le_of_ble_eq_true rfl) (fun a hA => ?_)
  show sp_Ev X a 149 0 [.ref 64, .int r, .int q, .null] [] g
  refine sr_iload_n hA si_149_0 rfl ?_
  refine sr_SFi (as := [.int r]) (st := []) hA si_149_1 ss_150 sk_149_108 (mc_isTextM X g hr) (by omega) rfl rfl (Nat.le_of_ble_eq_true rfl) ?_
  refine sr_if_eqN (tgt := 13) hA si_149_4 (by decide) (by omega) (fun c1 => ?_) (fun c1 => absurd c1 (by omega))
  refine sr_iconst (v := (-1)) hA si_149_13 (by decide) ?_
  exact sr_iretF hA si_149_14 sq_r_149 rfl rfl
set_option maxRecDepth 20000 in
theorem mc_text_b (X : sp_X) (g : sp_G) {r : Nat} (hr : 4 ≤ r) (hrb : r < 2 ^ 31) (q : Int32) : sp_Ct X 9 149 [.ref 64, .int (nI r), .int q] g (sp_Fi (-1) g) := by
  refine sp_walkN (n := 4) sq_p_149 sq_l_149 (Nat.le_of_ble_eq_true rfl) (fun a hA => ?_)
  show sp_Ev X a 149 0 [.ref 64, .int (nI r), .int q, .null] [] g
  refine sr_iload_n hA si_149_0 rfl ?_
  refine sr_SFi (as := [.int (nI r)]) (st := []) hA si_149_1 ss_150 sk_149_108 (mc_isTextH X g (by omega) (by omega)) (by omega) rfl rfl (Nat.le_of_ble_eq_true rfl) ?_
  refine sr_if_eqN (tgt := 13) hA si_149_4 (by decide) (by omega) (fun c1 => ?_) (fun c1 => absurd c1 (by omega))
  refine sr_iconst (v := (-1)) hA si_149_13 (by decide) ?_
  exact sr_iretF hA si_149_14 sq_r_149 rfl rfl
set_option maxRecDepth 20000 in
theorem mc_text_c (X : sp_X) (g : sp_G) {r : Nat} (hr : r < 4) {q : Nat} (hq : 61 ≤ q) (hqb : q < 2 ^ 31) : sp_Ct X 9 149 [.ref 64, .int (nI r), .int (nI q)] g (sp_Fi (-1) g) := by
  refine sp_walkN (n := 4) sq_p_149 sq_l_149 (Nat.le_of_ble_eq_true rfl) (fun a hA => ?_)
  show sp_Ev X a 149 0 [.ref 64, .int (nI r), .int (nI q), .null] [] g
  refine sr_iload_n hA si_149_0 rfl ?_
  refine sr_SFi (as := [.int (nI r)]) (st := []) hA si_149_1 ss_150 sk_149_108 (mc_isText1 X g (by omega)) (by omega) rfl rfl (Nat.le_of_ble_eq_true rfl) ?_
  refine sr_if_eqN (tgt := 13) hA si_149_4 (by decide) (by omega) (fun c1 => absurd c1 (by omega)) (fun c1 => ?_)
  refine sr_iload_n hA si_149_7 rfl ?_
  refine sr_bipush (v := nI 60) hA si_149_8 (by decide) ?_
  refine sr_icmp_leN (tgt := 15) hA si_149_10 (by decide) (by omega) (by omega) (fun c2 => absurd c2 (by omega)) (fun c2 => ?_)
  refine sr_iconst (v := (-1)) hA si_149_13 (by decide) ?_
  exact sr_iretF hA si_149_14 sq_r_149 rfl rfl
set_option maxRecDepth 20000 in
theorem mc_text_d (X : sp_X) (g : sp_G) {r : Nat} (hr : r < 4) {q : Int32} (hq : q < 0) : sp_Ct X 9 149 [.ref 64, .int (nI r), .int q] g (sp_Fi (-3) (sp_rm6 g 5)) := by
  refine sp_walkN (n := 4) sq_p_149 sq_l_149 (Nat.le_of_ble_eq_true rfl) (fun a hA => ?_)
  show sp_Ev X a 149 0 [.ref 64, .int (nI r), .int q, .null] [] g
  refine sr_iload_n hA si_149_0 rfl ?_
  refine sr_SFi (as := [.int (nI r)]) (st := []) hA si_149_1 ss_150 sk_149_108 (mc_isText1 X g (by omega)) (by omega) rfl rfl (Nat.le_of_ble_eq_true rfl) ?_
  refine sr_if_eqN (tgt := 13) hA si_149_4 (by decide) (by omega) (fun c1 => absurd c1 (by omega)) (fun c1 => ?_)
  refine sr_iload_n hA si_149_7 rfl ?_
  refine sr_bipush (v := nI 60) hA si_149_8 (by decide) ?_
  refine sr_icmp_le (tgt := 15) hA si_149_10 (by decide) (fun c2 => ?_) (fun c2 => absurd (sp_n2 hq (by omega)) c2)
  refine sr_iload_n hA si_149_15 rfl ?_
  refine sr_if_ge (tgt := 25) hA si_149_16 (by decide) (fun c3 => absurd c3 (sp_m4 hq)) (fun c3 => ?_)
  refine sr_aload_n hA si_149_19 rfl ?_
  refine sr_iconst (v := nI 5) hA si_149_20 (by decide) ?_
  refine sr_VFi (c := 64) (ci := 8) (as := [.int (nI 5)]) (st := []) hA si_149_21 sv_141 sk_149_97 (mc_meets X g (by omega)) (by omega) rfl (by decide) (by decide) rfl sq_c_141 rfl (Nat.le_of_ble_eq_true rfl) ?_
  exact sr_iretF hA si_149_24 sq_r_149 rfl rfl
set_option maxRecDepth 20000 in
theorem xc_text_e (X : sp_X) (g : sp_G) {r : Nat} (hr : r < 4) {q : Nat} (hq : q < 61) : sp_Ct X 9 27 [.ref 0, .int (nI r), .int (nI q)] g (sp_Fi (nI q) (sp_fill (sp_wI g 16 r (nI q)) (12 + r) 60 (nI 32))) := by
  refine sp_walkN (n := 3) sq_p_27 sq_l_27 (Nat.le_of_ble_eq_true rfl) (fun a hA => ?_)
  show sp_Ev X a 27 0 [.ref 0, .int (nI r), .int (nI q)] [] g
  refine sr_aload_n hA si_27_0 rfl ?_
  refine sr_getR (r := 10) hA si_27_1 sf_27_18 (by decide) (by decide) rfl rfl rfl ?_
  refine sr_iload_n hA si_27_4 rfl ?_
  refine sr_VFi (c := 10) (ci := 5) (as := [.int (nI r)]) (st := []) hA si_27_5 sv_11 sk_27_72 (xc_numT1 X g (by omega)) (by omega) rfl (by decide) (by decide) rfl sq_c_11 rfl (Nat.le_of_ble_eq_true rfl) ?_
  refine sr_if_eqN (tgt := 17) hA si_27_8 (by decide) (by omega) (fun c1 => absurd c1 (by omega)) (fun c1 => ?_)
  refine sr_iload_n hA si_27_11 rfl ?_
  refine sr_bipush (v := nI 60) hA si_27_12 (by decide) ?_
  refine sr_icmp_leN (tgt := 19) hA si_27_14 (by decide) (by omega) (by omega) (fun c2 => ?_) (fun c2 => absurd c2 (by omega))
  refine sr_iload_n hA si_27_19 rfl ?_
  refine sr_if_geN (tgt := 29) hA si_27_20 (by decide) (by omega) ?_
  refine sr_aload_n hA si_27_29 rfl ?_
  refine sr_getR (r := 10) hA si_27_30 sf_27_18 (by decide) (by decide) rfl rfl rfl ?_
  refine sr_iload_n hA si_27_33 rfl ?_
  refine sr_iload_n hA si_27_34 rfl ?_
  refine sr_bipush (v := nI 32) hA si_27_35 (by decide) ?_
  refine sr_VFv (c := 10) (ci := 5) (as := [.int (nI r), .int (nI q), .int (nI 32)]) (st := []) hA si_27_37 sv_13 sk_27_80 (xc_makeT X g (by omega) (nI q) (nI 32)) (by omega) rfl (by decide) (by decide) rfl sq_c_13 rfl (Nat.le_of_ble_eq_true rfl) ?_
  refine sr_iload_n hA si_27_40 rfl ?_
  exact sr_iretF hA si_27_41 sq_r_27 rfl rfl
def sp_z70 (g : sp_G) (p n : Nat) : sp_G := sp_wA g 70 (fun j => if p ≤ j ∧ j < p + n then 32 else g.1 70 j)
theorem sp_rdZ7 {g : sp_G} {p n c' j' : Nat} : (sp_z70 g p n).1 c' j' = if c' = 70 ∧ p ≤ j' ∧ j' < p + n then 32 else g.1 c' j' := by
  unfold sp_z70
  rw [sp_rdW]
  by_cases h : c' = 70
  · subst h
    by_cases h2 : p ≤ j' ∧ j' < p + n <;> simp [h2]
  · simp [h]
theorem sp_gext {g g' : sp_G} (h1 : ∀ c j, g.1 c j = g'.1 c j) (h2 : g.2 = g'.2) : g = g' := Prod.ext (funext fun c => funext fun j => h1 c j) h2
theorem sp_z70_0 (g : sp_G) (p : Nat) : sp_z70 g p 0 = g := sp_gext (fun c j => by rw [sp_rdZ7, if_neg (by omega)]) rfl
theorem sp_z70_S (g : sp_G) (p k : Nat) : sp_wI (sp_z70 g p k) 70 (p + k) (nI 32).toInt8.toInt32 = sp_z70 g p (k + 1) := sp_gext (fun c j => by
  rw [sp_rd, sp_rdZ7, sp_rdZ7]
  by_cases h : c = 70 ∧ j = p + k
  · rw [if_pos h, if_pos (by omega)]
    decide
  · rw [if_neg h]
    by_cases h2 : c = 70 ∧ p ≤ j ∧ j < p + k
    · rw [if_pos h2, if_pos (by omega)]
    · rw [if_neg h2, if_neg (by omega)]) rfl
set_option maxRecDepth 20000 in
theorem ml_text {X : sp_X} {d : Nat} {a : sp_Ac} {g : sp_G} {r q : Nat} (hr : r < 4) (hA : sp_Act X 149 d (sp_Fi (nI q) (sp_z70 g (60 * r) 60)) a) : ∀ (m : Nat) (i : Nat), i + m = 60 → sp_Ev X a 149 34 [.ref 64, .int (nI r), .int (nI q), .int (nI i)] [] (sp_z70 g (60 * r) i) := by
  intro m
  induction m with
  | zero =>
    intro i h0_
    refine sr_iload_n hA si_149_34 rfl ?_
    refine sr_bipush (v := nI 60) hA si_149_35 (by decide) ?_
    refine sr_icmp_geN (tgt := 59) hA si_149_37 (by decide) (by omega) (by omega) (fun c1 => ?_) (fun c1 => absurd c1 (by omega))
    refine sr_iload_n hA si_149_59 rfl ?_
    exact sr_iretF hA si_149_60 sq_r_149 rfl (by rw [show i = 60 by omega])
  | succ m ih =>
    intro i h0_
    refine sr_iload_n hA si_149_34 rfl ?_
    refine sr_bipush (v := nI 60) hA si_149_35 (by decide) ?_
    refine sr_icmp_geN (tgt := 59) hA si_149_37 (by decide) (by omega) (by omega) (fun c1 => absurd c1 (by omega)) (fun c1 => ?_)
    refine sr_aload_n hA si_149_40 rfl ?_
    refine sr_getR (r := 70) hA si_149_41 sf_149_29 (by decide) (by decide) rfl rfl rfl ?_
    refine sr_bipush (v := nI 60) hA si_149_44 (by decide) ?_
    refine sr_iload_n hA si_149_46 rfl ?_
    refine sr_imulN hA si_149_47 ?_
    refine sr_iload_n hA si_149_48 rfl ?_
    refine sr_iaddN hA si_149_49 ?_
    refine sr_bipush (v := nI 32) hA si_149_50 (by decide) ?_
    refine sr_bastN (n := 240) hA si_149_52 (by decide) rfl rfl (by omega) (by decide) ?_
    refine sr_iincN (x := i) (y := 1) (ls1 := [.ref 64, .int (nI r), .int (nI q), .int (nI (i + 1))]) hA si_149_53 rfl rfl (by rw [sq_l_149]; decide) rfl ?_
    refine sr_goto (tgt := 34) hA si_149_56 (by decide) ?_
    rw [sp_z70_S]
    exact ih (i + 1) (by omega)
set_option maxRecDepth 20000 in
theorem mc_text_e (X : sp_X) (g : sp_G) {r : Nat} (hr : r < 4) {q : Nat} (hq : q < 61) : sp_Ct X 9 149 [.ref 64, .int (nI r), .int (nI q)] g (sp_Fi (nI q) (sp_z70 (sp_wI g 69 r (nI q)) (60 * r) 60)) := by
  refine sp_walkN (n := 4) sq_p_149 sq_l_149 (Nat.le_of_ble_eq_true rfl) (fun a hA => ?_)
  show sp_Ev X a 149 0 [.ref 64, .int (nI r), .int (nI q), .null] [] g
  refine sr_iload_n hA si_149_0 rfl ?_
  refine sr_SFi (as := [.int (nI r)]) (st := []) hA si_149_1 ss_150 sk_149_108 (mc_isText1 X g (by omega)) (by omega) rfl rfl (Nat.le_of_ble_eq_true rfl) ?_
  refine sr_if_eqN (tgt := 13) hA si_149_4 (by decide) (by omega) (fun c1 => absurd c1 (by omega)) (fun c1 => ?_)
  refine sr_iload_n hA si_149_7 rfl ?_
  refine sr_bipush (v := nI 60) hA si_149_8 (by decide) ?_
  refine sr_icmp_leN (tgt := 15) hA si_149_10 (by decide) (by omega) (by omega) (fun c2 => ?_) (fun c2 => absurd c2 (by omega))
  refine sr_iload_n hA si_149_15 rfl ?_
  refine sr_if_geN (tgt := 25) hA si_149_16 (by decide) (by omega) ?_
  refine sr_aload_n hA si_149_25 rfl ?_
  refine sr_getR (r := 69) hA si_149_26 sf_149_26 (by decide) (by decide) rfl rfl rfl ?_
  refine sr_iload_n hA si_149_29 rfl ?_
  refine sr_iload_n hA si_149_30 rfl ?_
  refine sr_iastN (n := 4) hA si_149_31 (by decide) rfl rfl (by omega) (by decide) ?_
  refine sr_iconst (v := nI 0) hA si_149_32 (by decide) ?_
  refine sr_istore_n (ls1 := [.ref 64, .int (nI r), .int (nI q), .int (nI 0)]) hA si_149_33 rfl (by rw [sq_l_149]; decide) rfl ?_
  have h0 := ml_text (g := sp_wI g 69 r (nI q)) (q := q) hr hA 60 0 (by omega)
  rw [sp_z70_0] at h0
  exact h0
set_option maxRecDepth 20000 in
theorem xc_put_a (X : sp_X) (g : sp_G) {r : Int32} (hr : r < 0) (i : Int32) (v : Int32) : sp_Ct X 9 28 [.ref 0, .int r, .int i, .int v] g (sp_Fi (-1) g) := by
  refine sp_walkN (n := 6) sq_p_28 sq_l_28 (Nat.le_of_ble_eq_true rfl) (fun a hA => ?_)
  show sp_Ev X a 28 0 [.ref 0, .int r, .int i, .int v, .null, .null] [] g
  refine sr_aload_n hA si_28_0 rfl ?_
  refine sr_getR (r := 10) hA si_28_1 sf_28_18 (by decide) (by decide) rfl rfl rfl ?_
  refine sr_iload_n hA si_28_4 rfl ?_
  refine sr_VFi (c := 10) (ci := 5) (as := [.int r]) (st := []) hA si_28_5 sv_11 sk_28_72 (xc_numTM X g hr) (by omega) rfl (by decide) (by decide) rfl sq_c_11 rfl (Nat.le_of_ble_eq_true rfl) ?_
  refine sr_if_neN (tgt := 13) hA si_28_8 (by decide) (by omega) (fun c1 => absurd c1 (by omega)) (fun c1 => ?_)
  refine sr_iconst (v := (-1)) hA si_28_11 (by decide) ?_
  exact sr_iretF hA si_28_12 sq_r_28 rfl rfl
set_option maxRecDepth 20000 in
theorem xc_put_b (X : sp_X) (g : sp_G) {r : Nat} (hr : 4 ≤ r) (hrb : r < 2 ^ 31) (i : Int32) (v : Int32) : sp_Ct X 9 28 [.ref 0, .int (nI r), .int i, .int v] g (sp_Fi (-1) g) := by
  refine sp_walkN (n := 6) sq_p_28 sq_l_28 (Nat.le_of_ble_eq_true rfl) (fun a hA => ?_)
  show sp_Ev X a 28 0 [.ref 0, .int (nI r), .int i, .int v, .null, .null] [] g
  refine sr_aload_n hA si_28_0 rfl ?_
  refine sr_getR (r := 10) hA si_28_1 sf_28_18 (by decide) (by decide) rfl rfl rfl ?_
  refine sr_iload_n hA si_28_4 rfl ?_
  refine sr_VFi (c := 10) (ci := 5) (as := [.int (nI r)]) (st := []) hA si_28_5 sv_11 sk_28_72 (xc_numTH X g (by omega) (by omega)) (by omega) rfl (by decide) (by decide) rfl sq_c_11 rfl (Nat.le_of_ble_eq_true rfl) ?_
  refine sr_if_neN (tgt := 13) hA si_28_8 (by decide) (by omega) (fun c1 => absurd c1 (by omega)) (fun c1 => ?_)
  refine sr_iconst (v := (-1)) hA si_28_11 (by decide) ?_
  exact sr_iretF hA si_28_12 sq_r_28 rfl rfl
set_option maxRecDepth 20000 in
theorem xc_put_c (X : sp_X) (g : sp_G) {r : Nat} (hr : r < 4) (i : Int32) (v : Int32) (hz : g.1 16 r = -1) : sp_Ct X 9 28 [.ref 0, .int (nI r), .int i, .int v] g (sp_Fi (-3) (sp_rx g 1)) := by
  refine sp_walkN (n := 6) sq_p_28 sq_l_28 (Nat.le_of_ble_eq_true rfl) (fun a hA => ?_)
  show sp_Ev X a 28 0 [.ref 0, .int (nI r), .int i, .int v, .null, .null] [] g
  refine sr_aload_n hA si_28_0 rfl ?_
  refine sr_getR (r := 10) hA si_28_1 sf_28_18 (by decide) (by decide) rfl rfl rfl ?_
  refine sr_iload_n hA si_28_4 rfl ?_
  refine sr_VFi (c := 10) (ci := 5) (as := [.int (nI r)]) (st := []) hA si_28_5 sv_11 sk_28_72 (xc_numT1 X g (by omega)) (by omega) rfl (by decide) (by decide) rfl sq_c_11 rfl (Nat.le_of_ble_eq_true rfl) ?_
  refine sr_if_neN (tgt := 13) hA si_28_8 (by decide) (by omega) (fun c1 => ?_) (fun c1 => absurd c1 (by omega))
  refine sr_aload_n hA si_28_13 rfl ?_
  refine sr_getR (r := 10) hA si_28_14 sf_28_18 (by decide) (by decide) rfl rfl rfl ?_
  refine sr_iload_n hA si_28_17 rfl ?_
  refine sr_iload_n hA si_28_18 rfl ?_
  refine sr_SFi (as := [.ref 10, .int (nI r), .int i]) (st := []) hA si_28_19 ss_15 sk_28_84 (xc_pwT1 X g (by omega) hz) (by omega) rfl rfl (Nat.le_of_ble_eq_true rfl) ?_
  refine sr_istore (ls1 := [.ref 0, .int (nI r), .int i, .int v, .int (nI 1), .null]) hA si_28_22 (by rw [sq_l_28]; decide) rfl ?_
  refine sr_iload hA si_28_24 rfl ?_
  refine sr_if_eqN (tgt := 36) hA si_28_26 (by decide) (by omega) (fun c2 => absurd c2 (by omega)) (fun c2 => ?_)
  refine sr_aload_n hA si_28_29 rfl ?_
  refine sr_iload hA si_28_30 rfl ?_
  refine sr_VFi (c := 0) (ci := 7) (as := [.int (nI 1)]) (st := []) hA si_28_32 sv_12 sk_28_76 (xc_refuse X g (by omega)) (by omega) rfl (by decide) (by decide) rfl sq_c_12 rfl (Nat.le_of_ble_eq_true rfl) ?_
  exact sr_iretF hA si_28_35 sq_r_28 rfl rfl
set_option maxRecDepth 20000 in
theorem xc_put_d (X : sp_X) (g : sp_G) {r : Nat} (hr : r < 4) {i : Int32} (hi : i < 0) (v : Int32) {z : Nat} (hz : g.1 16 r = nI z) (hzb : z ≤ 60) : sp_Ct X 9 28 [.ref 0, .int (nI r), .int i, .int v] g (sp_Fi (-3) (sp_rx g 2)) := by
  refine sp_walkN (n := 6) sq_p_28 sq_l_28 (Nat.le_of_ble_eq_true rfl) (fun a hA => ?_)
  show sp_Ev X a 28 0 [.ref 0, .int (nI r), .int i, .int v, .null, .null] [] g
  refine sr_aload_n hA si_28_0 rfl ?_
  refine sr_getR (r := 10) hA si_28_1 sf_28_18 (by decide) (by decide) rfl rfl rfl ?_
  refine sr_iload_n hA si_28_4 rfl ?_
  refine sr_VFi (c := 10) (ci := 5) (as := [.int (nI r)]) (st := []) hA si_28_5 sv_11 sk_28_72 (xc_numT1 X g (by omega)) (by omega) rfl (by decide) (by decide) rfl sq_c_11 rfl (Nat.le_of_ble_eq_true rfl) ?_
  refine sr_if_neN (tgt := 13) hA si_28_8 (by decide) (by omega) (fun c1 => ?_) (fun c1 => absurd c1 (by omega))
  refine sr_aload_n hA si_28_13 rfl ?_
  refine sr_getR (r := 10) hA si_28_14 sf_28_18 (by decide) (by decide) rfl rfl rfl ?_
  refine sr_iload_n hA si_28_17 rfl ?_
  refine sr_iload_n hA si_28_18 rfl ?_
  refine sr_SFi (as := [.ref 10, .int (nI r), .int i]) (st := []) hA si_28_19 ss_15 sk_28_84 (xc_pwTM X g (by omega) hz (by omega) hi) (by omega) rfl rfl (Nat.le_of_ble_eq_true rfl) ?_
  refine sr_istore (ls1 := [.ref 0, .int (nI r), .int i, .int v, .int (nI 2), .null]) hA si_28_22 (by rw [sq_l_28]; decide) rfl ?_
  refine sr_iload hA si_28_24 rfl ?_
  refine sr_if_eqN (tgt := 36) hA si_28_26 (by decide) (by omega) (fun c2 => absurd c2 (by omega)) (fun c2 => ?_)
  refine sr_aload_n hA si_28_29 rfl ?_
  refine sr_iload hA si_28_30 rfl ?_
  refine sr_VFi (c := 0) (ci := 7) (as := [.int (nI 2)]) (st := []) hA si_28_32 sv_12 sk_28_76 (xc_refuse X g (by omega)) (by omega) rfl (by decide) (by decide) rfl sq_c_12 rfl (Nat.le_of_ble_eq_true rfl) ?_
  exact sr_iretF hA si_28_35 sq_r_28 rfl rfl
set_option maxRecDepth 20000 in
theorem xc_put_e (X : sp_X) (g : sp_G) {r : Nat} (hr : r < 4) {i : Nat} (hib : i < 2 ^ 31) (v : Int32) {z : Nat} (hz : g.1 16 r = nI z) (hzb : z ≤ 60) (hi : z ≤ i) : sp_Ct X 9 28 [.ref 0, .int (nI r), .int (nI i), .int v] g (sp_Fi (-3) (sp_rx g 2)) := by
  refine sp_walkN (n := 6) sq_p_28 sq_l_28 (Nat.le_of_ble_eq_true rfl) (fun a hA => ?_)
  show sp_Ev X a 28 0 [.ref 0, .int (nI r), .int (nI i), .int v, .null, .null] [] g
  refine sr_aload_n hA si_28_0 rfl ?_
  refine sr_getR (r := 10) hA si_28_1 sf_28_18 (by decide) (by decide) rfl rfl rfl ?_
  refine sr_iload_n hA si_28_4 rfl ?_
  refine sr_VFi (c := 10) (ci := 5) (as := [.int (nI r)]) (st := []) hA si_28_5 sv_11 sk_28_72 (xc_numT1 X g (by omega)) (by omega) rfl (by decide) (by decide) rfl sq_c_11 rfl (Nat.le_of_ble_eq_true rfl) ?_
  refine sr_if_neN (tgt := 13) hA si_28_8 (by decide) (by omega) (fun c1 => ?_) (fun c1 => absurd c1 (by omega))
  refine sr_aload_n hA si_28_13 rfl ?_
  refine sr_getR (r := 10) hA si_28_14 sf_28_18 (by decide) (by decide) rfl rfl rfl ?_
  refine sr_iload_n hA si_28_17 rfl ?_
  refine sr_iload_n hA si_28_18 rfl ?_
  refine sr_SFi (as := [.ref 10, .int (nI r), .int (nI i)]) (st := []) hA si_28_19 ss_15 sk_28_84 (xc_pwT2 X g (by omega) hz (by omega) (by omega) (by omega)) (by omega) rfl rfl (Nat.le_of_ble_eq_true rfl) ?_
  refine sr_istore (ls1 := [.ref 0, .int (nI r), .int (nI i), .int v, .int (nI 2), .null]) hA si_28_22 (by rw [sq_l_28]; decide) rfl ?_
  refine sr_iload hA si_28_24 rfl ?_
  refine sr_if_eqN (tgt := 36) hA si_28_26 (by decide) (by omega) (fun c2 => absurd c2 (by omega)) (fun c2 => ?_)
  refine sr_aload_n hA si_28_29 rfl ?_
  refine sr_iload hA si_28_30 rfl ?_
  refine sr_VFi (c := 0) (ci := 7) (as := [.int (nI 2)]) (st := []) hA si_28_32 sv_12 sk_28_76 (xc_refuse X g (by omega)) (by omega) rfl (by decide) (by decide) rfl sq_c_12 rfl (Nat.le_of_ble_eq_true rfl) ?_
  exact sr_iretF hA si_28_35 sq_r_28 rfl rfl
set_option maxRecDepth 20000 in
theorem xc_put_f (X : sp_X) (g : sp_G) {r : Nat} (hr : r < 4) {i : Nat} (hib : i < 2 ^ 31) (v : Int32) {z : Nat} (hz : g.1 16 r = nI z) (hzb : z ≤ 60) (hi : i < z) : sp_Ct X 9 28 [.ref 0, .int (nI r), .int (nI i), .int v] g (sp_Fi (g.1 (12 + r) i + nI 1000) (sp_wI g (12 + r) i v.toInt8.toInt32)) := by
  refine sp_walkN (n := 6) sq_p_28 sq_l_28 (Nat.le_of_ble_eq_true rfl) (fun a hA => ?_)
  show sp_Ev X a 28 0 [.ref 0, .int (nI r), .int (nI i), .int v, .null, .null] [] g
  refine sr_aload_n hA si_28_0 rfl ?_
  refine sr_getR (r := 10) hA si_28_1 sf_28_18 (by decide) (by decide) rfl rfl rfl ?_
  refine sr_iload_n hA si_28_4 rfl ?_
  refine sr_VFi (c := 10) (ci := 5) (as := [.int (nI r)]) (st := []) hA si_28_5 sv_11 sk_28_72 (xc_numT1 X g (by omega)) (by omega) rfl (by decide) (by decide) rfl sq_c_11 rfl (Nat.le_of_ble_eq_true rfl) ?_
  refine sr_if_neN (tgt := 13) hA si_28_8 (by decide) (by omega) (fun c1 => ?_) (fun c1 => absurd c1 (by omega))
  refine sr_aload_n hA si_28_13 rfl ?_
  refine sr_getR (r := 10) hA si_28_14 sf_28_18 (by decide) (by decide) rfl rfl rfl ?_
  refine sr_iload_n hA si_28_17 rfl ?_
  refine sr_iload_n hA si_28_18 rfl ?_
  refine sr_SFi (as := [.ref 10, .int (nI r), .int (nI i)]) (st := []) hA si_28_19 ss_15 sk_28_84 (xc_pwT0 X g (by omega) hz (by omega) (by omega)) (by omega) rfl rfl (Nat.le_of_ble_eq_true rfl) ?_
  refine sr_istore (ls1 := [.ref 0, .int (nI r), .int (nI i), .int v, .int (nI 0), .null]) hA si_28_22 (by rw [sq_l_28]; decide) rfl ?_
  refine sr_iload hA si_28_24 rfl ?_
  refine sr_if_eqN (tgt := 36) hA si_28_26 (by decide) (by omega) (fun c2 => ?_) (fun c2 => absurd c2 (by omega))
  refine sr_aload_n hA si_28_36 rfl ?_
  refine sr_getR (r := 10) hA si_28_37 sf_28_18 (by decide) (by decide) rfl rfl rfl ?_
  refine sr_iload_n hA si_28_40 rfl ?_
  refine sr_iload_n hA si_28_41 rfl ?_
  refine sr_VFi (c := 10) (ci := 5) (as := [.int (nI r), .int (nI i)]) (st := []) hA si_28_42 sv_18 sk_28_88 (xc_getT X g (by omega) (by omega) rfl) (by omega) rfl (by decide) (by decide) rfl sq_c_18 rfl (Nat.le_of_ble_eq_true rfl) ?_
  refine sr_istore (ls1 := [.ref 0, .int (nI r), .int (nI i), .int v, .int (nI 0), .int (g.1 (12 + r) i)]) hA si_28_45 (by rw [sq_l_28]; decide) rfl ?_
  refine sr_aload_n hA si_28_47 rfl ?_
  refine sr_getR (r := 10) hA si_28_48 sf_28_18 (by decide) (by decide) rfl rfl rfl ?_
  refine sr_iload_n hA si_28_51 rfl ?_
  refine sr_iload_n hA si_28_52 rfl ?_
  refine sr_iload_n hA si_28_53 rfl ?_
  refine sr_i2b hA si_28_54 ?_
  refine sr_VFv (c := 10) (ci := 5) (as := [.int (nI r), .int (nI i), .int v.toInt8.toInt32]) (st := []) hA si_28_55 sv_19 sk_28_96 (xc_setT X g (by omega) (by omega) v.toInt8.toInt32) (by omega) rfl (by decide) (by decide) rfl sq_c_19 rfl (Nat.le_of_ble_eq_true rfl) ?_
  refine sr_iload hA si_28_58 rfl ?_
  refine sr_sipush (v := nI 1000) hA si_28_60 (by decide) ?_
  refine sr_iadd hA si_28_63 ?_
  exact sr_iretF hA si_28_64 sq_r_28 rfl rfl
set_option maxRecDepth 20000 in
theorem mc_put_a (X : sp_X) (g : sp_G) {r : Int32} (hr : r < 0) (i : Int32) (v : Int32) : sp_Ct X 9 151 [.ref 64, .int r, .int i, .int v] g (sp_Fi (-1) g) := by
  refine sp_walkN (n := 5) sq_p_151 sq_l_151 (Nat.le_of_ble_eq_true rfl) (fun a hA => ?_)
  show sp_Ev X a 151 0 [.ref 64, .int r, .int i, .int v, .null] [] g
  refine sr_iload_n hA si_151_0 rfl ?_
  refine sr_SFi (as := [.int r]) (st := []) hA si_151_1 ss_150 sk_151_108 (mc_isTextM X g hr) (by omega) rfl rfl (Nat.le_of_ble_eq_true rfl) ?_
  refine sr_if_neN (tgt := 9) hA si_151_4 (by decide) (by omega) (fun c1 => absurd c1 (by omega)) (fun c1 => ?_)
  refine sr_iconst (v := (-1)) hA si_151_7 (by decide) ?_
  exact sr_iretF hA si_151_8 sq_r_151 rfl rfl
set_option maxRecDepth 20000 in
theorem mc_put_b (X : sp_X) (g : sp_G) {r : Nat} (hr : 4 ≤ r) (hrb : r < 2 ^ 31) (i : Int32) (v : Int32) : sp_Ct X 9 151 [.ref 64, .int (nI r), .int i, .int v] g (sp_Fi (-1) g) := by
  refine sp_walkN (n := 5) sq_p_151 sq_l_151 (Nat.le_of_ble_eq_true rfl) (fun a hA => ?_)
  show sp_Ev X a 151 0 [.ref 64, .int (nI r), .int i, .int v, .null] [] g
  refine sr_iload_n hA si_151_0 rfl ?_
  refine sr_SFi (as := [.int (nI r)]) (st := []) hA si_151_1 ss_150 sk_151_108 (mc_isTextH X g (by omega) (by omega)) (by omega) rfl rfl (Nat.le_of_ble_eq_true rfl) ?_
  refine sr_if_neN (tgt := 9) hA si_151_4 (by decide) (by omega) (fun c1 => absurd c1 (by omega)) (fun c1 => ?_)
  refine sr_iconst (v := (-1)) hA si_151_7 (by decide) ?_
  exact sr_iretF hA si_151_8 sq_r_151 rfl rfl
set_option maxRecDepth 20000 in
theorem mc_put_c (X : sp_X) (g : sp_G) {r : Nat} (hr : r < 4) (i : Int32) (v : Int32) (hz : g.1 69 r = -1) : sp_Ct X 9 151 [.ref 64, .int (nI r), .int i, .int v] g (sp_Fi (-3) (sp_rm6 g 1)) := by
  refine sp_walkN (n := 5) sq_p_151 sq_l_151 (Nat.le_of_ble_eq_true rfl) (fun a hA => ?_)
  show sp_Ev X a 151 0 [.ref 64, .int (nI r), .int i, .int v, .null] [] g
  refine sr_iload_n hA si_151_0 rfl ?_
  refine sr_SFi (as := [.int (nI r)]) (st := []) hA si_151_1 ss_150 sk_151_108 (mc_isText1 X g (by omega)) (by omega) rfl rfl (Nat.le_of_ble_eq_true rfl) ?_
  refine sr_if_neN (tgt := 9) hA si_151_4 (by decide) (by omega) (fun c1 => ?_) (fun c1 => absurd c1 (by omega))
  refine sr_aload_n hA si_151_9 rfl ?_
  refine sr_getR (r := 69) hA si_151_10 sf_151_26 (by decide) (by decide) rfl rfl rfl ?_
  refine sr_iload_n hA si_151_13 rfl ?_
  refine sr_ialdNv (v := (-1)) (n := 4) hA si_151_14 (by decide) rfl rfl (by omega) (by decide) hz ?_
  refine sr_if_ge (tgt := 24) hA si_151_15 (by decide) (fun c2 => absurd c2 (sp_m4 (by decide))) (fun c2 => ?_)
  refine sr_aload_n hA si_151_18 rfl ?_
  refine sr_iconst (v := nI 1) hA si_151_19 (by decide) ?_
  refine sr_VFi (c := 64) (ci := 8) (as := [.int (nI 1)]) (st := []) hA si_151_20 sv_141 sk_151_97 (mc_meets X g (by omega)) (by omega) rfl (by decide) (by decide) rfl sq_c_141 rfl (Nat.le_of_ble_eq_true rfl) ?_
  exact sr_iretF hA si_151_23 sq_r_151 rfl rfl
set_option maxRecDepth 20000 in
theorem mc_put_d (X : sp_X) (g : sp_G) {r : Nat} (hr : r < 4) {i : Int32} (hi : i < 0) (v : Int32) {z : Nat} (hz : g.1 69 r = nI z) (hzb : z ≤ 60) : sp_Ct X 9 151 [.ref 64, .int (nI r), .int i, .int v] g (sp_Fi (-3) (sp_rm6 g 2)) := by
  refine sp_walkN (n := 5) sq_p_151 sq_l_151 (Nat.le_of_ble_eq_true rfl) (fun a hA => ?_)
  show sp_Ev X a 151 0 [.ref 64, .int (nI r), .int i, .int v, .null] [] g
  refine sr_iload_n hA si_151_0 rfl ?_
  refine sr_SFi (as := [.int (nI r)]) (st := []) hA si_151_1 ss_150 sk_151_108 (mc_isText1 X g (by omega)) (by omega) rfl rfl (Nat.le_of_ble_eq_true rfl) ?_
  refine sr_if_neN (tgt := 9) hA si_151_4 (by decide) (by omega) (fun c1 => ?_) (fun c1 => absurd c1 (by omega))
  refine sr_aload_n hA si_151_9 rfl ?_
  refine sr_getR (r := 69) hA si_151_10 sf_151_26 (by decide) (by decide) rfl rfl rfl ?_
  refine sr_iload_n hA si_151_13 rfl ?_
  refine sr_ialdNv (v := nI z) (n := 4) hA si_151_14 (by decide) rfl rfl (by omega) (by decide) hz ?_
  refine sr_if_geN (tgt := 24) hA si_151_15 (by decide) (by omega) ?_
  refine sr_iload_n hA si_151_24 rfl ?_
  refine sr_iconst (v := nI 0) hA si_151_25 (by decide) ?_
  refine sr_aload_n hA si_151_26 rfl ?_
  refine sr_getR (r := 69) hA si_151_27 sf_151_26 (by decide) (by decide) rfl rfl rfl ?_
  refine sr_iload_n hA si_151_30 rfl ?_
  refine sr_ialdNv (v := nI z) (n := 4) hA si_151_31 (by decide) rfl rfl (by omega) (by decide) hz ?_
  refine sr_iconst (v := nI 1) hA si_151_32 (by decide) ?_
  refine sr_isub hA si_151_33 ?_
  refine sr_SFi (as := [.int i, .int (nI 0), .int ((nI z) - (nI 1))]) (st := []) hA si_151_34 ss_135 sk_151_83 (mc_inM X g hi (by omega)) (by omega) rfl rfl (Nat.le_of_ble_eq_true rfl) ?_
  refine sr_if_neN (tgt := 46) hA si_151_37 (by decide) (by omega) (fun c3 => absurd c3 (by omega)) (fun c3 => ?_)
  refine sr_aload_n hA si_151_40 rfl ?_
  refine sr_iconst (v := nI 2) hA si_151_41 (by decide) ?_
  refine sr_VFi (c := 64) (ci := 8) (as := [.int (nI 2)]) (st := []) hA si_151_42 sv_141 sk_151_97 (mc_meets X g (by omega)) (by omega) rfl (by decide) (by decide) rfl sq_c_141 rfl (Nat.le_of_ble_eq_true rfl) ?_
  exact sr_iretF hA si_151_45 sq_r_151 rfl rfl
set_option maxRecDepth 20000 in
theorem mc_put_e (X : sp_X) (g : sp_G) {r : Nat} (hr : r < 4) {i : Nat} (hib : i < 2 ^ 31) (v : Int32) {z : Nat} (hz : g.1 69 r = nI z) (hzb : z ≤ 60) (hi : z ≤ i) : sp_Ct X 9 151 [.ref 64, .int (nI r), .int (nI i), .int v] g (sp_Fi (-3) (sp_rm6 g 2)) := by
  refine sp_walkN (n := 5) sq_p_151 sq_l_151 (Nat.le_of_ble_eq_true rfl) (fun a hA => ?_)
  show sp_Ev X a 151 0 [.ref 64, .int (nI r), .int (nI i), .int v, .null] [] g
  refine sr_iload_n hA si_151_0 rfl ?_
  refine sr_SFi (as := [.int (nI r)]) (st := []) hA si_151_1 ss_150 sk_151_108 (mc_isText1 X g (by omega)) (by omega) rfl rfl (Nat.le_of_ble_eq_true rfl) ?_
  refine sr_if_neN (tgt := 9) hA si_151_4 (by decide) (by omega) (fun c1 => ?_) (fun c1 => absurd c1 (by omega))
  refine sr_aload_n hA si_151_9 rfl ?_
  refine sr_getR (r := 69) hA si_151_10 sf_151_26 (by decide) (by decide) rfl rfl rfl ?_
  refine sr_iload_n hA si_151_13 rfl ?_
  refine sr_ialdNv (v := nI z) (n := 4) hA si_151_14 (by decide) rfl rfl (by omega) (by decide) hz ?_
  refine sr_if_geN (tgt := 24) hA si_151_15 (by decide) (by omega) ?_
  refine sr_iload_n hA si_151_24 rfl ?_
  refine sr_iconst (v := nI 0) hA si_151_25 (by decide) ?_
  refine sr_aload_n hA si_151_26 rfl ?_
  refine sr_getR (r := 69) hA si_151_27 sf_151_26 (by decide) (by decide) rfl rfl rfl ?_
  refine sr_iload_n hA si_151_30 rfl ?_
  refine sr_ialdNv (v := nI z) (n := 4) hA si_151_31 (by decide) rfl rfl (by omega) (by decide) hz ?_
  refine sr_iconst (v := nI 1) hA si_151_32 (by decide) ?_
  refine sr_isub hA si_151_33 ?_
  refine sr_SFi (as := [.int (nI i), .int (nI 0), .int ((nI z) - (nI 1))]) (st := []) hA si_151_34 ss_135 sk_151_83 (mc_in0 X g (fun q => absurd q.2 (sp_nk (by omega) (by omega)))) (by omega) rfl rfl (Nat.le_of_ble_eq_true rfl) ?_
  refine sr_if_neN (tgt := 46) hA si_151_37 (by decide) (by omega) (fun c3 => absurd c3 (by omega)) (fun c3 => ?_)
  refine sr_aload_n hA si_151_40 rfl ?_
  refine sr_iconst (v := nI 2) hA si_151_41 (by decide) ?_
  refine sr_VFi (c := 64) (ci := 8) (as := [.int (nI 2)]) (st := []) hA si_151_42 sv_141 sk_151_97 (mc_meets X g (by omega)) (by omega) rfl (by decide) (by decide) rfl sq_c_141 rfl (Nat.le_of_ble_eq_true rfl) ?_
  exact sr_iretF hA si_151_45 sq_r_151 rfl rfl
set_option maxRecDepth 20000 in
theorem mc_put_f (X : sp_X) (g : sp_G) {r : Nat} (hr : r < 4) {i : Nat} (hib : i < 2 ^ 31) (v : Int32) {z : Nat} (hz : g.1 69 r = nI z) (hzb : z ≤ 60) (hi : i < z) : sp_Ct X 9 151 [.ref 64, .int (nI r), .int (nI i), .int v] g (sp_Fi (nI 1000 + g.1 70 (60 * r + i)) (sp_wI g 70 (60 * r + i) v.toInt8.toInt32.toInt8.toInt32)) := by
  refine sp_walkN (n := 5) sq_p_151 sq_l_151 (Nat.le_of_ble_eq_true rfl) (fun a hA => ?_)
  show sp_Ev X a 151 0 [.ref 64, .int (nI r), .int (nI i), .int v, .null] [] g
  refine sr_iload_n hA si_151_0 rfl ?_
  refine sr_SFi (as := [.int (nI r)]) (st := []) hA si_151_1 ss_150 sk_151_108 (mc_isText1 X g (by omega)) (by omega) rfl rfl (Nat.le_of_ble_eq_true rfl) ?_
  refine sr_if_neN (tgt := 9) hA si_151_4 (by decide) (by omega) (fun c1 => ?_) (fun c1 => absurd c1 (by omega))
  refine sr_aload_n hA si_151_9 rfl ?_
  refine sr_getR (r := 69) hA si_151_10 sf_151_26 (by decide) (by decide) rfl rfl rfl ?_
  refine sr_iload_n hA si_151_13 rfl ?_
  refine sr_ialdNv (v := nI z) (n := 4) hA si_151_14 (by decide) rfl rfl (by omega) (by decide) hz ?_
  refine sr_if_geN (tgt := 24) hA si_151_15 (by decide) (by omega) ?_
  refine sr_iload_n hA si_151_24 rfl ?_
  refine sr_iconst (v := nI 0) hA si_151_25 (by decide) ?_
  refine sr_aload_n hA si_151_26 rfl ?_
  refine sr_getR (r := 69) hA si_151_27 sf_151_26 (by decide) (by decide) rfl rfl rfl ?_
  refine sr_iload_n hA si_151_30 rfl ?_
  refine sr_ialdNv (v := nI z) (n := 4) hA si_151_31 (by decide) rfl rfl (by omega) (by decide) hz ?_
  refine sr_iconst (v := nI 1) hA si_151_32 (by decide) ?_
  refine sr_isubN hA si_151_33 (by omega) ?_
  refine sr_SFi (as := [.int (nI i), .int (nI 0), .int (nI (z - 1))]) (st := []) hA si_151_34 ss_135 sk_151_83 (mc_inN X g (by omega) (by omega) (by omega)) (by omega) rfl rfl (Nat.le_of_ble_eq_true rfl) ?_
  refine sr_if_neN (tgt := 46) hA si_151_37 (by decide) (by omega) (fun c3 => ?_) (fun c3 => absurd c3 (by omega))
  refine sr_aload_n hA si_151_46 rfl ?_
  refine sr_getR (r := 70) hA si_151_47 sf_151_29 (by decide) (by decide) rfl rfl rfl ?_
  refine sr_bipush (v := nI 60) hA si_151_50 (by decide) ?_
  refine sr_iload_n hA si_151_52 rfl ?_
  refine sr_imulN hA si_151_53 ?_
  refine sr_iload_n hA si_151_54 rfl ?_
  refine sr_iaddN hA si_151_55 ?_
  refine sr_baldNv (v := g.1 70 ((60 * r) + i)) (n := 240) hA si_151_56 (by decide) rfl rfl (by omega) (by decide) rfl ?_
  refine sr_istore (ls1 := [.ref 64, .int (nI r), .int (nI i), .int v, .int (g.1 70 ((60 * r) + i))]) hA si_151_57 (by rw [sq_l_151]; decide) rfl ?_
  refine sr_aload_n hA si_151_59 rfl ?_
  refine sr_getR (r := 70) hA si_151_60 sf_151_29 (by decide) (by decide) rfl rfl rfl ?_
  refine sr_bipush (v := nI 60) hA si_151_63 (by decide) ?_
  refine sr_iload_n hA si_151_65 rfl ?_
  refine sr_imulN hA si_151_66 ?_
  refine sr_iload_n hA si_151_67 rfl ?_
  refine sr_iaddN hA si_151_68 ?_
  refine sr_iload_n hA si_151_69 rfl ?_
  refine sr_i2b hA si_151_70 ?_
  refine sr_bastN (n := 240) hA si_151_71 (by decide) rfl rfl (by omega) (by decide) ?_
  refine sr_sipush (v := nI 1000) hA si_151_72 (by decide) ?_
  refine sr_iload hA si_151_75 rfl ?_
  refine sr_iadd hA si_151_77 ?_
  exact sr_iretF hA si_151_78 sq_r_151 rfl rfl
set_option maxRecDepth 20000 in
theorem xc_asked (X : sp_X) (g : sp_G)  : sp_Ct X 9 120 [.ref 0] g (sp_Fi (g.1 0 12) g) := by
  refine sp_walkN (n := 1) sq_p_120 sq_l_120 (Nat.le_of_ble_eq_true rfl) (fun a hA => ?_)
  show sp_Ev X a 120 0 [.ref 0] [] g
  refine sr_aload_n hA si_120_0 rfl ?_
  refine sr_getIv (v := g.1 0 12) hA si_120_1 sf_120_92 (by decide) (by decide) rfl (by decide) rfl ?_
  exact sr_iretF hA si_120_4 sq_r_120 rfl rfl
set_option maxRecDepth 20000 in
theorem mc_asked (X : sp_X) (g : sp_G)  : sp_Ct X 9 136 [.ref 64] g (sp_Fi (g.1 64 2) g) := by
  refine sp_walkN (n := 1) sq_p_136 sq_l_136 (Nat.le_of_ble_eq_true rfl) (fun a hA => ?_)
  show sp_Ev X a 136 0 [.ref 64] [] g
  refine sr_aload_n hA si_136_0 rfl ?_
  refine sr_getIv (v := g.1 64 2) hA si_136_1 sf_136_87 (by decide) (by decide) rfl (by decide) rfl ?_
  exact sr_iretF hA si_136_4 sq_r_136 rfl rfl
set_option maxRecDepth 20000 in
theorem xc_finding (X : sp_X) (g : sp_G)  : sp_Ct X 9 128 [.ref 0] g (sp_Fi (g.1 0 11) g) := by
  refine sp_walkN (n := 1) sq_p_128 sq_l_128 (Nat.le_of_ble_eq_true rfl) (fun a hA => ?_)
  show sp_Ev X a 128 0 [.ref 0] [] g
  refine sr_aload_n hA si_128_0 rfl ?_
  refine sr_getIv (v := g.1 0 11) hA si_128_1 sf_128_299 (by decide) (by decide) rfl (by decide) rfl ?_
  exact sr_iretF hA si_128_4 sq_r_128 rfl rfl
set_option maxRecDepth 20000 in
theorem mc_finding (X : sp_X) (g : sp_G)  : sp_Ct X 9 133 [.ref 64] g (sp_Fi (g.1 64 0) g) := by
  refine sp_walkN (n := 1) sq_p_133 sq_l_133 (Nat.le_of_ble_eq_true rfl) (fun a hA => ?_)
  show sp_Ev X a 133 0 [.ref 64] [] g
  refine sr_aload_n hA si_133_0 rfl ?_
  refine sr_getIv (v := g.1 64 0) hA si_133_1 sf_133_80 (by decide) (by decide) rfl (by decide) rfl ?_
  exact sr_iretF hA si_133_4 sq_r_133 rfl rfl
set_option maxRecDepth 20000 in
theorem xc_upper (X : sp_X) (g : sp_G)  : sp_Ct X 9 121 [.ref 0] g (sp_Fl (g.2 0 13) g) := by
  refine sp_walkN (n := 1) sq_p_121 sq_l_121 (Nat.le_of_ble_eq_true rfl) (fun a hA => ?_)
  show sp_Ev X a 121 0 [.ref 0] [] g
  refine sr_aload_n hA si_121_0 rfl ?_
  refine sr_getLv (v := g.2 0 13) hA si_121_1 sf_121_293 (by decide) (by decide) rfl rfl rfl ?_
  exact sr_lretF hA si_121_4 sq_r_121 rfl rfl
set_option maxRecDepth 20000 in
theorem mc_upper (X : sp_X) (g : sp_G)  : sp_Ct X 9 137 [.ref 64] g (sp_Fl (g.2 64 3) g) := by
  refine sp_walkN (n := 1) sq_p_137 sq_l_137 (Nat.le_of_ble_eq_true rfl) (fun a hA => ?_)
  show sp_Ev X a 137 0 [.ref 64] [] g
  refine sr_aload_n hA si_137_0 rfl ?_
  refine sr_getLv (v := g.2 64 3) hA si_137_1 sf_137_90 (by decide) (by decide) rfl rfl rfl ?_
  exact sr_lretF hA si_137_4 sq_r_137 rfl rfl
set_option maxRecDepth 20000 in
theorem xc_lower (X : sp_X) (g : sp_G)  : sp_Ct X 9 122 [.ref 0] g (sp_Fl (g.2 0 14) g) := by
  refine sp_walkN (n := 1) sq_p_122 sq_l_122 (Nat.le_of_ble_eq_true rfl) (fun a hA => ?_)
  show sp_Ev X a 122 0 [.ref 0] [] g
  refine sr_aload_n hA si_122_0 rfl ?_
  refine sr_getLv (v := g.2 0 14) hA si_122_1 sf_122_68 (by decide) (by decide) rfl rfl rfl ?_
  exact sr_lretF hA si_122_4 sq_r_122 rfl rfl
set_option maxRecDepth 20000 in
theorem mc_lower (X : sp_X) (g : sp_G)  : sp_Ct X 9 138 [.ref 64] g (sp_Fl (g.2 64 4) g) := by
  refine sp_walkN (n := 1) sq_p_138 sq_l_138 (Nat.le_of_ble_eq_true rfl) (fun a hA => ?_)
  show sp_Ev X a 138 0 [.ref 64] [] g
  refine sr_aload_n hA si_138_0 rfl ?_
  refine sr_getLv (v := g.2 64 4) hA si_138_1 sf_138_13 (by decide) (by decide) rfl rfl rfl ?_
  exact sr_lretF hA si_138_4 sq_r_138 rfl rfl
set_option maxRecDepth 20000 in
theorem xc_findings_a (X : sp_X) (g : sp_G) {f : Int32} (hf : f < 0) : sp_Ct X 9 129 [.ref 0, .int f] g (sp_Fi (-1) g) := by
  refine sp_walkN (n := 2) sq_p_129 sq_l_129 (Nat.le_of_ble_eq_true rfl) (fun a hA => ?_)
  show sp_Ev X a 129 0 [.ref 0, .int f] [] g
  refine sr_iload_n hA si_129_0 rfl ?_
  refine sr_iconst (v := nI 1) hA si_129_1 (by decide) ?_
  refine sr_icmp_lt (tgt := 10) hA si_129_2 (by decide) (fun c1 => ?_) (fun c1 => absurd (sp_n1 hf (by omega)) c1)
  refine sr_iconst (v := (-1)) hA si_129_10 (by decide) ?_
  exact sr_iretF hA si_129_11 sq_r_129 rfl rfl
set_option maxRecDepth 20000 in
theorem xc_findings_b (X : sp_X) (g : sp_G) {f : Nat} (hf : f < 1) : sp_Ct X 9 129 [.ref 0, .int (nI f)] g (sp_Fi (-1) g) := by
  refine sp_walkN (n := 2) sq_p_129 sq_l_129 (Nat.le_of_ble_eq_true rfl) (fun a hA => ?_)
  show sp_Ev X a 129 0 [.ref 0, .int (nI f)] [] g
  refine sr_iload_n hA si_129_0 rfl ?_
  refine sr_iconst (v := nI 1) hA si_129_1 (by decide) ?_
  refine sr_icmp_ltN (tgt := 10) hA si_129_2 (by decide) (by omega) (by omega) (fun c1 => ?_) (fun c1 => absurd c1 (by omega))
  refine sr_iconst (v := (-1)) hA si_129_10 (by decide) ?_
  exact sr_iretF hA si_129_11 sq_r_129 rfl rfl
set_option maxRecDepth 20000 in
theorem xc_findings_c (X : sp_X) (g : sp_G) {f : Nat} (hf : 6 ≤ f) (hfb : f < 2 ^ 31) : sp_Ct X 9 129 [.ref 0, .int (nI f)] g (sp_Fi (-1) g) := by
  refine sp_walkN (n := 2) sq_p_129 sq_l_129 (Nat.le_of_ble_eq_true rfl) (fun a hA => ?_)
  show sp_Ev X a 129 0 [.ref 0, .int (nI f)] [] g
  refine sr_iload_n hA si_129_0 rfl ?_
  refine sr_iconst (v := nI 1) hA si_129_1 (by decide) ?_
  refine sr_icmp_ltN (tgt := 10) hA si_129_2 (by decide) (by omega) (by omega) (fun c1 => absurd c1 (by omega)) (fun c1 => ?_)
  refine sr_iload_n hA si_129_5 rfl ?_
  refine sr_iconst (v := nI 5) hA si_129_6 (by decide) ?_
  refine sr_icmp_leN (tgt := 12) hA si_129_7 (by decide) (by omega) (by omega) (fun c2 => absurd c2 (by omega)) (fun c2 => ?_)
  refine sr_iconst (v := (-1)) hA si_129_10 (by decide) ?_
  exact sr_iretF hA si_129_11 sq_r_129 rfl rfl
set_option maxRecDepth 20000 in
theorem xc_findings_d (X : sp_X) (g : sp_G) {f : Nat} (hf : f < 6) (hf1 : 1 ≤ f) : sp_Ct X 9 129 [.ref 0, .int (nI f)] g (sp_Fi (g.1 63 f) g) := by
  refine sp_walkN (n := 2) sq_p_129 sq_l_129 (Nat.le_of_ble_eq_true rfl) (fun a hA => ?_)
  show sp_Ev X a 129 0 [.ref 0, .int (nI f)] [] g
  refine sr_iload_n hA si_129_0 rfl ?_
  refine sr_iconst (v := nI 1) hA si_129_1 (by decide) ?_
  refine sr_icmp_ltN (tgt := 10) hA si_129_2 (by decide) (by omega) (by omega) (fun c1 => absurd c1 (by omega)) (fun c1 => ?_)
  refine sr_iload_n hA si_129_5 rfl ?_
  refine sr_iconst (v := nI 5) hA si_129_6 (by decide) ?_
  refine sr_icmp_leN (tgt := 12) hA si_129_7 (by decide) (by omega) (by omega) (fun c2 => ?_) (fun c2 => absurd c2 (by omega))
  refine sr_aload_n hA si_129_12 rfl ?_
  refine sr_getR (r := 63) hA si_129_13 sf_129_64 (by decide) (by decide) rfl rfl rfl ?_
  refine sr_iload_n hA si_129_16 rfl ?_
  refine sr_ialdNv (v := g.1 63 f) (n := 6) hA si_129_17 (by decide) rfl rfl (by omega) (by decide) rfl ?_
  exact sr_iretF hA si_129_18 sq_r_129 rfl rfl
set_option maxRecDepth 20000 in
theorem mc_findings_a (X : sp_X) (g : sp_G) {f : Int32} (hf : f < 0) : sp_Ct X 9 134 [.ref 64, .int f] g (sp_Fi (-1) g) := by
  refine sp_walkN (n := 2) sq_p_134 sq_l_134 (Nat.le_of_ble_eq_true rfl) (fun a hA => ?_)
  show sp_Ev X a 134 0 [.ref 64, .int f] [] g
  refine sr_iload_n hA si_134_0 rfl ?_
  refine sr_iconst (v := nI 1) hA si_134_1 (by decide) ?_
  refine sr_iconst (v := nI 5) hA si_134_2 (by decide) ?_
  refine sr_SFi (as := [.int f, .int (nI 1), .int (nI 5)]) (st := []) hA si_134_3 ss_135 sk_134_83 (mc_inM X g hf (by omega)) (by omega) rfl rfl (Nat.le_of_ble_eq_true rfl) ?_
  refine sr_if_eqN (tgt := 18) hA si_134_6 (by decide) (by omega) (fun c1 => ?_) (fun c1 => absurd c1 (by omega))
  refine sr_iconst (v := (-1)) hA si_134_18 (by decide) ?_
  exact sr_iretF hA si_134_19 sq_r_134 rfl rfl
set_option maxRecDepth 20000 in
theorem mc_findings_b (X : sp_X) (g : sp_G) {f : Nat} (hf : f < 1) : sp_Ct X 9 134 [.ref 64, .int (nI f)] g (sp_Fi (-1) g) := by
  refine sp_walkN (n := 2) sq_p_134 sq_l_134 (Nat.le_of_ble_eq_true rfl) (fun a hA => ?_)
  show sp_Ev X a 134 0 [.ref 64, .int (nI f)] [] g
  refine sr_iload_n hA si_134_0 rfl ?_
  refine sr_iconst (v := nI 1) hA si_134_1 (by decide) ?_
  refine sr_iconst (v := nI 5) hA si_134_2 (by decide) ?_
  refine sr_SFi (as := [.int (nI f), .int (nI 1), .int (nI 5)]) (st := []) hA si_134_3 ss_135 sk_134_83 (mc_inL X g (by omega) (by omega)) (by omega) rfl rfl (Nat.le_of_ble_eq_true rfl) ?_
  refine sr_if_eqN (tgt := 18) hA si_134_6 (by decide) (by omega) (fun c1 => ?_) (fun c1 => absurd c1 (by omega))
  refine sr_iconst (v := (-1)) hA si_134_18 (by decide) ?_
  exact sr_iretF hA si_134_19 sq_r_134 rfl rfl
set_option maxRecDepth 20000 in
theorem mc_findings_c (X : sp_X) (g : sp_G) {f : Nat} (hf : 6 ≤ f) (hfb : f < 2 ^ 31) : sp_Ct X 9 134 [.ref 64, .int (nI f)] g (sp_Fi (-1) g) := by
  refine sp_walkN (n := 2) sq_p_134 sq_l_134 (Nat.le_of_ble_eq_true rfl) (fun a hA => ?_)
  show sp_Ev X a 134 0 [.ref 64, .int (nI f)] [] g
  refine sr_iload_n hA si_134_0 rfl ?_
  refine sr_iconst (v := nI 1) hA si_134_1 (by decide) ?_
  refine sr_iconst (v := nI 5) hA si_134_2 (by decide) ?_
  refine sr_SFi (as := [.int (nI f), .int (nI 1), .int (nI 5)]) (st := []) hA si_134_3 ss_135 sk_134_83 (mc_inH X g (by omega) (by omega)) (by omega) rfl rfl (Nat.le_of_ble_eq_true rfl) ?_
  refine sr_if_eqN (tgt := 18) hA si_134_6 (by decide) (by omega) (fun c1 => ?_) (fun c1 => absurd c1 (by omega))
  refine sr_iconst (v := (-1)) hA si_134_18 (by decide) ?_
  exact sr_iretF hA si_134_19 sq_r_134 rfl rfl
set_option maxRecDepth 20000 in
theorem mc_findings_d (X : sp_X) (g : sp_G) {f : Nat} (hf : f < 6) (hf1 : 1 ≤ f) : sp_Ct X 9 134 [.ref 64, .int (nI f)] g (sp_Fi (g.1 65 f) g) := by
  refine sp_walkN (n := 2) sq_p_134 sq_l_134 (Nat.le_of_ble_eq_true rfl) (fun a hA => ?_)
  show sp_Ev X a 134 0 [.ref 64, .int (nI f)] [] g
  refine sr_iload_n hA si_134_0 rfl ?_
  refine sr_iconst (v := nI 1) hA si_134_1 (by decide) ?_
  refine sr_iconst (v := nI 5) hA si_134_2 (by decide) ?_
  refine sr_SFi (as := [.int (nI f), .int (nI 1), .int (nI 5)]) (st := []) hA si_134_3 ss_135 sk_134_83 (mc_inN X g (by omega) (by omega) (by omega)) (by omega) rfl rfl (Nat.le_of_ble_eq_true rfl) ?_
  refine sr_if_eqN (tgt := 18) hA si_134_6 (by decide) (by omega) (fun c1 => absurd c1 (by omega)) (fun c1 => ?_)
  refine sr_aload_n hA si_134_9 rfl ?_
  refine sr_getR (r := 65) hA si_134_10 sf_134_7 (by decide) (by decide) rfl rfl rfl ?_
  refine sr_iload_n hA si_134_13 rfl ?_
  refine sr_ialdNv (v := g.1 65 f) (n := 6) hA si_134_14 (by decide) rfl rfl (by omega) (by decide) rfl ?_
  refine sr_goto (tgt := 19) hA si_134_15 (by decide) ?_
  exact sr_iretF hA si_134_19 sq_r_134 rfl rfl
theorem sp_txtsz {g : sp_G} (h : sp_Rel g) {r : Nat} (hr : r < 4) : (g.1 16 r = -1 ∧ g.1 69 r = -1) ∨ ∃ z, z ≤ 60 ∧ g.1 16 r = nI z ∧ g.1 69 r = nI z := by
  obtain ⟨h1, h2, h3⟩ := h.2.2.1 r hr
  rcases h2 with h2 | ⟨z, hz, h2⟩
  · exact Or.inl ⟨h1.trans h2, h2⟩
  · exact Or.inr ⟨z, hz, h1.trans h2, h2⟩
theorem pr_text {X : sp_X} {g : sp_G} (h : sp_Rel g) (r n : Int32) : sp_Pi X 27 149 [.int r, .int n] g := by
  rcases sp_cls r with hr | ⟨r, hrb, rfl⟩
  · exact sp_pF (xc_text_a X g hr n) (mc_text_a X g hr n) (by omega) (by omega) h
  by_cases hr : r < 4
  rotate_left
  · exact sp_pF (xc_text_b X g (by omega) hrb n) (mc_text_b X g (by omega) hrb n) (by omega) (by omega) h
  rcases sp_cls n with hn | ⟨n, hnb, rfl⟩
  · exact sp_pF (xc_text_d X g hr hn) (mc_text_d X _ hr hn) (by omega) (by omega) (h.ref (by omega))
  by_cases hn : n < 61
  rotate_left
  · exact sp_pF (xc_text_c X g hr (by omega) hnb) (mc_text_c X g hr (by omega) hnb) (by omega) (by omega) h
  refine sp_pF (xc_text_e X g hr hn) (mc_text_e X _ hr hn) (by omega) (by omega) ?_
  have kk : ∀ q, q ≠ 3 → sp_kp q g (sp_z70 (sp_wI (sp_fill (sp_wI g 16 r (nI n)) (12 + r) 60 (nI 32)) 69 r (nI n)) (60 * r) 60) := fun q hq => by
    refine sp_kp.wA (sp_kp.wI (sp_kp.fill (sp_kp.wI sp_kp.rf ?_) (fun j => ?_)) ?_) (fun j => ?_)
    all_goals first | exact hq.symm | (rw [sp_cl12 hr]; exact hq.symm)
  refine h.T (kk 2 (by decide)) (fun r' hr' => ?_) (kk 4 (by decide)) (kk 5 (by decide)) (kk 6 (by decide)) (sp_RFk h (kk 1 (by decide)) rfl)
  obtain ⟨h1, h2, h3⟩ := h.2.2.1 r' hr'
  simp only [sp_rdZ7, sp_rd, sp_rdF, sp_rdW, true_and, false_and, and_true, and_false, if_true, if_false]
  by_cases e : r' = r
  · subst e
    refine ⟨by repeat first | rw [if_neg (by omega)] | rw [if_pos (by omega)], Or.inr ⟨n, by omega, by repeat first | rw [if_neg (by omega)] | rw [if_pos (by omega)]⟩, fun i hi => ?_⟩
    repeat first | rw [if_neg (by omega)] | rw [if_pos (by omega)]
    rfl
  · refine ⟨?_, ?_, fun i hi => ?_⟩
    · repeat first | rw [if_neg (by omega)] | rw [if_pos (by omega)]
      exact h1
    · repeat first | rw [if_neg (by omega)] | rw [if_pos (by omega)]
      exact h2
    · repeat first | rw [if_neg (by omega)] | rw [if_pos (by omega)]
      exact h3 i hi
theorem pr_put {X : sp_X} {g : sp_G} (h : sp_Rel g) (r i v : Int32) : sp_Pi X 28 151 [.int r, .int i, .int v] g := by
  rcases sp_cls r with hr | ⟨r, hrb, rfl⟩
  · exact sp_pF (xc_put_a X g hr i v) (mc_put_a X g hr i v) (by omega) (by omega) h
  by_cases hr : r < 4
  rotate_left
  · exact sp_pF (xc_put_b X g (by omega) hrb i v) (mc_put_b X g (by omega) hrb i v) (by omega) (by omega) h
  rcases sp_txtsz h hr with ⟨z1, z2⟩ | ⟨z, hz, z1, z2⟩
  · exact sp_pF (xc_put_c X g hr i v z1) (mc_put_c X _ hr i v z2) (by omega) (by omega) (h.ref (by omega))
  rcases sp_cls i with hi | ⟨i, hib, rfl⟩
  · exact sp_pF (xc_put_d X g hr hi v z1 hz) (mc_put_d X _ hr hi v z2 hz) (by omega) (by omega) (h.ref (by omega))
  by_cases hi : i < z
  rotate_left
  · exact sp_pF (xc_put_e X g hr hib v z1 hz (by omega)) (mc_put_e X _ hr hib v z2 hz (by omega)) (by omega) (by omega) (h.ref (by omega))
  have hx := xc_put_f X g hr hib v z1 hz hi
  generalize hg1 : sp_wI g (12 + r) i v.toInt8.toInt32 = g1 at hx
  have m1 : ∀ c x, 60 ≤ c → g1.1 c x = g.1 c x := fun c x hc => by rw [← hg1, sp_rd, if_neg (by omega)]
  have hm := mc_put_f X g1 hr hib v (by rw [m1 _ _ (by omega)]; exact z2) hz hi
  have eb : v.toInt8.toInt32.toInt8.toInt32 = v.toInt8.toInt32 := by
    have := pk_vb v
    rwa [vp_nar_byte] at this
  have ev : nI 1000 + g1.1 70 (60 * r + i) = g.1 (12 + r) i + nI 1000 := by
    rw [m1 _ _ (by omega), (h.2.2.1 r hr).2.2 i (by omega), Int32.add_comm]
  rw [eb, ev] at hm
  refine sp_pF hx hm (by omega) (by omega) ?_
  have kk : ∀ q, q ≠ 3 → sp_kp q g (sp_wI g1 70 (60 * r + i) v.toInt8.toInt32) := fun q hq => by
    rw [← hg1]
    refine sp_kp.wI (sp_kp.wI sp_kp.rf ?_) ?_
    all_goals first | exact hq.symm | (rw [sp_cl12 hr]; exact hq.symm)
  refine h.T (kk 2 (by decide)) (fun r' hr' => ?_) (kk 4 (by decide)) (kk 5 (by decide)) (kk 6 (by decide)) (sp_RFk h (kk 1 (by decide)) (by rw [← hg1]; rfl))
  obtain ⟨h1, h2, h3⟩ := h.2.2.1 r' hr'
  rw [← hg1]
  simp only [sp_rd, true_and, false_and, and_true, and_false, if_true, if_false]
  refine ⟨?_, ?_, fun j hj => ?_⟩
  · repeat first | rw [if_neg (by omega)] | rw [if_pos (by omega)]
    exact h1
  · repeat first | rw [if_neg (by omega)] | rw [if_pos (by omega)]
    exact h2
  · by_cases e : r' = r ∧ j = i
    · repeat first | rw [if_neg (by omega)] | rw [if_pos (by omega)]
    · repeat first | rw [if_neg (by omega)] | rw [if_pos (by omega)]
      exact h3 j hj
theorem pr_asked {X : sp_X} {g : sp_G} (h : sp_Rel g) : sp_Pi X 120 136 [] g := sp_pF (xc_asked X g) (by rw [h.1.2.2.1]; exact mc_asked X g) (by omega) (by omega) h
theorem pr_finding {X : sp_X} {g : sp_G} (h : sp_Rel g) : sp_Pi X 128 133 [] g := sp_pF (xc_finding X g) (by rw [h.1.1]; exact mc_finding X g) (by omega) (by omega) h
theorem pr_upper {X : sp_X} {g : sp_G} (h : sp_Rel g) : sp_Pl X 121 137 [] g := sp_pFl (xc_upper X g) (by rw [h.1.2.2.2.1]; exact mc_upper X g) (by omega) (by omega) h
theorem pr_lower {X : sp_X} {g : sp_G} (h : sp_Rel g) : sp_Pl X 122 138 [] g := sp_pFl (xc_lower X g) (by rw [h.1.2.2.2.2]; exact mc_lower X g) (by omega) (by omega) h
theorem pr_findings {X : sp_X} {g : sp_G} (h : sp_Rel g) (f : Int32) : sp_Pi X 129 134 [.int f] g := by
  rcases sp_cls f with hf | ⟨f, hfb, rfl⟩
  · exact sp_pF (xc_findings_a X g hf) (mc_findings_a X g hf) (by omega) (by omega) h
  by_cases h1 : f < 1
  · exact sp_pF (xc_findings_b X g h1) (mc_findings_b X g h1) (by omega) (by omega) h
  by_cases h2 : f < 6
  · exact sp_pF (xc_findings_d X g h2 (by omega)) (by rw [h.1.2.1 f h2]; exact mc_findings_d X g h2 (by omega)) (by omega) (by omega) h
  · exact sp_pF (xc_findings_c X g (by omega) hfb) (mc_findings_c X g (by omega) hfb) (by omega) (by omega) h
