def sp_cb (k s x : Int32) : Bool := decide (k = 5) || decide (x ≤ s + (if k = 2 then nI 2 else nI 0))
theorem sp_cb5 (s x : Int32) : sp_cb (nI 5) s x = true := rfl
theorem sp_cb2 {s x : Int32} : sp_cb (nI 2) s x = true ↔ x ≤ s + nI 2 := by
  unfold sp_cb
  rw [show decide (nI 2 = 5) = false from rfl, Bool.false_or, if_pos (by decide), decide_eq_true_eq]
theorem sp_cbk {k : Nat} (h1 : k ≠ 5) (h2 : k ≠ 2) (hk : k ≤ 5) {s x : Int32} : sp_cb (nI k) s x = true ↔ x ≤ s := by
  unfold sp_cb
  have e5 : ¬ nI k = 5 := fun q => h1 ((nI_eq (a := k) (b := 5) (by omega) (by omega)).mp q)
  have e2 : ¬ nI k = 2 := fun q => h2 ((nI_eq (a := k) (b := 2) (by omega) (by omega)).mp q)
  rw [if_neg e2, decide_eq_false e5, Bool.false_or, decide_eq_true_eq, show (nI 0 : Int32) = 0 from rfl, Int32.add_zero]
set_option maxRecDepth 20000 in
theorem mc_cp5 (X : sp_X) (g : sp_G) {f i : Nat} (hf : f < 14) (hi : i < 6) (hk : g.1 71 i = nI 5) : sp_Ct X 1 165 [.ref 64, .int (nI f), .int (nI i)] g (sp_Fi (nI 1) g) := by
  refine sp_walkN (n := 4) sq_p_165 sq_l_165 (Nat.le_of_ble_eq_true rfl) (fun a hA => ?_)
  show sp_Ev X a 165 0 [.ref 64, .int (nI f), .int (nI i), .null] [] g
  refine sr_aload_n hA si_165_0 rfl ?_
  refine sr_getR (r := 71) hA si_165_1 sf_165_33 (by decide) (by decide) rfl rfl rfl ?_
  refine sr_iload_n hA si_165_4 rfl ?_
  refine sr_ialdNv (v := nI 5) (n := 6) hA si_165_5 (by decide) rfl rfl (by omega) (by decide) hk ?_
  refine sr_istore_n (ls1 := [.ref 64, .int (nI f), .int (nI i), .int (nI 5)]) hA si_165_6 rfl (by rw [sq_l_165]; decide) rfl ?_
  refine sr_iload_n hA si_165_7 rfl ?_
  refine sr_iconst (v := nI 5) hA si_165_8 (by decide) ?_
  refine sr_icmp_eqN (tgt := 38) hA si_165_9 (by decide) (by omega) (by omega) (fun c1 => ?_) (fun c1 => absurd c1 (by omega))
  refine sr_iconst (v := nI 1) hA si_165_38 (by decide) ?_
  refine sr_goto (tgt := 43) hA si_165_39 (by decide) ?_
  exact sr_zretF hA si_165_43 sq_r_165 (by decide) rfl rfl
set_option maxRecDepth 20000 in
theorem mc_cp2T (X : sp_X) (g : sp_G) {f i : Nat} (hf : f < 14) (hi : i < 6) (hk : g.1 71 i = nI 2) (h : g.1 75 (9 * f + i) ≤ g.1 72 i + nI 2) : sp_Ct X 1 165 [.ref 64, .int (nI f), .int (nI i)] g (sp_Fi (nI 1) g) := by
  refine sp_walkN (n := 4) sq_p_165 sq_l_165 (Nat.le_of_ble_eq_true rfl) (fun a hA => ?_)
  show sp_Ev X a 165 0 [.ref 64, .int (nI f), .int (nI i), .null] [] g
  refine sr_aload_n hA si_165_0 rfl ?_
  refine sr_getR (r := 71) hA si_165_1 sf_165_33 (by decide) (by decide) rfl rfl rfl ?_
  refine sr_iload_n hA si_165_4 rfl ?_
  refine sr_ialdNv (v := nI 2) (n := 6) hA si_165_5 (by decide) rfl rfl (by omega) (by decide) hk ?_
  refine sr_istore_n (ls1 := [.ref 64, .int (nI f), .int (nI i), .int (nI 2)]) hA si_165_6 rfl (by rw [sq_l_165]; decide) rfl ?_
  refine sr_iload_n hA si_165_7 rfl ?_
  refine sr_iconst (v := nI 5) hA si_165_8 (by decide) ?_
  refine sr_icmp_eqN (tgt := 38) hA si_165_9 (by decide) (by omega) (by omega) (fun c1 => absurd c1 (by omega)) (fun c1 => ?_)
  refine sr_aload_n hA si_165_12 rfl ?_
  refine sr_iload_n hA si_165_13 rfl ?_
  refine sr_iload_n hA si_165_14 rfl ?_
  refine sr_VFi (c := 64) (ci := 8) (as := [.int (nI f), .int (nI i)]) (st := []) hA si_165_15 sv_164 sk_165_152 (mc_v X g (f := f) (i := i) (by omega)) (by omega) rfl (by decide) (by decide) rfl sq_c_164 rfl (Nat.le_of_ble_eq_true rfl) ?_
  refine sr_aload_n hA si_165_18 rfl ?_
  refine sr_getR (r := 72) hA si_165_19 sf_165_36 (by decide) (by decide) rfl rfl rfl ?_
  refine sr_iload_n hA si_165_22 rfl ?_
  refine sr_ialdNv (v := g.1 72 i) (n := 6) hA si_165_23 (by decide) rfl rfl (by omega) (by decide) rfl ?_
  refine sr_iload_n hA si_165_24 rfl ?_
  refine sr_iconst (v := nI 2) hA si_165_25 (by decide) ?_
  refine sr_icmp_neN (tgt := 33) hA si_165_26 (by decide) (by omega) (by omega) (fun c2 => absurd c2 (by omega)) (fun c2 => ?_)
  refine sr_iconst (v := nI 2) hA si_165_29 (by decide) ?_
  refine sr_goto (tgt := 34) hA si_165_30 (by decide) ?_
  refine sr_iadd hA si_165_34 ?_
  refine sr_icmp_gt (tgt := 42) hA si_165_35 (by decide) (fun c3 => absurd c3 (Int32.not_lt.mpr h)) (fun c3 => ?_)
  refine sr_iconst (v := nI 1) hA si_165_38 (by decide) ?_
  refine sr_goto (tgt := 43) hA si_165_39 (by decide) ?_
  exact sr_zretF hA si_165_43 sq_r_165 (by decide) rfl rfl
set_option maxRecDepth 20000 in
theorem mc_cp2F (X : sp_X) (g : sp_G) {f i : Nat} (hf : f < 14) (hi : i < 6) (hk : g.1 71 i = nI 2) (h : ¬ g.1 75 (9 * f + i) ≤ g.1 72 i + nI 2) : sp_Ct X 1 165 [.ref 64, .int (nI f), .int (nI i)] g (sp_Fi (nI 0) g) := by
  refine sp_walkN (n := 4) sq_p_165 sq_l_165 (Nat.le_of_ble_eq_true rfl) (fun a hA => ?_)
  show sp_Ev X a 165 0 [.ref 64, .int (nI f), .int (nI i), .null] [] g
  refine sr_aload_n hA si_165_0 rfl ?_
  refine sr_getR (r := 71) hA si_165_1 sf_165_33 (by decide) (by decide) rfl rfl rfl ?_
  refine sr_iload_n hA si_165_4 rfl ?_
  refine sr_ialdNv (v := nI 2) (n := 6) hA si_165_5 (by decide) rfl rfl (by omega) (by decide) hk ?_
  refine sr_istore_n (ls1 := [.ref 64, .int (nI f), .int (nI i), .int (nI 2)]) hA si_165_6 rfl (by rw [sq_l_165]; decide) rfl ?_
  refine sr_iload_n hA si_165_7 rfl ?_
  refine sr_iconst (v := nI 5) hA si_165_8 (by decide) ?_
  refine sr_icmp_eqN (tgt := 38) hA si_165_9 (by decide) (by omega) (by omega) (fun c1 => absurd c1 (by omega)) (fun c1 => ?_)
  refine sr_aload_n hA si_165_12 rfl ?_
  refine sr_iload_n hA si_165_13 rfl ?_
  refine sr_iload_n hA si_165_14 rfl ?_
  refine sr_VFi (c := 64) (ci := 8) (as := [.int (nI f), .int (nI i)]) (st := []) hA si_165_15 sv_164 sk_165_152 (mc_v X g (f := f) (i := i) (by omega)) (by omega) rfl (by decide) (by decide) rfl sq_c_164 rfl (Nat.le_of_ble_eq_true rfl) ?_
  refine sr_aload_n hA si_165_18 rfl ?_
  refine sr_getR (r := 72) hA si_165_19 sf_165_36 (by decide) (by decide) rfl rfl rfl ?_
  refine sr_iload_n hA si_165_22 rfl ?_
  refine sr_ialdNv (v := g.1 72 i) (n := 6) hA si_165_23 (by decide) rfl rfl (by omega) (by decide) rfl ?_
  refine sr_iload_n hA si_165_24 rfl ?_
  refine sr_iconst (v := nI 2) hA si_165_25 (by decide) ?_
  refine sr_icmp_neN (tgt := 33) hA si_165_26 (by decide) (by omega) (by omega) (fun c2 => absurd c2 (by omega)) (fun c2 => ?_)
  refine sr_iconst (v := nI 2) hA si_165_29 (by decide) ?_
  refine sr_goto (tgt := 34) hA si_165_30 (by decide) ?_
  refine sr_iadd hA si_165_34 ?_
  refine sr_icmp_gt (tgt := 42) hA si_165_35 (by decide) (fun c3 => ?_) (fun c3 => absurd (Int32.not_le.mp h) c3)
  refine sr_iconst (v := nI 0) hA si_165_42 (by decide) ?_
  exact sr_zretF hA si_165_43 sq_r_165 (by decide) rfl rfl
set_option maxRecDepth 20000 in
theorem mc_cpT (X : sp_X) (g : sp_G) {f i : Nat} (hf : f < 14) (hi : i < 6) {k : Nat} (hk : g.1 71 i = nI k) (hk5 : k ≠ 5) (hk2 : k ≠ 2) (hkb : k ≤ 5) (h : g.1 75 (9 * f + i) ≤ g.1 72 i) : sp_Ct X 1 165 [.ref 64, .int (nI f), .int (nI i)] g (sp_Fi (nI 1) g) := by
  refine sp_walkN (n := 4) sq_p_165 sq_l_165 (Nat.le_of_ble_eq_true rfl) (fun a hA => ?_)
  show sp_Ev X a 165 0 [.ref 64, .int (nI f), .int (nI i), .null] [] g
  refine sr_aload_n hA si_165_0 rfl ?_
  refine sr_getR (r := 71) hA si_165_1 sf_165_33 (by decide) (by decide) rfl rfl rfl ?_
  refine sr_iload_n hA si_165_4 rfl ?_
  refine sr_ialdNv (v := nI k) (n := 6) hA si_165_5 (by decide) rfl rfl (by omega) (by decide) hk ?_
  refine sr_istore_n (ls1 := [.ref 64, .int (nI f), .int (nI i), .int (nI k)]) hA si_165_6 rfl (by rw [sq_l_165]; decide) rfl ?_
  refine sr_iload_n hA si_165_7 rfl ?_
  refine sr_iconst (v := nI 5) hA si_165_8 (by decide) ?_
  refine sr_icmp_eqN (tgt := 38) hA si_165_9 (by decide) (by omega) (by omega) (fun c1 => absurd c1 (by omega)) (fun c1 => ?_)
  refine sr_aload_n hA si_165_12 rfl ?_
  refine sr_iload_n hA si_165_13 rfl ?_
  refine sr_iload_n hA si_165_14 rfl ?_
  refine sr_VFi (c := 64) (ci := 8) (as := [.int (nI f), .int (nI i)]) (st := []) hA si_165_15 sv_164 sk_165_152 (mc_v X g (f := f) (i := i) (by omega)) (by omega) rfl (by decide) (by decide) rfl sq_c_164 rfl (Nat.le_of_ble_eq_true rfl) ?_
  refine sr_aload_n hA si_165_18 rfl ?_
  refine sr_getR (r := 72) hA si_165_19 sf_165_36 (by decide) (by decide) rfl rfl rfl ?_
  refine sr_iload_n hA si_165_22 rfl ?_
  refine sr_ialdNv (v := g.1 72 i) (n := 6) hA si_165_23 (by decide) rfl rfl (by omega) (by decide) rfl ?_
  refine sr_iload_n hA si_165_24 rfl ?_
  refine sr_iconst (v := nI 2) hA si_165_25 (by decide) ?_
  refine sr_icmp_neN (tgt := 33) hA si_165_26 (by decide) (by omega) (by omega) (fun c2 => ?_) (fun c2 => absurd c2 (by omega))
  refine sr_iconst (v := nI 0) hA si_165_33 (by decide) ?_
  refine sr_iadd hA si_165_34 ?_
  refine sr_icmp_gt (tgt := 42) hA si_165_35 (by decide) (fun c3 => absurd c3 (Int32.not_lt.mpr (by rw [show (nI 0 : Int32) = 0 from rfl, Int32.add_zero]; exact h))) (fun c3 => ?_)
  refine sr_iconst (v := nI 1) hA si_165_38 (by decide) ?_
  refine sr_goto (tgt := 43) hA si_165_39 (by decide) ?_
  exact sr_zretF hA si_165_43 sq_r_165 (by decide) rfl rfl
set_option maxRecDepth 20000 in
theorem mc_cpF (X : sp_X) (g : sp_G) {f i : Nat} (hf : f < 14) (hi : i < 6) {k : Nat} (hk : g.1 71 i = nI k) (hk5 : k ≠ 5) (hk2 : k ≠ 2) (hkb : k ≤ 5) (h : ¬ g.1 75 (9 * f + i) ≤ g.1 72 i) : sp_Ct X 1 165 [.ref 64, .int (nI f), .int (nI i)] g (sp_Fi (nI 0) g) := by
  refine sp_walkN (n := 4) sq_p_165 sq_l_165 (Nat.le_of_ble_eq_true rfl) (fun a hA => ?_)
  show sp_Ev X a 165 0 [.ref 64, .int (nI f), .int (nI i), .null] [] g
  refine sr_aload_n hA si_165_0 rfl ?_
  refine sr_getR (r := 71) hA si_165_1 sf_165_33 (by decide) (by decide) rfl rfl rfl ?_
  refine sr_iload_n hA si_165_4 rfl ?_
  refine sr_ialdNv (v := nI k) (n := 6) hA si_165_5 (by decide) rfl rfl (by omega) (by decide) hk ?_
  refine sr_istore_n (ls1 := [.ref 64, .int (nI f), .int (nI i), .int (nI k)]) hA si_165_6 rfl (by rw [sq_l_165]; decide) rfl ?_
  refine sr_iload_n hA si_165_7 rfl ?_
  refine sr_iconst (v := nI 5) hA si_165_8 (by decide) ?_
  refine sr_icmp_eqN (tgt := 38) hA si_165_9 (by decide) (by omega) (by omega) (fun c1 => absurd c1 (by omega)) (fun c1 => ?_)
  refine sr_aload_n hA si_165_12 rfl ?_
  refine sr_iload_n hA si_165_13 rfl ?_
  refine sr_iload_n hA si_165_14 rfl ?_
  refine sr_VFi (c := 64) (ci := 8) (as := [.int (nI f), .int (nI i)]) (st := []) hA si_165_15 sv_164 sk_165_152 (mc_v X g (f := f) (i := i) (by omega)) (by omega) rfl (by decide) (by decide) rfl sq_c_164 rfl (Nat.le_of_ble_eq_true rfl) ?_
  refine sr_aload_n hA si_165_18 rfl ?_
  refine sr_getR (r := 72) hA si_165_19 sf_165_36 (by decide) (by decide) rfl rfl rfl ?_
  refine sr_iload_n hA si_165_22 rfl ?_
  refine sr_ialdNv (v := g.1 72 i) (n := 6) hA si_165_23 (by decide) rfl rfl (by omega) (by decide) rfl ?_
  refine sr_iload_n hA si_165_24 rfl ?_
  refine sr_iconst (v := nI 2) hA si_165_25 (by decide) ?_
  refine sr_icmp_neN (tgt := 33) hA si_165_26 (by decide) (by omega) (by omega) (fun c2 => ?_) (fun c2 => absurd c2 (by omega))
  refine sr_iconst (v := nI 0) hA si_165_33 (by decide) ?_
  refine sr_iadd hA si_165_34 ?_
  refine sr_icmp_gt (tgt := 42) hA si_165_35 (by decide) (fun c3 => ?_) (fun c3 => absurd (show g.1 72 i + nI 0 < g.1 75 (9 * f + i) by rw [show (nI 0 : Int32) = 0 from rfl, Int32.add_zero]; exact Int32.not_le.mp h) c3)
  refine sr_iconst (v := nI 0) hA si_165_42 (by decide) ?_
  exact sr_zretF hA si_165_43 sq_r_165 (by decide) rfl rfl
set_option maxRecDepth 20000 in
theorem xc_be5 (X : sp_X) (g : sp_G) {s o i : Nat} (hs : sp_sd s o) (hi : i < 6) (hk : g.1 19 i = nI 5) : sp_Ct X 0 45 [.ref 18, .int (nI i), .ref s] g (sp_Fi (nI 1) g) := by
  refine sp_walkN (n := 3) sq_p_45 sq_l_45 (Nat.le_of_ble_eq_true rfl) (fun a hA => ?_)
  show sp_Ev X a 45 0 [.ref 18, .int (nI i), .ref s] [] g
  refine sr_aload_n hA si_45_0 rfl ?_
  refine sr_getR (r := 19) hA si_45_1 sf_45_9 (by decide) (by decide) rfl rfl rfl ?_
  refine sr_iload_n hA si_45_4 rfl ?_
  refine sr_ialdNv (v := nI 5) (n := 6) hA si_45_5 (by decide) rfl rfl (by omega) (by decide) hk ?_
  refine sr_lsw (tgt := 32) hA si_45_6 (by decide) (off := 26) (by decide) (by decide) ?_
  refine sr_iconst (v := nI 1) hA si_45_32 (by decide) ?_
  exact sr_zretF hA si_45_33 sq_r_45 (by decide) rfl rfl
set_option maxRecDepth 20000 in
theorem xc_be2T (X : sp_X) (g : sp_G) {s o i : Nat} (hs : sp_sd s o) (hi : i < 6) (hk : g.1 19 i = nI 2) (h : g.1 o i ≤ g.1 20 i + nI 2) : sp_Ct X 0 45 [.ref 18, .int (nI i), .ref s] g (sp_Fi (nI 1) g) := by
  refine sp_walkN (n := 3) sq_p_45 sq_l_45 (Nat.le_of_ble_eq_true rfl) (fun a hA => ?_)
  show sp_Ev X a 45 0 [.ref 18, .int (nI i), .ref s] [] g
  refine sr_aload_n hA si_45_0 rfl ?_
  refine sr_getR (r := 19) hA si_45_1 sf_45_9 (by decide) (by decide) rfl rfl rfl ?_
  refine sr_iload_n hA si_45_4 rfl ?_
  refine sr_ialdNv (v := nI 2) (n := 6) hA si_45_5 (by decide) rfl rfl (by omega) (by decide) hk ?_
  refine sr_lsw (tgt := 34) hA si_45_6 (by decide) (off := 28) (by decide) (by decide) ?_
  refine sr_aload_n hA si_45_34 rfl ?_
  refine sr_getR (r := o) hA si_45_35 sf_45_48 (by decide) hs.1 hs.2.1 rfl hs.2.2.1 ?_
  refine sr_iload_n hA si_45_38 rfl ?_
  refine sr_ialdNv (v := g.1 o i) (n := 6) hA si_45_39 hs.2.2.2.1 hs.2.2.2.2.1 hs.2.2.2.2.2.1 (by omega) (by decide) rfl ?_
  refine sr_aload_n hA si_45_40 rfl ?_
  refine sr_getR (r := 20) hA si_45_41 sf_45_15 (by decide) (by decide) rfl rfl rfl ?_
  refine sr_iload_n hA si_45_44 rfl ?_
  refine sr_ialdNv (v := g.1 20 i) (n := 6) hA si_45_45 (by decide) rfl rfl (by omega) (by decide) rfl ?_
  refine sr_iconst (v := nI 2) hA si_45_46 (by decide) ?_
  refine sr_iadd hA si_45_47 ?_
  refine sr_icmp_gt (tgt := 55) hA si_45_48 (by decide) (fun c1 => absurd c1 (Int32.not_lt.mpr h)) (fun c1 => ?_)
  refine sr_iconst (v := nI 1) hA si_45_51 (by decide) ?_
  refine sr_goto (tgt := 56) hA si_45_52 (by decide) ?_
  exact sr_zretF hA si_45_56 sq_r_45 (by decide) rfl rfl
set_option maxRecDepth 20000 in
theorem xc_be2F (X : sp_X) (g : sp_G) {s o i : Nat} (hs : sp_sd s o) (hi : i < 6) (hk : g.1 19 i = nI 2) (h : ¬ g.1 o i ≤ g.1 20 i + nI 2) : sp_Ct X 0 45 [.ref 18, .int (nI i), .ref s] g (sp_Fi (nI 0) g) := by
  refine sp_walkN (n := 3) sq_p_45 sq_l_45 (Nat.le_of_ble_eq_true rfl) (fun a hA => ?_)
  show sp_Ev X a 45 0 [.ref 18, .int (nI i), .ref s] [] g
  refine sr_aload_n hA si_45_0 rfl ?_
  refine sr_getR (r := 19) hA si_45_1 sf_45_9 (by decide) (by decide) rfl rfl rfl ?_
  refine sr_iload_n hA si_45_4 rfl ?_
  refine sr_ialdNv (v := nI 2) (n := 6) hA si_45_5 (by decide) rfl rfl (by omega) (by decide) hk ?_
  refine sr_lsw (tgt := 34) hA si_45_6 (by decide) (off := 28) (by decide) (by decide) ?_
  refine sr_aload_n hA si_45_34 rfl ?_
  refine sr_getR (r := o) hA si_45_35 sf_45_48 (by decide) hs.1 hs.2.1 rfl hs.2.2.1 ?_
  refine sr_iload_n hA si_45_38 rfl ?_
  refine sr_ialdNv (v := g.1 o i) (n := 6) hA si_45_39 hs.2.2.2.1 hs.2.2.2.2.1 hs.2.2.2.2.2.1 (by omega) (by decide) rfl ?_
  refine sr_aload_n hA si_45_40 rfl ?_
  refine sr_getR (r := 20) hA si_45_41 sf_45_15 (by decide) (by decide) rfl rfl rfl ?_
  refine sr_iload_n hA si_45_44 rfl ?_
  refine sr_ialdNv (v := g.1 20 i) (n := 6) hA si_45_45 (by decide) rfl rfl (by omega) (by decide) rfl ?_
  refine sr_iconst (v := nI 2) hA si_45_46 (by decide) ?_
  refine sr_iadd hA si_45_47 ?_
  refine sr_icmp_gt (tgt := 55) hA si_45_48 (by decide) (fun c1 => ?_) (fun c1 => absurd (Int32.not_le.mp h) c1)
  refine sr_iconst (v := nI 0) hA si_45_55 (by decide) ?_
  exact sr_zretF hA si_45_56 sq_r_45 (by decide) rfl rfl
set_option maxRecDepth 20000 in
theorem xc_beT0 (X : sp_X) (g : sp_G) {s o i : Nat} (hs : sp_sd s o) (hi : i < 6) (hk : g.1 19 i = nI 0) (h : g.1 o i ≤ g.1 20 i) : sp_Ct X 0 45 [.ref 18, .int (nI i), .ref s] g (sp_Fi (nI 1) g) := by
  refine sp_walkN (n := 3) sq_p_45 sq_l_45 (Nat.le_of_ble_eq_true rfl) (fun a hA => ?_)
  show sp_Ev X a 45 0 [.ref 18, .int (nI i), .ref s] [] g
  refine sr_aload_n hA si_45_0 rfl ?_
  refine sr_getR (r := 19) hA si_45_1 sf_45_9 (by decide) (by decide) rfl rfl rfl ?_
  refine sr_iload_n hA si_45_4 rfl ?_
  refine sr_ialdNv (v := nI 0) (n := 6) hA si_45_5 (by decide) rfl rfl (by omega) (by decide) hk ?_
  refine sr_lsw (tgt := 57) hA si_45_6 (by decide) (off := 51) (by decide) (by decide) ?_
  refine sr_aload_n hA si_45_57 rfl ?_
  refine sr_getR (r := o) hA si_45_58 sf_45_48 (by decide) hs.1 hs.2.1 rfl hs.2.2.1 ?_
  refine sr_iload_n hA si_45_61 rfl ?_
  refine sr_ialdNv (v := g.1 o i) (n := 6) hA si_45_62 hs.2.2.2.1 hs.2.2.2.2.1 hs.2.2.2.2.2.1 (by omega) (by decide) rfl ?_
  refine sr_aload_n hA si_45_63 rfl ?_
  refine sr_getR (r := 20) hA si_45_64 sf_45_15 (by decide) (by decide) rfl rfl rfl ?_
  refine sr_iload_n hA si_45_67 rfl ?_
  refine sr_ialdNv (v := g.1 20 i) (n := 6) hA si_45_68 (by decide) rfl rfl (by omega) (by decide) rfl ?_
  refine sr_icmp_gt (tgt := 76) hA si_45_69 (by decide) (fun c1 => absurd c1 (Int32.not_lt.mpr h)) (fun c1 => ?_)
  refine sr_iconst (v := nI 1) hA si_45_72 (by decide) ?_
  refine sr_goto (tgt := 77) hA si_45_73 (by decide) ?_
  exact sr_zretF hA si_45_77 sq_r_45 (by decide) rfl rfl
set_option maxRecDepth 20000 in
theorem xc_beT1 (X : sp_X) (g : sp_G) {s o i : Nat} (hs : sp_sd s o) (hi : i < 6) (hk : g.1 19 i = nI 1) (h : g.1 o i ≤ g.1 20 i) : sp_Ct X 0 45 [.ref 18, .int (nI i), .ref s] g (sp_Fi (nI 1) g) := by
  refine sp_walkN (n := 3) sq_p_45 sq_l_45 (Nat.le_of_ble_eq_true rfl) (fun a hA => ?_)
  show sp_Ev X a 45 0 [.ref 18, .int (nI i), .ref s] [] g
  refine sr_aload_n hA si_45_0 rfl ?_
  refine sr_getR (r := 19) hA si_45_1 sf_45_9 (by decide) (by decide) rfl rfl rfl ?_
  refine sr_iload_n hA si_45_4 rfl ?_
  refine sr_ialdNv (v := nI 1) (n := 6) hA si_45_5 (by decide) rfl rfl (by omega) (by decide) hk ?_
  refine sr_lsw (tgt := 57) hA si_45_6 (by decide) (off := 51) (by decide) (by decide) ?_
  refine sr_aload_n hA si_45_57 rfl ?_
  refine sr_getR (r := o) hA si_45_58 sf_45_48 (by decide) hs.1 hs.2.1 rfl hs.2.2.1 ?_
  refine sr_iload_n hA si_45_61 rfl ?_
  refine sr_ialdNv (v := g.1 o i) (n := 6) hA si_45_62 hs.2.2.2.1 hs.2.2.2.2.1 hs.2.2.2.2.2.1 (by omega) (by decide) rfl ?_
  refine sr_aload_n hA si_45_63 rfl ?_
  refine sr_getR (r := 20) hA si_45_64 sf_45_15 (by decide) (by decide) rfl rfl rfl ?_
  refine sr_iload_n hA si_45_67 rfl ?_
  refine sr_ialdNv (v := g.1 20 i) (n := 6) hA si_45_68 (by decide) rfl rfl (by omega) (by decide) rfl ?_
  refine sr_icmp_gt (tgt := 76) hA si_45_69 (by decide) (fun c1 => absurd c1 (Int32.not_lt.mpr h)) (fun c1 => ?_)
  refine sr_iconst (v := nI 1) hA si_45_72 (by decide) ?_
  refine sr_goto (tgt := 77) hA si_45_73 (by decide) ?_
  exact sr_zretF hA si_45_77 sq_r_45 (by decide) rfl rfl
set_option maxRecDepth 20000 in
theorem xc_beT3 (X : sp_X) (g : sp_G) {s o i : Nat} (hs : sp_sd s o) (hi : i < 6) (hk : g.1 19 i = nI 3) (h : g.1 o i ≤ g.1 20 i) : sp_Ct X 0 45 [.ref 18, .int (nI i), .ref s] g (sp_Fi (nI 1) g) := by
  refine sp_walkN (n := 3) sq_p_45 sq_l_45 (Nat.le_of_ble_eq_true rfl) (fun a hA => ?_)
  show sp_Ev X a 45 0 [.ref 18, .int (nI i), .ref s] [] g
  refine sr_aload_n hA si_45_0 rfl ?_
  refine sr_getR (r := 19) hA si_45_1 sf_45_9 (by decide) (by decide) rfl rfl rfl ?_
  refine sr_iload_n hA si_45_4 rfl ?_
  refine sr_ialdNv (v := nI 3) (n := 6) hA si_45_5 (by decide) rfl rfl (by omega) (by decide) hk ?_
  refine sr_lsw (tgt := 57) hA si_45_6 (by decide) (off := 51) (by decide) (by decide) ?_
  refine sr_aload_n hA si_45_57 rfl ?_
  refine sr_getR (r := o) hA si_45_58 sf_45_48 (by decide) hs.1 hs.2.1 rfl hs.2.2.1 ?_
  refine sr_iload_n hA si_45_61 rfl ?_
  refine sr_ialdNv (v := g.1 o i) (n := 6) hA si_45_62 hs.2.2.2.1 hs.2.2.2.2.1 hs.2.2.2.2.2.1 (by omega) (by decide) rfl ?_
  refine sr_aload_n hA si_45_63 rfl ?_
  refine sr_getR (r := 20) hA si_45_64 sf_45_15 (by decide) (by decide) rfl rfl rfl ?_
  refine sr_iload_n hA si_45_67 rfl ?_
  refine sr_ialdNv (v := g.1 20 i) (n := 6) hA si_45_68 (by decide) rfl rfl (by omega) (by decide) rfl ?_
  refine sr_icmp_gt (tgt := 76) hA si_45_69 (by decide) (fun c1 => absurd c1 (Int32.not_lt.mpr h)) (fun c1 => ?_)
  refine sr_iconst (v := nI 1) hA si_45_72 (by decide) ?_
  refine sr_goto (tgt := 77) hA si_45_73 (by decide) ?_
  exact sr_zretF hA si_45_77 sq_r_45 (by decide) rfl rfl
set_option maxRecDepth 20000 in
theorem xc_beT4 (X : sp_X) (g : sp_G) {s o i : Nat} (hs : sp_sd s o) (hi : i < 6) (hk : g.1 19 i = nI 4) (h : g.1 o i ≤ g.1 20 i) : sp_Ct X 0 45 [.ref 18, .int (nI i), .ref s] g (sp_Fi (nI 1) g) := by
  refine sp_walkN (n := 3) sq_p_45 sq_l_45 (Nat.le_of_ble_eq_true rfl) (fun a hA => ?_)
  show sp_Ev X a 45 0 [.ref 18, .int (nI i), .ref s] [] g
  refine sr_aload_n hA si_45_0 rfl ?_
  refine sr_getR (r := 19) hA si_45_1 sf_45_9 (by decide) (by decide) rfl rfl rfl ?_
  refine sr_iload_n hA si_45_4 rfl ?_
  refine sr_ialdNv (v := nI 4) (n := 6) hA si_45_5 (by decide) rfl rfl (by omega) (by decide) hk ?_
  refine sr_lsw (tgt := 57) hA si_45_6 (by decide) (off := 51) (by decide) (by decide) ?_
  refine sr_aload_n hA si_45_57 rfl ?_
  refine sr_getR (r := o) hA si_45_58 sf_45_48 (by decide) hs.1 hs.2.1 rfl hs.2.2.1 ?_
  refine sr_iload_n hA si_45_61 rfl ?_
  refine sr_ialdNv (v := g.1 o i) (n := 6) hA si_45_62 hs.2.2.2.1 hs.2.2.2.2.1 hs.2.2.2.2.2.1 (by omega) (by decide) rfl ?_
  refine sr_aload_n hA si_45_63 rfl ?_
  refine sr_getR (r := 20) hA si_45_64 sf_45_15 (by decide) (by decide) rfl rfl rfl ?_
  refine sr_iload_n hA si_45_67 rfl ?_
  refine sr_ialdNv (v := g.1 20 i) (n := 6) hA si_45_68 (by decide) rfl rfl (by omega) (by decide) rfl ?_
  refine sr_icmp_gt (tgt := 76) hA si_45_69 (by decide) (fun c1 => absurd c1 (Int32.not_lt.mpr h)) (fun c1 => ?_)
  refine sr_iconst (v := nI 1) hA si_45_72 (by decide) ?_
  refine sr_goto (tgt := 77) hA si_45_73 (by decide) ?_
  exact sr_zretF hA si_45_77 sq_r_45 (by decide) rfl rfl
set_option maxRecDepth 20000 in
theorem xc_beF0 (X : sp_X) (g : sp_G) {s o i : Nat} (hs : sp_sd s o) (hi : i < 6) (hk : g.1 19 i = nI 0) (h : ¬ g.1 o i ≤ g.1 20 i) : sp_Ct X 0 45 [.ref 18, .int (nI i), .ref s] g (sp_Fi (nI 0) g) := by
  refine sp_walkN (n := 3) sq_p_45 sq_l_45 (Nat.le_of_ble_eq_true rfl) (fun a hA => ?_)
  show sp_Ev X a 45 0 [.ref 18, .int (nI i), .ref s] [] g
  refine sr_aload_n hA si_45_0 rfl ?_
  refine sr_getR (r := 19) hA si_45_1 sf_45_9 (by decide) (by decide) rfl rfl rfl ?_
  refine sr_iload_n hA si_45_4 rfl ?_
  refine sr_ialdNv (v := nI 0) (n := 6) hA si_45_5 (by decide) rfl rfl (by omega) (by decide) hk ?_
  refine sr_lsw (tgt := 57) hA si_45_6 (by decide) (off := 51) (by decide) (by decide) ?_
  refine sr_aload_n hA si_45_57 rfl ?_
  refine sr_getR (r := o) hA si_45_58 sf_45_48 (by decide) hs.1 hs.2.1 rfl hs.2.2.1 ?_
  refine sr_iload_n hA si_45_61 rfl ?_
  refine sr_ialdNv (v := g.1 o i) (n := 6) hA si_45_62 hs.2.2.2.1 hs.2.2.2.2.1 hs.2.2.2.2.2.1 (by omega) (by decide) rfl ?_
  refine sr_aload_n hA si_45_63 rfl ?_
  refine sr_getR (r := 20) hA si_45_64 sf_45_15 (by decide) (by decide) rfl rfl rfl ?_
  refine sr_iload_n hA si_45_67 rfl ?_
  refine sr_ialdNv (v := g.1 20 i) (n := 6) hA si_45_68 (by decide) rfl rfl (by omega) (by decide) rfl ?_
  refine sr_icmp_gt (tgt := 76) hA si_45_69 (by decide) (fun c1 => ?_) (fun c1 => absurd (Int32.not_le.mp h) c1)
  refine sr_iconst (v := nI 0) hA si_45_76 (by decide) ?_
  exact sr_zretF hA si_45_77 sq_r_45 (by decide) rfl rfl
set_option maxRecDepth 20000 in
theorem xc_beF1 (X : sp_X) (g : sp_G) {s o i : Nat} (hs : sp_sd s o) (hi : i < 6) (hk : g.1 19 i = nI 1) (h : ¬ g.1 o i ≤ g.1 20 i) : sp_Ct X 0 45 [.ref 18, .int (nI i), .ref s] g (sp_Fi (nI 0) g) := by
  refine sp_walkN (n := 3) sq_p_45 sq_l_45 (Nat.le_of_ble_eq_true rfl) (fun a hA => ?_)
  show sp_Ev X a 45 0 [.ref 18, .int (nI i), .ref s] [] g
  refine sr_aload_n hA si_45_0 rfl ?_
  refine sr_getR (r := 19) hA si_45_1 sf_45_9 (by decide) (by decide) rfl rfl rfl ?_
  refine sr_iload_n hA si_45_4 rfl ?_
  refine sr_ialdNv (v := nI 1) (n := 6) hA si_45_5 (by decide) rfl rfl (by omega) (by decide) hk ?_
  refine sr_lsw (tgt := 57) hA si_45_6 (by decide) (off := 51) (by decide) (by decide) ?_
  refine sr_aload_n hA si_45_57 rfl ?_
  refine sr_getR (r := o) hA si_45_58 sf_45_48 (by decide) hs.1 hs.2.1 rfl hs.2.2.1 ?_
  refine sr_iload_n hA si_45_61 rfl ?_
  refine sr_ialdNv (v := g.1 o i) (n := 6) hA si_45_62 hs.2.2.2.1 hs.2.2.2.2.1 hs.2.2.2.2.2.1 (by omega) (by decide) rfl ?_
  refine sr_aload_n hA si_45_63 rfl ?_
  refine sr_getR (r := 20) hA si_45_64 sf_45_15 (by decide) (by decide) rfl rfl rfl ?_
  refine sr_iload_n hA si_45_67 rfl ?_
  refine sr_ialdNv (v := g.1 20 i) (n := 6) hA si_45_68 (by decide) rfl rfl (by omega) (by decide) rfl ?_
  refine sr_icmp_gt (tgt := 76) hA si_45_69 (by decide) (fun c1 => ?_) (fun c1 => absurd (Int32.not_le.mp h) c1)
  refine sr_iconst (v := nI 0) hA si_45_76 (by decide) ?_
  exact sr_zretF hA si_45_77 sq_r_45 (by decide) rfl rfl
set_option maxRecDepth 20000 in
theorem xc_beF3 (X : sp_X) (g : sp_G) {s o i : Nat} (hs : sp_sd s o) (hi : i < 6) (hk : g.1 19 i = nI 3) (h : ¬ g.1 o i ≤ g.1 20 i) : sp_Ct X 0 45 [.ref 18, .int (nI i), .ref s] g (sp_Fi (nI 0) g) := by
  refine sp_walkN (n := 3) sq_p_45 sq_l_45 (Nat.le_of_ble_eq_true rfl) (fun a hA => ?_)
  show sp_Ev X a 45 0 [.ref 18, .int (nI i), .ref s] [] g
  refine sr_aload_n hA si_45_0 rfl ?_
  refine sr_getR (r := 19) hA si_45_1 sf_45_9 (by decide) (by decide) rfl rfl rfl ?_
  refine sr_iload_n hA si_45_4 rfl ?_
  refine sr_ialdNv (v := nI 3) (n := 6) hA si_45_5 (by decide) rfl rfl (by omega) (by decide) hk ?_
  refine sr_lsw (tgt := 57) hA si_45_6 (by decide) (off := 51) (by decide) (by decide) ?_
  refine sr_aload_n hA si_45_57 rfl ?_
  refine sr_getR (r := o) hA si_45_58 sf_45_48 (by decide) hs.1 hs.2.1 rfl hs.2.2.1 ?_
  refine sr_iload_n hA si_45_61 rfl ?_
  refine sr_ialdNv (v := g.1 o i) (n := 6) hA si_45_62 hs.2.2.2.1 hs.2.2.2.2.1 hs.2.2.2.2.2.1 (by omega) (by decide) rfl ?_
  refine sr_aload_n hA si_45_63 rfl ?_
  refine sr_getR (r := 20) hA si_45_64 sf_45_15 (by decide) (by decide) rfl rfl rfl ?_
  refine sr_iload_n hA si_45_67 rfl ?_
  refine sr_ialdNv (v := g.1 20 i) (n := 6) hA si_45_68 (by decide) rfl rfl (by omega) (by decide) rfl ?_
  refine sr_icmp_gt (tgt := 76) hA si_45_69 (by decide) (fun c1 => ?_) (fun c1 => absurd (Int32.not_le.mp h) c1)
  refine sr_iconst (v := nI 0) hA si_45_76 (by decide) ?_
  exact sr_zretF hA si_45_77 sq_r_45 (by decide) rfl rfl
set_option maxRecDepth 20000 in
theorem xc_beF4 (X : sp_X) (g : sp_G) {s o i : Nat} (hs : sp_sd s o) (hi : i < 6) (hk : g.1 19 i = nI 4) (h : ¬ g.1 o i ≤ g.1 20 i) : sp_Ct X 0 45 [.ref 18, .int (nI i), .ref s] g (sp_Fi (nI 0) g) := by
  refine sp_walkN (n := 3) sq_p_45 sq_l_45 (Nat.le_of_ble_eq_true rfl) (fun a hA => ?_)
  show sp_Ev X a 45 0 [.ref 18, .int (nI i), .ref s] [] g
  refine sr_aload_n hA si_45_0 rfl ?_
  refine sr_getR (r := 19) hA si_45_1 sf_45_9 (by decide) (by decide) rfl rfl rfl ?_
  refine sr_iload_n hA si_45_4 rfl ?_
  refine sr_ialdNv (v := nI 4) (n := 6) hA si_45_5 (by decide) rfl rfl (by omega) (by decide) hk ?_
  refine sr_lsw (tgt := 57) hA si_45_6 (by decide) (off := 51) (by decide) (by decide) ?_
  refine sr_aload_n hA si_45_57 rfl ?_
  refine sr_getR (r := o) hA si_45_58 sf_45_48 (by decide) hs.1 hs.2.1 rfl hs.2.2.1 ?_
  refine sr_iload_n hA si_45_61 rfl ?_
  refine sr_ialdNv (v := g.1 o i) (n := 6) hA si_45_62 hs.2.2.2.1 hs.2.2.2.2.1 hs.2.2.2.2.2.1 (by omega) (by decide) rfl ?_
  refine sr_aload_n hA si_45_63 rfl ?_
  refine sr_getR (r := 20) hA si_45_64 sf_45_15 (by decide) (by decide) rfl rfl rfl ?_
  refine sr_iload_n hA si_45_67 rfl ?_
  refine sr_ialdNv (v := g.1 20 i) (n := 6) hA si_45_68 (by decide) rfl rfl (by omega) (by decide) rfl ?_
  refine sr_icmp_gt (tgt := 76) hA si_45_69 (by decide) (fun c1 => ?_) (fun c1 => absurd (Int32.not_le.mp h) c1)
  refine sr_iconst (v := nI 0) hA si_45_76 (by decide) ?_
  exact sr_zretF hA si_45_77 sq_r_45 (by decide) rfl rfl
theorem mc_canPlay1 (X : sp_X) (g : sp_G) {f i k : Nat} (hf : f < 14) (hi : i < 6) (hk : g.1 71 i = nI k) (hkb : k ≤ 5) (h : sp_cb (g.1 71 i) (g.1 72 i) (g.1 75 (9 * f + i)) = true) : sp_Ct X 1 165 [.ref 64, .int (nI f), .int (nI i)] g (sp_Fi (nI 1) g) := by
  rw [hk] at h
  by_cases h5 : k = 5
  · subst h5; exact mc_cp5 X g hf hi hk
  by_cases h2 : k = 2
  · subst h2; exact mc_cp2T X g hf hi hk (sp_cb2.mp h)
  · exact mc_cpT X g hf hi hk h5 h2 hkb ((sp_cbk h5 h2 hkb).mp h)
theorem mc_canPlay0 (X : sp_X) (g : sp_G) {f i k : Nat} (hf : f < 14) (hi : i < 6) (hk : g.1 71 i = nI k) (hkb : k ≤ 5) (h : ¬ sp_cb (g.1 71 i) (g.1 72 i) (g.1 75 (9 * f + i)) = true) : sp_Ct X 1 165 [.ref 64, .int (nI f), .int (nI i)] g (sp_Fi (nI 0) g) := by
  rw [hk] at h
  by_cases h5 : k = 5
  · subst h5; exact absurd (sp_cb5 _ _) h
  by_cases h2 : k = 2
  · subst h2; exact mc_cp2F X g hf hi hk (fun q => h (sp_cb2.mpr q))
  · exact mc_cpF X g hf hi hk h5 h2 hkb (fun q => h ((sp_cbk h5 h2 hkb).mpr q))
theorem xc_bears1 (X : sp_X) (g : sp_G) {s o i k : Nat} (hs : sp_sd s o) (hi : i < 6) (hk : g.1 19 i = nI k) (hkb : k ≤ 5) (h : sp_cb (g.1 19 i) (g.1 20 i) (g.1 o i) = true) : sp_Ct X 0 45 [.ref 18, .int (nI i), .ref s] g (sp_Fi (nI 1) g) := by
  rw [hk] at h
  rcases (show k = 0 ∨ k = 1 ∨ k = 2 ∨ k = 3 ∨ k = 4 ∨ k = 5 by omega) with rfl | rfl | rfl | rfl | rfl | rfl
  · exact xc_beT0 X g hs hi hk ((sp_cbk (by omega) (by omega) (by omega)).mp h)
  · exact xc_beT1 X g hs hi hk ((sp_cbk (by omega) (by omega) (by omega)).mp h)
  · exact xc_be2T X g hs hi hk (sp_cb2.mp h)
  · exact xc_beT3 X g hs hi hk ((sp_cbk (by omega) (by omega) (by omega)).mp h)
  · exact xc_beT4 X g hs hi hk ((sp_cbk (by omega) (by omega) (by omega)).mp h)
  · exact xc_be5 X g hs hi hk
theorem xc_bears0 (X : sp_X) (g : sp_G) {s o i k : Nat} (hs : sp_sd s o) (hi : i < 6) (hk : g.1 19 i = nI k) (hkb : k ≤ 5) (h : ¬ sp_cb (g.1 19 i) (g.1 20 i) (g.1 o i) = true) : sp_Ct X 0 45 [.ref 18, .int (nI i), .ref s] g (sp_Fi (nI 0) g) := by
  rw [hk] at h
  rcases (show k = 0 ∨ k = 1 ∨ k = 2 ∨ k = 3 ∨ k = 4 ∨ k = 5 by omega) with rfl | rfl | rfl | rfl | rfl | rfl
  · exact xc_beF0 X g hs hi hk (fun q => h ((sp_cbk (by omega) (by omega) (by omega)).mpr q))
  · exact xc_beF1 X g hs hi hk (fun q => h ((sp_cbk (by omega) (by omega) (by omega)).mpr q))
  · exact xc_be2F X g hs hi hk (fun q => h (sp_cb2.mpr q))
  · exact xc_beF3 X g hs hi hk (fun q => h ((sp_cbk (by omega) (by omega) (by omega)).mpr q))
  · exact xc_beF4 X g hs hi hk (fun q => h ((sp_cbk (by omega) (by omega) (by omega)).mpr q))
  · exact absurd (sp_cb5 _ _) h
/-- the kinds of the keys are kinds -/
def sp_kk (g : sp_G) (c n : Nat) : Prop := ∀ i, i < n → ∃ k, k ≤ 5 ∧ g.1 c i = nI k
/-- which keys can be played, as bits -/
def sp_st (c : Nat → Bool) : Nat → Nat
  | 0 => 0
  | n + 1 => sp_st c n + (if c n then 2 ^ n else 0)
theorem sp_st_lt (c : Nat → Bool) : ∀ n, sp_st c n < 2 ^ n
  | 0 => by simp [sp_st]
  | n + 1 => by
    have := sp_st_lt c n
    show sp_st c n + (if c n then 2 ^ n else 0) < 2 ^ (n + 1)
    rw [Nat.pow_succ]
    split <;> omega
theorem sp_st_64 (c : Nat → Bool) {n : Nat} (h : n ≤ 6) : sp_st c n < 64 := Nat.lt_of_lt_of_le (sp_st_lt c n) (Nat.pow_le_pow_right (by omega) h)
theorem sp_st_c {c c' : Nat → Bool} : ∀ {n : Nat}, (∀ i, i < n → c i = c' i) → sp_st c n = sp_st c' n
  | 0, _ => rfl
  | n + 1, h => by
    show sp_st c n + (if c n then 2 ^ n else 0) = sp_st c' n + (if c' n then 2 ^ n else 0)
    rw [sp_st_c (fun i hi => h i (by omega)), h n (by omega)]
theorem sp_orb : ∀ i, i < 6 → ∀ s, s < 2 ^ i → nI s ||| (nI 1 <<< (nI i &&& 31)) = nI (s + 2 ^ i) := by decide +kernel
theorem sp_or0 : ∀ s, s < 64 → nI s ||| nI 0 = nI s := by decide +kernel
def sp_cn (g : sp_G) (K T : Nat) (v : Nat → Int32) (i : Nat) : Bool := sp_cb (g.1 K i) (g.1 T i) (v i)
set_option maxRecDepth 20000 in
theorem ml_canSet {X : sp_X} {a : sp_Ac} {g : sp_G} {f n : Nat} (hn : g.1 64 11 = nI n) (hb : n ≤ 6) (hf : f < 14) (hK : sp_kk g 71 n) (hA : sp_Act X 170 2 (sp_Fi (nI (sp_st (fun i => sp_cb (g.1 71 i) (g.1 72 i) (g.1 75 (9 * f + i))) n)) g) a) : ∀ (m : Nat) (i : Nat), i + m = n → sp_Ev X a 170 4 [.ref 64, .int (nI f), .int (nI (sp_st (fun i => sp_cb (g.1 71 i) (g.1 72 i) (g.1 75 (9 * f + i))) i)), .int (nI i)] [] g := by
  intro m
  induction m with
  | zero =>
    intro i h0_
    refine sr_iload_n hA si_170_4 rfl ?_
    refine sr_aload_n hA si_170_5 rfl ?_
    refine sr_getIv (v := nI n) hA si_170_6 sf_170_142 (by decide) (by decide) rfl (by decide) hn ?_
    refine sr_icmp_geN (tgt := 37) hA si_170_9 (by decide) (by omega) (by omega) (fun c1 => ?_) (fun c1 => absurd c1 (by omega))
    refine sr_iload_n hA si_170_37 rfl ?_
    exact sr_iretF hA si_170_38 sq_r_170 (by rw [show i = n by omega]) rfl
  | succ m ih =>
    intro i h0_
    obtain ⟨k, hkb, hk⟩ := hK i (by omega)
    refine sr_iload_n hA si_170_4 rfl ?_
    refine sr_aload_n hA si_170_5 rfl ?_
    refine sr_getIv (v := nI n) hA si_170_6 sf_170_142 (by decide) (by decide) rfl (by decide) hn ?_
    refine sr_icmp_geN (tgt := 37) hA si_170_9 (by decide) (by omega) (by omega) (fun c1 => absurd c1 (by omega)) (fun c1 => ?_)
    refine sr_iload_n hA si_170_12 rfl ?_
    refine sr_aload_n hA si_170_13 rfl ?_
    refine sr_iload_n hA si_170_14 rfl ?_
    refine sr_iload_n hA si_170_15 rfl ?_
    by_cases hcb : sp_cb (g.1 71 i) (g.1 72 i) (g.1 75 (9 * f + i)) = true
    · refine sr_VFi (c := 64) (ci := 8) (as := [.int (nI f), .int (nI i)]) (st := [.int (nI (sp_st (fun i => sp_cb (g.1 71 i) (g.1 72 i) (g.1 75 (9 * f + i))) i))]) hA si_170_16 sv_165 sk_170_155 (mc_canPlay1 X g (f := f) (i := i) (by omega) (by omega) hk hkb hcb) (by omega) rfl (by decide) (by decide) rfl sq_c_165 rfl (Nat.le_of_ble_eq_true rfl) ?_
      refine sr_if_eqN (tgt := 28) hA si_170_19 (by decide) (by omega) (fun c2 => absurd c2 (by omega)) (fun c2 => ?_)
      refine sr_iconst (v := nI 1) hA si_170_22 (by decide) ?_
      refine sr_iload_n hA si_170_23 rfl ?_
      refine sr_ishl hA si_170_24 ?_
      refine sr_goto (tgt := 29) hA si_170_25 (by decide) ?_
      refine sr_ior hA si_170_29 ?_
      refine sr_istore_n (ls1 := [.ref 64, .int (nI f), .int ((nI (sp_st (fun i => sp_cb (g.1 71 i) (g.1 72 i) (g.1 75 (9 * f + i))) i)) ||| ((nI 1) <<< ((nI i) &&& 31))), .int (nI i)]) hA si_170_30 rfl (by rw [sq_l_170]; decide) rfl ?_
      refine sr_iincN (x := i) (y := 1) (ls1 := [.ref 64, .int (nI f), .int ((nI (sp_st (fun i => sp_cb (g.1 71 i) (g.1 72 i) (g.1 75 (9 * f + i))) i)) ||| ((nI 1) <<< ((nI i) &&& 31))), .int (nI (i + 1))]) hA si_170_31 rfl rfl (by rw [sq_l_170]; decide) rfl ?_
      refine sr_goto (tgt := 4) hA si_170_34 (by decide) ?_
      rw [sp_orb i (by omega) _ (sp_st_lt _ i)]
      have e : sp_st (fun i => sp_cb (g.1 71 i) (g.1 72 i) (g.1 75 (9 * f + i))) i + 2 ^ i = sp_st (fun i => sp_cb (g.1 71 i) (g.1 72 i) (g.1 75 (9 * f + i))) (i + 1) := by
        show _ = sp_st _ i + _
        rw [if_pos (by simpa using hcb)]
      rw [e]
      exact ih (i + 1) (by omega)
    · refine sr_VFi (c := 64) (ci := 8) (as := [.int (nI f), .int (nI i)]) (st := [.int (nI (sp_st (fun i => sp_cb (g.1 71 i) (g.1 72 i) (g.1 75 (9 * f + i))) i))]) hA si_170_16 sv_165 sk_170_155 (mc_canPlay0 X g (f := f) (i := i) (by omega) (by omega) hk hkb hcb) (by omega) rfl (by decide) (by decide) rfl sq_c_165 rfl (Nat.le_of_ble_eq_true rfl) ?_
      refine sr_if_eqN (tgt := 28) hA si_170_19 (by decide) (by omega) (fun c3 => ?_) (fun c3 => absurd c3 (by omega))
      refine sr_iconst (v := nI 0) hA si_170_28 (by decide) ?_
      refine sr_ior hA si_170_29 ?_
      refine sr_istore_n (ls1 := [.ref 64, .int (nI f), .int ((nI (sp_st (fun i => sp_cb (g.1 71 i) (g.1 72 i) (g.1 75 (9 * f + i))) i)) ||| (nI 0)), .int (nI i)]) hA si_170_30 rfl (by rw [sq_l_170]; decide) rfl ?_
      refine sr_iincN (x := i) (y := 1) (ls1 := [.ref 64, .int (nI f), .int ((nI (sp_st (fun i => sp_cb (g.1 71 i) (g.1 72 i) (g.1 75 (9 * f + i))) i)) ||| (nI 0)), .int (nI (i + 1))]) hA si_170_31 rfl rfl (by rw [sq_l_170]; decide) rfl ?_
      refine sr_goto (tgt := 4) hA si_170_34 (by decide) ?_
      rw [sp_or0 _ (sp_st_64 _ (by omega))]
      have e : sp_st (fun i => sp_cb (g.1 71 i) (g.1 72 i) (g.1 75 (9 * f + i))) i = sp_st (fun i => sp_cb (g.1 71 i) (g.1 72 i) (g.1 75 (9 * f + i))) (i + 1) := by
        show _ = sp_st _ i + _
        rw [if_neg (by simpa using hcb)]
        rfl
      rw [e]
      exact ih (i + 1) (by omega)
set_option maxRecDepth 20000 in
theorem mc_canSet (X : sp_X) (g : sp_G) {f n : Nat} (hn : g.1 64 11 = nI n) (hb : n ≤ 6) (hf : f < 14) (hK : sp_kk g 71 n) : sp_Ct X 2 170 [.ref 64, .int (nI f)] g (sp_Fi (nI (sp_st (fun i => sp_cb (g.1 71 i) (g.1 72 i) (g.1 75 (9 * f + i))) n)) g) := by
  refine sp_walkN (n := 4) sq_p_170 sq_l_170 (Nat.le_of_ble_eq_true rfl) (fun a hA => ?_)
  show sp_Ev X a 170 0 [.ref 64, .int (nI f), .null, .null] [] g
  refine sr_iconst (v := nI 0) hA si_170_0 (by decide) ?_
  refine sr_istore_n (ls1 := [.ref 64, .int (nI f), .int (nI 0), .null]) hA si_170_1 rfl (by rw [sq_l_170]; decide) rfl ?_
  refine sr_iconst (v := nI 0) hA si_170_2 (by decide) ?_
  refine sr_istore_n (ls1 := [.ref 64, .int (nI f), .int (nI 0), .int (nI 0)]) hA si_170_3 rfl (by rw [sq_l_170]; decide) rfl ?_
  exact ml_canSet hn hb hf hK hA n 0 (by omega)
set_option maxRecDepth 20000 in
theorem xl_playable {X : sp_X} {a : sp_Ac} {g : sp_G} {s o n : Nat} (hs : sp_sd s o) (hn : g.1 18 3 = nI n) (hb : n ≤ 6) (hK : sp_kk g 19 n) (hA : sp_Act X 50 2 (sp_Fi (nI (sp_st (fun i => sp_cb (g.1 19 i) (g.1 20 i) (g.1 o i)) n)) g) a) : ∀ (m : Nat) (i : Nat), i + m = n → sp_Ev X a 50 4 [.ref 18, .ref s, .int (nI (sp_st (fun i => sp_cb (g.1 19 i) (g.1 20 i) (g.1 o i)) i)), .int (nI i)] [] g := by
  intro m
  induction m with
  | zero =>
    intro i h0_
    refine sr_iload_n hA si_50_4 rfl ?_
    refine sr_aload_n hA si_50_5 rfl ?_
    refine sr_getIv (v := nI n) hA si_50_6 sf_50_21 (by decide) (by decide) rfl (by decide) hn ?_
    refine sr_icmp_geN (tgt := 33) hA si_50_9 (by decide) (by omega) (by omega) (fun c1 => ?_) (fun c1 => absurd c1 (by omega))
    refine sr_iload_n hA si_50_33 rfl ?_
    exact sr_iretF hA si_50_34 sq_r_50 (by rw [show i = n by omega]) rfl
  | succ m ih =>
    intro i h0_
    obtain ⟨k, hkb, hk⟩ := hK i (by omega)
    refine sr_iload_n hA si_50_4 rfl ?_
    refine sr_aload_n hA si_50_5 rfl ?_
    refine sr_getIv (v := nI n) hA si_50_6 sf_50_21 (by decide) (by decide) rfl (by decide) hn ?_
    refine sr_icmp_geN (tgt := 33) hA si_50_9 (by decide) (by omega) (by omega) (fun c1 => absurd c1 (by omega)) (fun c1 => ?_)
    refine sr_aload_n hA si_50_12 rfl ?_
    refine sr_iload_n hA si_50_13 rfl ?_
    refine sr_aload_n hA si_50_14 rfl ?_
    by_cases hcb : sp_cb (g.1 19 i) (g.1 20 i) (g.1 o i) = true
    · refine sr_VFi (c := 18) (ci := 0) (as := [.int (nI i), .ref s]) (st := []) hA si_50_15 sv_45 sk_50_53 (xc_bears1 X g hs (i := i) (by omega) hk hkb hcb) (by omega) rfl (by decide) (by decide) rfl sq_c_45 rfl (Nat.le_of_ble_eq_true rfl) ?_
      refine sr_if_eqN (tgt := 27) hA si_50_18 (by decide) (by omega) (fun c2 => absurd c2 (by omega)) (fun c2 => ?_)
      refine sr_iload_n hA si_50_21 rfl ?_
      refine sr_iconst (v := nI 1) hA si_50_22 (by decide) ?_
      refine sr_iload_n hA si_50_23 rfl ?_
      refine sr_ishl hA si_50_24 ?_
      refine sr_ior hA si_50_25 ?_
      refine sr_istore_n (ls1 := [.ref 18, .ref s, .int ((nI (sp_st (fun i => sp_cb (g.1 19 i) (g.1 20 i) (g.1 o i)) i)) ||| ((nI 1) <<< ((nI i) &&& 31))), .int (nI i)]) hA si_50_26 rfl (by rw [sq_l_50]; decide) rfl ?_
      refine sr_iincN (x := i) (y := 1) (ls1 := [.ref 18, .ref s, .int ((nI (sp_st (fun i => sp_cb (g.1 19 i) (g.1 20 i) (g.1 o i)) i)) ||| ((nI 1) <<< ((nI i) &&& 31))), .int (nI (i + 1))]) hA si_50_27 rfl rfl (by rw [sq_l_50]; decide) rfl ?_
      refine sr_goto (tgt := 4) hA si_50_30 (by decide) ?_
      rw [sp_orb i (by omega) _ (sp_st_lt _ i)]
      have e : sp_st (fun i => sp_cb (g.1 19 i) (g.1 20 i) (g.1 o i)) i + 2 ^ i = sp_st (fun i => sp_cb (g.1 19 i) (g.1 20 i) (g.1 o i)) (i + 1) := by
        show _ = sp_st _ i + _
        rw [if_pos (by simpa using hcb)]
      rw [e]
      exact ih (i + 1) (by omega)
    · refine sr_VFi (c := 18) (ci := 0) (as := [.int (nI i), .ref s]) (st := []) hA si_50_15 sv_45 sk_50_53 (xc_bears0 X g hs (i := i) (by omega) hk hkb hcb) (by omega) rfl (by decide) (by decide) rfl sq_c_45 rfl (Nat.le_of_ble_eq_true rfl) ?_
      refine sr_if_eqN (tgt := 27) hA si_50_18 (by decide) (by omega) (fun c3 => ?_) (fun c3 => absurd c3 (by omega))
      refine sr_iincN (x := i) (y := 1) (ls1 := [.ref 18, .ref s, .int (nI (sp_st (fun i => sp_cb (g.1 19 i) (g.1 20 i) (g.1 o i)) i)), .int (nI (i + 1))]) hA si_50_27 rfl rfl (by rw [sq_l_50]; decide) rfl ?_
      refine sr_goto (tgt := 4) hA si_50_30 (by decide) ?_
      have e : sp_st (fun i => sp_cb (g.1 19 i) (g.1 20 i) (g.1 o i)) i = sp_st (fun i => sp_cb (g.1 19 i) (g.1 20 i) (g.1 o i)) (i + 1) := by
        show _ = sp_st _ i + _
        rw [if_neg (by simpa using hcb)]
        rfl
      rw [e]
      exact ih (i + 1) (by omega)
set_option maxRecDepth 20000 in
theorem xc_playable (X : sp_X) (g : sp_G) {s o n : Nat} (hs : sp_sd s o) (hn : g.1 18 3 = nI n) (hb : n ≤ 6) (hK : sp_kk g 19 n) : sp_Ct X 2 50 [.ref 18, .ref s] g (sp_Fi (nI (sp_st (fun i => sp_cb (g.1 19 i) (g.1 20 i) (g.1 o i)) n)) g) := by
  refine sp_walkN (n := 4) sq_p_50 sq_l_50 (Nat.le_of_ble_eq_true rfl) (fun a hA => ?_)
  show sp_Ev X a 50 0 [.ref 18, .ref s, .null, .null] [] g
  refine sr_iconst (v := nI 0) hA si_50_0 (by decide) ?_
  refine sr_istore_n (ls1 := [.ref 18, .ref s, .int (nI 0), .null]) hA si_50_1 rfl (by rw [sq_l_50]; decide) rfl ?_
  refine sr_iconst (v := nI 0) hA si_50_2 (by decide) ?_
  refine sr_istore_n (ls1 := [.ref 18, .ref s, .int (nI 0), .int (nI 0)]) hA si_50_3 rfl (by rw [sq_l_50]; decide) rfl ?_
  exact xl_playable hs hn hb hK hA n 0 (by omega)
def sp_pc (s : Nat) : Nat := s % 2 + s / 2 % 2 + s / 4 % 2 + s / 8 % 2 + s / 16 % 2 + s / 32 % 2
theorem sp_lbE : ∀ s, s < 64 → nI s &&& (nI s - nI 1) = nI (s &&& (s - 1)) := by decide +kernel
theorem sp_lbL : ∀ s, s < 64 → 0 < s → (s &&& (s - 1)) < s ∧ sp_pc (s &&& (s - 1)) + 1 = sp_pc s := by decide +kernel
theorem sp_pc6 : ∀ s, s < 64 → sp_pc s ≤ 6 := by decide +kernel
set_option maxRecDepth 20000 in
theorem ml_bits {X : sp_X} {d : Nat} {a : sp_Ac} {g : sp_G} {p t : Nat} (hA : sp_Act X 171 d (sp_Fi (nI p) g) a) : ∀ (m : Nat) (x : Nat) (y : Nat), x ≤ m → x < 64 → y + sp_pc x = p → p ≤ 6 → sp_Ev X a 171 4 [.int (nI t), .int (nI y), .int (nI x)] [] g := by
  intro m
  induction m with
  | zero =>
    intro x y h0_ h1_ h2_ h3_
    refine sr_iload_n hA si_171_4 rfl ?_
    refine sr_if_eqN (tgt := 20) hA si_171_5 (by decide) (by omega) (fun c1 => ?_) (fun c1 => absurd c1 (by omega))
    refine sr_iload_n hA si_171_20 rfl ?_
    exact sr_iretF hA si_171_21 sq_r_171 (by rw [← h2_, show x = 0 by omega]; rfl) rfl
  | succ m ih =>
    intro x y h0_ h1_ h2_ h3_
    have hp := sp_pc6 x h1_
    refine sr_iload_n hA si_171_4 rfl ?_
    refine sr_if_eqN (tgt := 20) hA si_171_5 (by decide) (by omega) (fun c1 => ?_) (fun c1 => ?_)
    · refine sr_iload_n hA si_171_20 rfl ?_
      exact sr_iretF hA si_171_21 sq_r_171 (by rw [← h2_, c1]; rfl) rfl
    · refine sr_iincN (x := y) (y := 1) (ls1 := [.int (nI t), .int (nI (y + 1)), .int (nI x)]) hA si_171_8 rfl rfl (by rw [sq_l_171]; decide) rfl ?_
      refine sr_iload_n hA si_171_11 rfl ?_
      refine sr_iload_n hA si_171_12 rfl ?_
      refine sr_iconst (v := nI 1) hA si_171_13 (by decide) ?_
      refine sr_isub hA si_171_14 ?_
      refine sr_iand hA si_171_15 ?_
      refine sr_istore_n (ls1 := [.int (nI t), .int (nI (y + 1)), .int ((nI x) &&& ((nI x) - (nI 1)))]) hA si_171_16 rfl (by rw [sq_l_171]; decide) rfl ?_
      refine sr_goto (tgt := 4) hA si_171_17 (by decide) ?_
      have hx := sp_lbL x h1_ c1
      rw [sp_lbE x h1_]
      exact ih (x &&& (x - 1)) (y + 1) (by omega) (by omega) (by omega) h3_
set_option maxRecDepth 20000 in
theorem mc_bits (X : sp_X) (g : sp_G) {t : Nat} (ht : t < 64) : sp_Ct X 0 171 [.int (nI t)] g (sp_Fi (nI (sp_pc t)) g) := by
  refine sp_walkN (n := 3) sq_p_171 sq_l_171 (Nat.le_of_ble_eq_true rfl) (fun a hA => ?_)
  show sp_Ev X a 171 0 [.int (nI t), .null, .null] [] g
  refine sr_iconst (v := nI 0) hA si_171_0 (by decide) ?_
  refine sr_istore_n (ls1 := [.int (nI t), .int (nI 0), .null]) hA si_171_1 rfl (by rw [sq_l_171]; decide) rfl ?_
  refine sr_iload_n hA si_171_2 rfl ?_
  refine sr_istore_n (ls1 := [.int (nI t), .int (nI 0), .int (nI t)]) hA si_171_3 rfl (by rw [sq_l_171]; decide) rfl ?_
  exact ml_bits hA t t 0 (Nat.le_refl _) ht (by omega) (sp_pc6 t ht)
set_option maxRecDepth 20000 in
theorem xc_bitCount (X : sp_X) (g : sp_G) {t : Nat} (ht : t < 64) : sp_Ct X 0 51 [.int (nI t)] g (sp_Fi (nI (sp_pc t)) g) := by
  refine sp_walkN (n := 1) sq_p_51 sq_l_51 (Nat.le_of_ble_eq_true rfl) (fun a hA => ?_)
  show sp_Ev X a 51 0 [.int (nI t)] [] g
  refine sr_iload_n hA si_51_0 rfl ?_
  refine sr_iload_n hA si_51_1 rfl ?_
  refine sr_iconst (v := nI 1) hA si_51_2 (by decide) ?_
  refine sr_iushr hA si_51_3 ?_
  refine sr_ldcw hA si_51_4 sc_51_265 ?_
  refine sr_iand hA si_51_7 ?_
  refine sr_isub hA si_51_8 ?_
  refine sr_istore_n (ls1 := [.int ((nI t) - ((((nI t).toUInt32 >>> ((nI 1).toUInt32 &&& Int32.toUInt32 31)).toInt32) &&& 1431655765))]) hA si_51_9 rfl (by rw [sq_l_51]; decide) rfl ?_
  refine sr_iload_n hA si_51_10 rfl ?_
  refine sr_ldcw hA si_51_11 sc_51_266 ?_
  refine sr_iand hA si_51_14 ?_
  refine sr_iload_n hA si_51_15 rfl ?_
  refine sr_iconst (v := nI 2) hA si_51_16 (by decide) ?_
  refine sr_iushr hA si_51_17 ?_
  refine sr_ldcw hA si_51_18 sc_51_266 ?_
  refine sr_iand hA si_51_21 ?_
  refine sr_iadd hA si_51_22 ?_
  refine sr_istore_n (ls1 := [.int ((((nI t) - ((((nI t).toUInt32 >>> ((nI 1).toUInt32 &&& Int32.toUInt32 31)).toInt32) &&& 1431655765)) &&& 858993459) + (((((nI t) - ((((nI t).toUInt32 >>> ((nI 1).toUInt32 &&& Int32.toUInt32 31)).toInt32) &&& 1431655765)).toUInt32 >>> ((nI 2).toUInt32 &&& Int32.toUInt32 31)).toInt32) &&& 858993459))]) hA si_51_23 rfl (by rw [sq_l_51]; decide) rfl ?_
  refine sr_iload_n hA si_51_24 rfl ?_
  refine sr_iload_n hA si_51_25 rfl ?_
  refine sr_iconst (v := nI 4) hA si_51_26 (by decide) ?_
  refine sr_iushr hA si_51_27 ?_
  refine sr_iadd hA si_51_28 ?_
  refine sr_ldcw hA si_51_29 sc_51_267 ?_
  refine sr_iand hA si_51_32 ?_
  refine sr_istore_n (ls1 := [.int ((((((nI t) - ((((nI t).toUInt32 >>> ((nI 1).toUInt32 &&& Int32.toUInt32 31)).toInt32) &&& 1431655765)) &&& 858993459) + (((((nI t) - ((((nI t).toUInt32 >>> ((nI 1).toUInt32 &&& Int32.toUInt32 31)).toInt32) &&& 1431655765)).toUInt32 >>> ((nI 2).toUInt32 &&& Int32.toUInt32 31)).toInt32) &&& 858993459)) + ((((((nI t) - ((((nI t).toUInt32 >>> ((nI 1).toUInt32 &&& Int32.toUInt32 31)).toInt32) &&& 1431655765)) &&& 858993459) + (((((nI t) - ((((nI t).toUInt32 >>> ((nI 1).toUInt32 &&& Int32.toUInt32 31)).toInt32) &&& 1431655765)).toUInt32 >>> ((nI 2).toUInt32 &&& Int32.toUInt32 31)).toInt32) &&& 858993459)).toUInt32 >>> ((nI 4).toUInt32 &&& Int32.toUInt32 31)).toInt32)) &&& 252645135)]) hA si_51_33 rfl (by rw [sq_l_51]; decide) rfl ?_
  refine sr_iload_n hA si_51_34 rfl ?_
  refine sr_iload_n hA si_51_35 rfl ?_
  refine sr_bipush (v := nI 8) hA si_51_36 (by decide) ?_
  refine sr_iushr hA si_51_38 ?_
  refine sr_iadd hA si_51_39 ?_
  refine sr_istore_n (ls1 := [.int (((((((nI t) - ((((nI t).toUInt32 >>> ((nI 1).toUInt32 &&& Int32.toUInt32 31)).toInt32) &&& 1431655765)) &&& 858993459) + (((((nI t) - ((((nI t).toUInt32 >>> ((nI 1).toUInt32 &&& Int32.toUInt32 31)).toInt32) &&& 1431655765)).toUInt32 >>> ((nI 2).toUInt32 &&& Int32.toUInt32 31)).toInt32) &&& 858993459)) + ((((((nI t) - ((((nI t).toUInt32 >>> ((nI 1).toUInt32 &&& Int32.toUInt32 31)).toInt32) &&& 1431655765)) &&& 858993459) + (((((nI t) - ((((nI t).toUInt32 >>> ((nI 1).toUInt32 &&& Int32.toUInt32 31)).toInt32) &&& 1431655765)).toUInt32 >>> ((nI 2).toUInt32 &&& Int32.toUInt32 31)).toInt32) &&& 858993459)).toUInt32 >>> ((nI 4).toUInt32 &&& Int32.toUInt32 31)).toInt32)) &&& 252645135) + ((((((((nI t) - ((((nI t).toUInt32 >>> ((nI 1).toUInt32 &&& Int32.toUInt32 31)).toInt32) &&& 1431655765)) &&& 858993459) + (((((nI t) - ((((nI t).toUInt32 >>> ((nI 1).toUInt32 &&& Int32.toUInt32 31)).toInt32) &&& 1431655765)).toUInt32 >>> ((nI 2).toUInt32 &&& Int32.toUInt32 31)).toInt32) &&& 858993459)) + ((((((nI t) - ((((nI t).toUInt32 >>> ((nI 1).toUInt32 &&& Int32.toUInt32 31)).toInt32) &&& 1431655765)) &&& 858993459) + (((((nI t) - ((((nI t).toUInt32 >>> ((nI 1).toUInt32 &&& Int32.toUInt32 31)).toInt32) &&& 1431655765)).toUInt32 >>> ((nI 2).toUInt32 &&& Int32.toUInt32 31)).toInt32) &&& 858993459)).toUInt32 >>> ((nI 4).toUInt32 &&& Int32.toUInt32 31)).toInt32)) &&& 252645135).toUInt32 >>> ((nI 8).toUInt32 &&& Int32.toUInt32 31)).toInt32))]) hA si_51_40 rfl (by rw [sq_l_51]; decide) rfl ?_
  refine sr_iload_n hA si_51_41 rfl ?_
  refine sr_iload_n hA si_51_42 rfl ?_
  refine sr_bipush (v := nI 16) hA si_51_43 (by decide) ?_
  refine sr_iushr hA si_51_45 ?_
  refine sr_iadd hA si_51_46 ?_
  refine sr_istore_n (ls1 := [.int ((((((((nI t) - ((((nI t).toUInt32 >>> ((nI 1).toUInt32 &&& Int32.toUInt32 31)).toInt32) &&& 1431655765)) &&& 858993459) + (((((nI t) - ((((nI t).toUInt32 >>> ((nI 1).toUInt32 &&& Int32.toUInt32 31)).toInt32) &&& 1431655765)).toUInt32 >>> ((nI 2).toUInt32 &&& Int32.toUInt32 31)).toInt32) &&& 858993459)) + ((((((nI t) - ((((nI t).toUInt32 >>> ((nI 1).toUInt32 &&& Int32.toUInt32 31)).toInt32) &&& 1431655765)) &&& 858993459) + (((((nI t) - ((((nI t).toUInt32 >>> ((nI 1).toUInt32 &&& Int32.toUInt32 31)).toInt32) &&& 1431655765)).toUInt32 >>> ((nI 2).toUInt32 &&& Int32.toUInt32 31)).toInt32) &&& 858993459)).toUInt32 >>> ((nI 4).toUInt32 &&& Int32.toUInt32 31)).toInt32)) &&& 252645135) + ((((((((nI t) - ((((nI t).toUInt32 >>> ((nI 1).toUInt32 &&& Int32.toUInt32 31)).toInt32) &&& 1431655765)) &&& 858993459) + (((((nI t) - ((((nI t).toUInt32 >>> ((nI 1).toUInt32 &&& Int32.toUInt32 31)).toInt32) &&& 1431655765)).toUInt32 >>> ((nI 2).toUInt32 &&& Int32.toUInt32 31)).toInt32) &&& 858993459)) + ((((((nI t) - ((((nI t).toUInt32 >>> ((nI 1).toUInt32 &&& Int32.toUInt32 31)).toInt32) &&& 1431655765)) &&& 858993459) + (((((nI t) - ((((nI t).toUInt32 >>> ((nI 1).toUInt32 &&& Int32.toUInt32 31)).toInt32) &&& 1431655765)).toUInt32 >>> ((nI 2).toUInt32 &&& Int32.toUInt32 31)).toInt32) &&& 858993459)).toUInt32 >>> ((nI 4).toUInt32 &&& Int32.toUInt32 31)).toInt32)) &&& 252645135).toUInt32 >>> ((nI 8).toUInt32 &&& Int32.toUInt32 31)).toInt32)) + (((((((((nI t) - ((((nI t).toUInt32 >>> ((nI 1).toUInt32 &&& Int32.toUInt32 31)).toInt32) &&& 1431655765)) &&& 858993459) + (((((nI t) - ((((nI t).toUInt32 >>> ((nI 1).toUInt32 &&& Int32.toUInt32 31)).toInt32) &&& 1431655765)).toUInt32 >>> ((nI 2).toUInt32 &&& Int32.toUInt32 31)).toInt32) &&& 858993459)) + ((((((nI t) - ((((nI t).toUInt32 >>> ((nI 1).toUInt32 &&& Int32.toUInt32 31)).toInt32) &&& 1431655765)) &&& 858993459) + (((((nI t) - ((((nI t).toUInt32 >>> ((nI 1).toUInt32 &&& Int32.toUInt32 31)).toInt32) &&& 1431655765)).toUInt32 >>> ((nI 2).toUInt32 &&& Int32.toUInt32 31)).toInt32) &&& 858993459)).toUInt32 >>> ((nI 4).toUInt32 &&& Int32.toUInt32 31)).toInt32)) &&& 252645135) + ((((((((nI t) - ((((nI t).toUInt32 >>> ((nI 1).toUInt32 &&& Int32.toUInt32 31)).toInt32) &&& 1431655765)) &&& 858993459) + (((((nI t) - ((((nI t).toUInt32 >>> ((nI 1).toUInt32 &&& Int32.toUInt32 31)).toInt32) &&& 1431655765)).toUInt32 >>> ((nI 2).toUInt32 &&& Int32.toUInt32 31)).toInt32) &&& 858993459)) + ((((((nI t) - ((((nI t).toUInt32 >>> ((nI 1).toUInt32 &&& Int32.toUInt32 31)).toInt32) &&& 1431655765)) &&& 858993459) + (((((nI t) - ((((nI t).toUInt32 >>> ((nI 1).toUInt32 &&& Int32.toUInt32 31)).toInt32) &&& 1431655765)).toUInt32 >>> ((nI 2).toUInt32 &&& Int32.toUInt32 31)).toInt32) &&& 858993459)).toUInt32 >>> ((nI 4).toUInt32 &&& Int32.toUInt32 31)).toInt32)) &&& 252645135).toUInt32 >>> ((nI 8).toUInt32 &&& Int32.toUInt32 31)).toInt32)).toUInt32 >>> ((nI 16).toUInt32 &&& Int32.toUInt32 31)).toInt32))]) hA si_51_47 rfl (by rw [sq_l_51]; decide) rfl ?_
  refine sr_iload_n hA si_51_48 rfl ?_
  refine sr_bipush (v := nI 63) hA si_51_49 (by decide) ?_
  refine sr_iand hA si_51_51 ?_
  exact sr_iretF hA si_51_52 sq_r_51 (by
      have h : ∀ t, t < 64 → (((((((((nI t) - ((((nI t).toUInt32 >>> ((nI 1).toUInt32 &&& Int32.toUInt32 31)).toInt32) &&& 1431655765)) &&& 858993459) + (((((nI t) - ((((nI t).toUInt32 >>> ((nI 1).toUInt32 &&& Int32.toUInt32 31)).toInt32) &&& 1431655765)).toUInt32 >>> ((nI 2).toUInt32 &&& Int32.toUInt32 31)).toInt32) &&& 858993459)) + ((((((nI t) - ((((nI t).toUInt32 >>> ((nI 1).toUInt32 &&& Int32.toUInt32 31)).toInt32) &&& 1431655765)) &&& 858993459) + (((((nI t) - ((((nI t).toUInt32 >>> ((nI 1).toUInt32 &&& Int32.toUInt32 31)).toInt32) &&& 1431655765)).toUInt32 >>> ((nI 2).toUInt32 &&& Int32.toUInt32 31)).toInt32) &&& 858993459)).toUInt32 >>> ((nI 4).toUInt32 &&& Int32.toUInt32 31)).toInt32)) &&& 252645135) + ((((((((nI t) - ((((nI t).toUInt32 >>> ((nI 1).toUInt32 &&& Int32.toUInt32 31)).toInt32) &&& 1431655765)) &&& 858993459) + (((((nI t) - ((((nI t).toUInt32 >>> ((nI 1).toUInt32 &&& Int32.toUInt32 31)).toInt32) &&& 1431655765)).toUInt32 >>> ((nI 2).toUInt32 &&& Int32.toUInt32 31)).toInt32) &&& 858993459)) + ((((((nI t) - ((((nI t).toUInt32 >>> ((nI 1).toUInt32 &&& Int32.toUInt32 31)).toInt32) &&& 1431655765)) &&& 858993459) + (((((nI t) - ((((nI t).toUInt32 >>> ((nI 1).toUInt32 &&& Int32.toUInt32 31)).toInt32) &&& 1431655765)).toUInt32 >>> ((nI 2).toUInt32 &&& Int32.toUInt32 31)).toInt32) &&& 858993459)).toUInt32 >>> ((nI 4).toUInt32 &&& Int32.toUInt32 31)).toInt32)) &&& 252645135).toUInt32 >>> ((nI 8).toUInt32 &&& Int32.toUInt32 31)).toInt32)) + (((((((((nI t) - ((((nI t).toUInt32 >>> ((nI 1).toUInt32 &&& Int32.toUInt32 31)).toInt32) &&& 1431655765)) &&& 858993459) + (((((nI t) - ((((nI t).toUInt32 >>> ((nI 1).toUInt32 &&& Int32.toUInt32 31)).toInt32) &&& 1431655765)).toUInt32 >>> ((nI 2).toUInt32 &&& Int32.toUInt32 31)).toInt32) &&& 858993459)) + ((((((nI t) - ((((nI t).toUInt32 >>> ((nI 1).toUInt32 &&& Int32.toUInt32 31)).toInt32) &&& 1431655765)) &&& 858993459) + (((((nI t) - ((((nI t).toUInt32 >>> ((nI 1).toUInt32 &&& Int32.toUInt32 31)).toInt32) &&& 1431655765)).toUInt32 >>> ((nI 2).toUInt32 &&& Int32.toUInt32 31)).toInt32) &&& 858993459)).toUInt32 >>> ((nI 4).toUInt32 &&& Int32.toUInt32 31)).toInt32)) &&& 252645135) + ((((((((nI t) - ((((nI t).toUInt32 >>> ((nI 1).toUInt32 &&& Int32.toUInt32 31)).toInt32) &&& 1431655765)) &&& 858993459) + (((((nI t) - ((((nI t).toUInt32 >>> ((nI 1).toUInt32 &&& Int32.toUInt32 31)).toInt32) &&& 1431655765)).toUInt32 >>> ((nI 2).toUInt32 &&& Int32.toUInt32 31)).toInt32) &&& 858993459)) + ((((((nI t) - ((((nI t).toUInt32 >>> ((nI 1).toUInt32 &&& Int32.toUInt32 31)).toInt32) &&& 1431655765)) &&& 858993459) + (((((nI t) - ((((nI t).toUInt32 >>> ((nI 1).toUInt32 &&& Int32.toUInt32 31)).toInt32) &&& 1431655765)).toUInt32 >>> ((nI 2).toUInt32 &&& Int32.toUInt32 31)).toInt32) &&& 858993459)).toUInt32 >>> ((nI 4).toUInt32 &&& Int32.toUInt32 31)).toInt32)) &&& 252645135).toUInt32 >>> ((nI 8).toUInt32 &&& Int32.toUInt32 31)).toInt32)).toUInt32 >>> ((nI 16).toUInt32 &&& Int32.toUInt32 31)).toInt32)) &&& (nI 63) : Int32) = nI (sp_pc t) := by decide +kernel
      exact h t ht) rfl
theorem sp_hasE : ∀ s, s < 64 → ∀ k, k < 6 → nI s >>> (nI k &&& 31) &&& nI 1 = nI (s / 2 ^ k % 2) := by decide +kernel
set_option maxRecDepth 20000 in
theorem mc_has1 (X : sp_X) (g : sp_G) {t k : Nat} (ht : t < 64) (hk : k < 6) (h : t / 2 ^ k % 2 = 1) : sp_Ct X 0 203 [.int (nI t), .int (nI k)] g (sp_Fi (nI 1) g) := by
  refine sp_walkN (n := 2) sq_p_203 sq_l_203 (Nat.le_of_ble_eq_true rfl) (fun a hA => ?_)
  show sp_Ev X a 203 0 [.int (nI t), .int (nI k)] [] g
  refine sr_iload_n hA si_203_0 rfl ?_
  refine sr_iload_n hA si_203_1 rfl ?_
  refine sr_ishr hA si_203_2 ?_
  refine sr_iconst (v := nI 1) hA si_203_3 (by decide) ?_
  refine sr_iand hA si_203_4 ?_
  refine sr_iconst (v := nI 1) hA si_203_5 (by decide) ?_
  refine sr_icmp_ne (tgt := 13) hA si_203_6 (by decide) (fun c1 => absurd (show _ = nI 1 by rw [sp_hasE t ht k hk, h]) c1) (fun c1 => ?_)
  refine sr_iconst (v := nI 1) hA si_203_9 (by decide) ?_
  refine sr_goto (tgt := 14) hA si_203_10 (by decide) ?_
  exact sr_zretF hA si_203_14 sq_r_203 (by decide) rfl rfl
set_option maxRecDepth 20000 in
theorem mc_has0 (X : sp_X) (g : sp_G) {t k : Nat} (ht : t < 64) (hk : k < 6) (h : t / 2 ^ k % 2 = 0) : sp_Ct X 0 203 [.int (nI t), .int (nI k)] g (sp_Fi (nI 0) g) := by
  refine sp_walkN (n := 2) sq_p_203 sq_l_203 (Nat.le_of_ble_eq_true rfl) (fun a hA => ?_)
  show sp_Ev X a 203 0 [.int (nI t), .int (nI k)] [] g
  refine sr_iload_n hA si_203_0 rfl ?_
  refine sr_iload_n hA si_203_1 rfl ?_
  refine sr_ishr hA si_203_2 ?_
  refine sr_iconst (v := nI 1) hA si_203_3 (by decide) ?_
  refine sr_iand hA si_203_4 ?_
  refine sr_iconst (v := nI 1) hA si_203_5 (by decide) ?_
  refine sr_icmp_ne (tgt := 13) hA si_203_6 (by decide) (fun c1 => ?_) (fun c1 => absurd c1 (show ¬ _ = nI 1 by rw [sp_hasE t ht k hk, h]; decide))
  refine sr_iconst (v := nI 0) hA si_203_13 (by decide) ?_
  exact sr_zretF hA si_203_14 sq_r_203 (by decide) rfl rfl
