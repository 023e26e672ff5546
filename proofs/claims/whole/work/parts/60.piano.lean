set_option maxRecDepth 20000 in
theorem xc_fault_a (X : sp_X) (g : sp_G) {t : Int32} (ht : t < 0) : sp_Ct X 9 29 [.ref 0, .int t] g (sp_Fi (-1) g) := by
  refine sp_walkN (n := 2) sq_p_29 sq_l_29 (Nat.le_of_ble_eq_true rfl) (fun a hA => ?_)
  show sp_Ev X a 29 0 [.ref 0, .int t] [] g
  refine sr_aload_n hA si_29_0 rfl ?_
  refine sr_getR (r := 10) hA si_29_1 sf_29_18 (by decide) (by decide) rfl rfl rfl ?_
  refine sr_iload_n hA si_29_4 rfl ?_
  refine sr_VFi (c := 10) (ci := 5) (as := [.int t]) (st := []) hA si_29_5 sv_11 sk_29_72 (xc_numTM X g ht) (by omega) rfl (by decide) (by decide) rfl sq_c_11 rfl (Nat.le_of_ble_eq_true rfl) ?_
  refine sr_if_neN (tgt := 13) hA si_29_8 (by decide) (by omega) (fun c1 => absurd c1 (by omega)) (fun c1 => ?_)
  refine sr_iconst (v := (-1)) hA si_29_11 (by decide) ?_
  exact sr_iretF hA si_29_12 sq_r_29 rfl rfl
set_option maxRecDepth 20000 in
theorem xc_fault_b (X : sp_X) (g : sp_G) {t : Nat} (ht : 4 ≤ t) (htb : t < 2 ^ 31) : sp_Ct X 9 29 [.ref 0, .int (nI t)] g (sp_Fi (-1) g) := by
  refine sp_walkN (n := 2) sq_p_29 sq_l_29 (Nat.le_of_ble_eq_true rfl) (fun a hA => ?_)
  show sp_Ev X a 29 0 [.ref 0, .int (nI t)] [] g
  refine sr_aload_n hA si_29_0 rfl ?_
  refine sr_getR (r := 10) hA si_29_1 sf_29_18 (by decide) (by decide) rfl rfl rfl ?_
  refine sr_iload_n hA si_29_4 rfl ?_
  refine sr_VFi (c := 10) (ci := 5) (as := [.int (nI t)]) (st := []) hA si_29_5 sv_11 sk_29_72 (xc_numTH X g (by omega) (by omega)) (by omega) rfl (by decide) (by decide) rfl sq_c_11 rfl (Nat.le_of_ble_eq_true rfl) ?_
  refine sr_if_neN (tgt := 13) hA si_29_8 (by decide) (by omega) (fun c1 => absurd c1 (by omega)) (fun c1 => ?_)
  refine sr_iconst (v := (-1)) hA si_29_11 (by decide) ?_
  exact sr_iretF hA si_29_12 sq_r_29 rfl rfl
set_option maxRecDepth 20000 in
theorem xc_fault_c (X : sp_X) (g : sp_G) {t : Nat} (ht : t < 4) (hz : g.1 16 t = -1) : sp_Ct X 9 29 [.ref 0, .int (nI t)] g (sp_Fi (-3) (sp_rx g 1)) := by
  refine sp_walkN (n := 2) sq_p_29 sq_l_29 (Nat.le_of_ble_eq_true rfl) (fun a hA => ?_)
  show sp_Ev X a 29 0 [.ref 0, .int (nI t)] [] g
  refine sr_aload_n hA si_29_0 rfl ?_
  refine sr_getR (r := 10) hA si_29_1 sf_29_18 (by decide) (by decide) rfl rfl rfl ?_
  refine sr_iload_n hA si_29_4 rfl ?_
  refine sr_VFi (c := 10) (ci := 5) (as := [.int (nI t)]) (st := []) hA si_29_5 sv_11 sk_29_72 (xc_numT1 X g (by omega)) (by omega) rfl (by decide) (by decide) rfl sq_c_11 rfl (Nat.le_of_ble_eq_true rfl) ?_
  refine sr_if_neN (tgt := 13) hA si_29_8 (by decide) (by omega) (fun c1 => ?_) (fun c1 => absurd c1 (by omega))
  refine sr_aload_n hA si_29_13 rfl ?_
  refine sr_getR (r := 10) hA si_29_14 sf_29_18 (by decide) (by decide) rfl rfl rfl ?_
  refine sr_iload_n hA si_29_17 rfl ?_
  refine sr_VFi (c := 10) (ci := 5) (as := [.int (nI t)]) (st := []) hA si_29_18 sv_16 sk_29_99 (xc_thereT0 X g (by omega) hz) (by omega) rfl (by decide) (by decide) rfl sq_c_16 rfl (Nat.le_of_ble_eq_true rfl) ?_
  refine sr_if_neN (tgt := 30) hA si_29_21 (by decide) (by omega) (fun c2 => absurd c2 (by omega)) (fun c2 => ?_)
  refine sr_aload_n hA si_29_24 rfl ?_
  refine sr_iconst (v := nI 1) hA si_29_25 (by decide) ?_
  refine sr_VFi (c := 0) (ci := 7) (as := [.int (nI 1)]) (st := []) hA si_29_26 sv_12 sk_29_76 (xc_refuse X g (by omega)) (by omega) rfl (by decide) (by decide) rfl sq_c_12 rfl (Nat.le_of_ble_eq_true rfl) ?_
  exact sr_iretF hA si_29_29 sq_r_29 rfl rfl
set_option maxRecDepth 20000 in
theorem xc_piano_a (X : sp_X) (g : sp_G) {t : Int32} (ht : t < 0) : sp_Ct X 9 37 [.ref 0, .int t] g (sp_Fi (-1) g) := by
  refine sp_walkN (n := 3) sq_p_37 sq_l_37 (Nat.le_of_ble_eq_true rfl) (fun a hA => ?_)
  show sp_Ev X a 37 0 [.ref 0, .int t, .null] [] g
  refine sr_aload_n hA si_37_0 rfl ?_
  refine sr_getR (r := 10) hA si_37_1 sf_37_18 (by decide) (by decide) rfl rfl rfl ?_
  refine sr_iload_n hA si_37_4 rfl ?_
  refine sr_VFi (c := 10) (ci := 5) (as := [.int t]) (st := []) hA si_37_5 sv_11 sk_37_72 (xc_numTM X g ht) (by omega) rfl (by decide) (by decide) rfl sq_c_11 rfl (Nat.le_of_ble_eq_true rfl) ?_
  refine sr_if_neN (tgt := 13) hA si_37_8 (by decide) (by omega) (fun c1 => absurd c1 (by omega)) (fun c1 => ?_)
  refine sr_iconst (v := (-1)) hA si_37_11 (by decide) ?_
  exact sr_iretF hA si_37_12 sq_r_37 rfl rfl
set_option maxRecDepth 20000 in
theorem xc_piano_b (X : sp_X) (g : sp_G) {t : Nat} (ht : 4 ≤ t) (htb : t < 2 ^ 31) : sp_Ct X 9 37 [.ref 0, .int (nI t)] g (sp_Fi (-1) g) := by
  refine sp_walkN (n := 3) sq_p_37 sq_l_37 (Nat.le_of_ble_eq_true rfl) (fun a hA => ?_)
  show sp_Ev X a 37 0 [.ref 0, .int (nI t), .null] [] g
  refine sr_aload_n hA si_37_0 rfl ?_
  refine sr_getR (r := 10) hA si_37_1 sf_37_18 (by decide) (by decide) rfl rfl rfl ?_
  refine sr_iload_n hA si_37_4 rfl ?_
  refine sr_VFi (c := 10) (ci := 5) (as := [.int (nI t)]) (st := []) hA si_37_5 sv_11 sk_37_72 (xc_numTH X g (by omega) (by omega)) (by omega) rfl (by decide) (by decide) rfl sq_c_11 rfl (Nat.le_of_ble_eq_true rfl) ?_
  refine sr_if_neN (tgt := 13) hA si_37_8 (by decide) (by omega) (fun c1 => absurd c1 (by omega)) (fun c1 => ?_)
  refine sr_iconst (v := (-1)) hA si_37_11 (by decide) ?_
  exact sr_iretF hA si_37_12 sq_r_37 rfl rfl
set_option maxRecDepth 20000 in
theorem xc_piano_c (X : sp_X) (g : sp_G) {t : Nat} (ht : t < 4) (hz : g.1 16 t = -1) : sp_Ct X 9 37 [.ref 0, .int (nI t)] g (sp_Fi (-3) (sp_rx g 1)) := by
  refine sp_walkN (n := 3) sq_p_37 sq_l_37 (Nat.le_of_ble_eq_true rfl) (fun a hA => ?_)
  show sp_Ev X a 37 0 [.ref 0, .int (nI t), .null] [] g
  refine sr_aload_n hA si_37_0 rfl ?_
  refine sr_getR (r := 10) hA si_37_1 sf_37_18 (by decide) (by decide) rfl rfl rfl ?_
  refine sr_iload_n hA si_37_4 rfl ?_
  refine sr_VFi (c := 10) (ci := 5) (as := [.int (nI t)]) (st := []) hA si_37_5 sv_11 sk_37_72 (xc_numT1 X g (by omega)) (by omega) rfl (by decide) (by decide) rfl sq_c_11 rfl (Nat.le_of_ble_eq_true rfl) ?_
  refine sr_if_neN (tgt := 13) hA si_37_8 (by decide) (by omega) (fun c1 => ?_) (fun c1 => absurd c1 (by omega))
  refine sr_aload_n hA si_37_13 rfl ?_
  refine sr_getR (r := 10) hA si_37_14 sf_37_18 (by decide) (by decide) rfl rfl rfl ?_
  refine sr_iload_n hA si_37_17 rfl ?_
  refine sr_VFi (c := 10) (ci := 5) (as := [.int (nI t)]) (st := []) hA si_37_18 sv_16 sk_37_99 (xc_thereT0 X g (by omega) hz) (by omega) rfl (by decide) (by decide) rfl sq_c_16 rfl (Nat.le_of_ble_eq_true rfl) ?_
  refine sr_if_neN (tgt := 30) hA si_37_21 (by decide) (by omega) (fun c2 => absurd c2 (by omega)) (fun c2 => ?_)
  refine sr_aload_n hA si_37_24 rfl ?_
  refine sr_iconst (v := nI 1) hA si_37_25 (by decide) ?_
  refine sr_VFi (c := 0) (ci := 7) (as := [.int (nI 1)]) (st := []) hA si_37_26 sv_12 sk_37_76 (xc_refuse X g (by omega)) (by omega) rfl (by decide) (by decide) rfl sq_c_12 rfl (Nat.le_of_ble_eq_true rfl) ?_
  exact sr_iretF hA si_37_29 sq_r_37 rfl rfl
set_option maxRecDepth 20000 in
theorem mc_fault_a (X : sp_X) (g : sp_G) {t : Int32} (ht : t < 0) : sp_Ct X 9 152 [.ref 64, .int t] g (sp_Fi (-1) g) := by
  refine sp_walkN (n := 2) sq_p_152 sq_l_152 (Nat.le_of_ble_eq_true rfl) (fun a hA => ?_)
  show sp_Ev X a 152 0 [.ref 64, .int t] [] g
  refine sr_iload_n hA si_152_0 rfl ?_
  refine sr_SFi (as := [.int t]) (st := []) hA si_152_1 ss_150 sk_152_108 (mc_isTextM X g ht) (by omega) rfl rfl (Nat.le_of_ble_eq_true rfl) ?_
  refine sr_if_neN (tgt := 9) hA si_152_4 (by decide) (by omega) (fun c1 => absurd c1 (by omega)) (fun c1 => ?_)
  refine sr_iconst (v := (-1)) hA si_152_7 (by decide) ?_
  exact sr_iretF hA si_152_8 sq_r_152 rfl rfl
set_option maxRecDepth 20000 in
theorem mc_fault_b (X : sp_X) (g : sp_G) {t : Nat} (ht : 4 ≤ t) (htb : t < 2 ^ 31) : sp_Ct X 9 152 [.ref 64, .int (nI t)] g (sp_Fi (-1) g) := by
  refine sp_walkN (n := 2) sq_p_152 sq_l_152 (Nat.le_of_ble_eq_true rfl) (fun a hA => ?_)
  show sp_Ev X a 152 0 [.ref 64, .int (nI t)] [] g
  refine sr_iload_n hA si_152_0 rfl ?_
  refine sr_SFi (as := [.int (nI t)]) (st := []) hA si_152_1 ss_150 sk_152_108 (mc_isTextH X g (by omega) (by omega)) (by omega) rfl rfl (Nat.le_of_ble_eq_true rfl) ?_
  refine sr_if_neN (tgt := 9) hA si_152_4 (by decide) (by omega) (fun c1 => absurd c1 (by omega)) (fun c1 => ?_)
  refine sr_iconst (v := (-1)) hA si_152_7 (by decide) ?_
  exact sr_iretF hA si_152_8 sq_r_152 rfl rfl
set_option maxRecDepth 20000 in
theorem mc_fault_c (X : sp_X) (g : sp_G) {t : Nat} (ht : t < 4) (hz : g.1 69 t = -1) : sp_Ct X 9 152 [.ref 64, .int (nI t)] g (sp_Fi (-3) (sp_rm6 g 1)) := by
  refine sp_walkN (n := 2) sq_p_152 sq_l_152 (Nat.le_of_ble_eq_true rfl) (fun a hA => ?_)
  show sp_Ev X a 152 0 [.ref 64, .int (nI t)] [] g
  refine sr_iload_n hA si_152_0 rfl ?_
  refine sr_SFi (as := [.int (nI t)]) (st := []) hA si_152_1 ss_150 sk_152_108 (mc_isText1 X g (by omega)) (by omega) rfl rfl (Nat.le_of_ble_eq_true rfl) ?_
  refine sr_if_neN (tgt := 9) hA si_152_4 (by decide) (by omega) (fun c1 => ?_) (fun c1 => absurd c1 (by omega))
  refine sr_aload_n hA si_152_9 rfl ?_
  refine sr_getR (r := 69) hA si_152_10 sf_152_26 (by decide) (by decide) rfl rfl rfl ?_
  refine sr_iload_n hA si_152_13 rfl ?_
  refine sr_ialdNv (v := (-1)) (n := 4) hA si_152_14 (by decide) rfl rfl (by omega) (by decide) hz ?_
  refine sr_if_ge (tgt := 26) hA si_152_15 (by decide) (fun c2 => absurd c2 (sp_m4 (by decide))) (fun c2 => ?_)
  refine sr_aload_n hA si_152_18 rfl ?_
  refine sr_iconst (v := nI 1) hA si_152_19 (by decide) ?_
  refine sr_VFi (c := 64) (ci := 8) (as := [.int (nI 1)]) (st := []) hA si_152_20 sv_141 sk_152_97 (mc_meets X g (by omega)) (by omega) rfl (by decide) (by decide) rfl sq_c_141 rfl (Nat.le_of_ble_eq_true rfl) ?_
  refine sr_goto (tgt := 31) hA si_152_23 (by decide) ?_
  exact sr_iretF hA si_152_31 sq_r_152 rfl rfl
set_option maxRecDepth 20000 in
theorem mc_piano_a (X : sp_X) (g : sp_G) {t : Int32} (ht : t < 0) : sp_Ct X 9 159 [.ref 64, .int t] g (sp_Fi (-1) g) := by
  refine sp_walkN (n := 3) sq_p_159 sq_l_159 (Nat.le_of_ble_eq_true rfl) (fun a hA => ?_)
  show sp_Ev X a 159 0 [.ref 64, .int t, .null] [] g
  refine sr_iload_n hA si_159_0 rfl ?_
  refine sr_SFi (as := [.int t]) (st := []) hA si_159_1 ss_150 sk_159_108 (mc_isTextM X g ht) (by omega) rfl rfl (Nat.le_of_ble_eq_true rfl) ?_
  refine sr_if_neN (tgt := 9) hA si_159_4 (by decide) (by omega) (fun c1 => absurd c1 (by omega)) (fun c1 => ?_)
  refine sr_iconst (v := (-1)) hA si_159_7 (by decide) ?_
  exact sr_iretF hA si_159_8 sq_r_159 rfl rfl
set_option maxRecDepth 20000 in
theorem mc_piano_b (X : sp_X) (g : sp_G) {t : Nat} (ht : 4 ≤ t) (htb : t < 2 ^ 31) : sp_Ct X 9 159 [.ref 64, .int (nI t)] g (sp_Fi (-1) g) := by
  refine sp_walkN (n := 3) sq_p_159 sq_l_159 (Nat.le_of_ble_eq_true rfl) (fun a hA => ?_)
  show sp_Ev X a 159 0 [.ref 64, .int (nI t), .null] [] g
  refine sr_iload_n hA si_159_0 rfl ?_
  refine sr_SFi (as := [.int (nI t)]) (st := []) hA si_159_1 ss_150 sk_159_108 (mc_isTextH X g (by omega) (by omega)) (by omega) rfl rfl (Nat.le_of_ble_eq_true rfl) ?_
  refine sr_if_neN (tgt := 9) hA si_159_4 (by decide) (by omega) (fun c1 => absurd c1 (by omega)) (fun c1 => ?_)
  refine sr_iconst (v := (-1)) hA si_159_7 (by decide) ?_
  exact sr_iretF hA si_159_8 sq_r_159 rfl rfl
set_option maxRecDepth 20000 in
theorem mc_piano_c (X : sp_X) (g : sp_G) {t : Nat} (ht : t < 4) (hz : g.1 69 t = -1) : sp_Ct X 9 159 [.ref 64, .int (nI t)] g (sp_Fi (-3) (sp_rm6 g 1)) := by
  refine sp_walkN (n := 3) sq_p_159 sq_l_159 (Nat.le_of_ble_eq_true rfl) (fun a hA => ?_)
  show sp_Ev X a 159 0 [.ref 64, .int (nI t), .null] [] g
  refine sr_iload_n hA si_159_0 rfl ?_
  refine sr_SFi (as := [.int (nI t)]) (st := []) hA si_159_1 ss_150 sk_159_108 (mc_isText1 X g (by omega)) (by omega) rfl rfl (Nat.le_of_ble_eq_true rfl) ?_
  refine sr_if_neN (tgt := 9) hA si_159_4 (by decide) (by omega) (fun c1 => ?_) (fun c1 => absurd c1 (by omega))
  refine sr_aload_n hA si_159_9 rfl ?_
  refine sr_getR (r := 69) hA si_159_10 sf_159_26 (by decide) (by decide) rfl rfl rfl ?_
  refine sr_iload_n hA si_159_13 rfl ?_
  refine sr_ialdNv (v := (-1)) (n := 4) hA si_159_14 (by decide) rfl rfl (by omega) (by decide) hz ?_
  refine sr_if_ge (tgt := 24) hA si_159_15 (by decide) (fun c2 => absurd c2 (sp_m4 (by decide))) (fun c2 => ?_)
  refine sr_aload_n hA si_159_18 rfl ?_
  refine sr_iconst (v := nI 1) hA si_159_19 (by decide) ?_
  refine sr_VFi (c := 64) (ci := 8) (as := [.int (nI 1)]) (st := []) hA si_159_20 sv_141 sk_159_97 (mc_meets X g (by omega)) (by omega) rfl (by decide) (by decide) rfl sq_c_141 rfl (Nat.le_of_ble_eq_true rfl) ?_
  exact sr_iretF hA si_159_23 sq_r_159 rfl rfl
set_option maxRecDepth 20000 in
theorem xc_fault_e (X : sp_X) (g : sp_G) {t : Nat} (ht : t < 4) {z : Nat} (hz : g.1 16 t = nI z) (hzb : z ≤ 60) {Q : Int32 → sp_G → Prop} (hC : sp_Ct X 4 30 [.ref 56, .ref 10, .int (nI t)] g (sp_Ri Q)) : sp_Ct X 9 29 [.ref 0, .int (nI t)] g (sp_Ri Q) := by
  refine sp_walkN (n := 2) sq_p_29 sq_l_29 (Nat.le_of_ble_eq_true rfl) (fun a hA => ?_)
  show sp_Ev X a 29 0 [.ref 0, .int (nI t)] [] g
  refine sr_aload_n hA si_29_0 rfl ?_
  refine sr_getR (r := 10) hA si_29_1 sf_29_18 (by decide) (by decide) rfl rfl rfl ?_
  refine sr_iload_n hA si_29_4 rfl ?_
  refine sr_VFi (c := 10) (ci := 5) (as := [.int (nI t)]) (st := []) hA si_29_5 sv_11 sk_29_72 (xc_numT1 X g (by omega)) (by omega) rfl (by decide) (by decide) rfl sq_c_11 rfl (Nat.le_of_ble_eq_true rfl) ?_
  refine sr_if_neN (tgt := 13) hA si_29_8 (by decide) (by omega) (fun c1 => ?_) (fun c1 => absurd c1 (by omega))
  refine sr_aload_n hA si_29_13 rfl ?_
  refine sr_getR (r := 10) hA si_29_14 sf_29_18 (by decide) (by decide) rfl rfl rfl ?_
  refine sr_iload_n hA si_29_17 rfl ?_
  refine sr_VFi (c := 10) (ci := 5) (as := [.int (nI t)]) (st := []) hA si_29_18 sv_16 sk_29_99 (xc_thereT1 X g (by omega) hz (by omega)) (by omega) rfl (by decide) (by decide) rfl sq_c_16 rfl (Nat.le_of_ble_eq_true rfl) ?_
  refine sr_if_neN (tgt := 30) hA si_29_21 (by decide) (by omega) (fun c2 => ?_) (fun c2 => absurd c2 (by omega))
  refine sr_aload_n hA si_29_30 rfl ?_
  refine sr_getR (r := 56) hA si_29_31 sf_29_60 (by decide) (by decide) rfl rfl rfl ?_
  refine sr_aload_n hA si_29_34 rfl ?_
  refine sr_getR (r := 10) hA si_29_35 sf_29_18 (by decide) (by decide) rfl rfl rfl ?_
  refine sr_iload_n hA si_29_38 rfl ?_
  refine sr_VRi (c := 56) (ci := 1) (as := [.ref 10, .int (nI t)]) (st := []) hA si_29_39 sv_30 sk_29_117 hC (by omega) rfl (by decide) (by decide) rfl sq_c_30 rfl (Nat.le_of_ble_eq_true rfl) (fun xv gx qx => ?_)
  exact sr_iretR hA si_29_42 sq_r_29 qx
set_option maxRecDepth 20000 in
theorem mc_fault_e (X : sp_X) (g : sp_G) {t : Nat} (ht : t < 4) {z : Nat} (hz : g.1 69 t = nI z) (hzb : z ≤ 60) {Q : Int32 → sp_G → Prop} (hC : sp_Ct X 4 153 [.ref 64, .int (nI t)] g (sp_Ri Q)) : sp_Ct X 9 152 [.ref 64, .int (nI t)] g (sp_Ri Q) := by
  refine sp_walkN (n := 2) sq_p_152 sq_l_152 (Nat.le_of_ble_eq_true rfl) (fun a hA => ?_)
  show sp_Ev X a 152 0 [.ref 64, .int (nI t)] [] g
  refine sr_iload_n hA si_152_0 rfl ?_
  refine sr_SFi (as := [.int (nI t)]) (st := []) hA si_152_1 ss_150 sk_152_108 (mc_isText1 X g (by omega)) (by omega) rfl rfl (Nat.le_of_ble_eq_true rfl) ?_
  refine sr_if_neN (tgt := 9) hA si_152_4 (by decide) (by omega) (fun c1 => ?_) (fun c1 => absurd c1 (by omega))
  refine sr_aload_n hA si_152_9 rfl ?_
  refine sr_getR (r := 69) hA si_152_10 sf_152_26 (by decide) (by decide) rfl rfl rfl ?_
  refine sr_iload_n hA si_152_13 rfl ?_
  refine sr_ialdNv (v := nI z) (n := 4) hA si_152_14 (by decide) rfl rfl (by omega) (by decide) hz ?_
  refine sr_if_geN (tgt := 26) hA si_152_15 (by decide) (by omega) ?_
  refine sr_aload_n hA si_152_26 rfl ?_
  refine sr_iload_n hA si_152_27 rfl ?_
  refine sr_VRi (c := 64) (ci := 8) (as := [.int (nI t)]) (st := []) hA si_152_28 sv_153 sk_152_139 hC (by omega) rfl (by decide) (by decide) rfl sq_c_153 rfl (Nat.le_of_ble_eq_true rfl) (fun xv gx qx => ?_)
  exact sr_iretR hA si_152_31 sq_r_152 qx
set_option maxRecDepth 20000 in
theorem xc_piano_f (X : sp_X) (g : sp_G) {t : Nat} (ht : t < 4) {z : Nat} (hz : g.1 16 t = nI z) (hzb : z ≤ 60) {e : Nat} (heb : e < 2 ^ 31) {Q : sp_G → Prop} (hC : sp_Ct X 4 30 [.ref 56, .ref 10, .int (nI t)] g (sp_Ri (fun x g' => x = nI e ∧ Q g'))) : sp_Ct X 9 37 [.ref 0, .int (nI t)] g (sp_Ri (fun x g' => x = -4 ∧ Q g')) := by
  refine sp_walkN (n := 3) sq_p_37 sq_l_37 (Nat.le_of_ble_eq_true rfl) (fun a hA => ?_)
  show sp_Ev X a 37 0 [.ref 0, .int (nI t), .null] [] g
  refine sr_aload_n hA si_37_0 rfl ?_
  refine sr_getR (r := 10) hA si_37_1 sf_37_18 (by decide) (by decide) rfl rfl rfl ?_
  refine sr_iload_n hA si_37_4 rfl ?_
  refine sr_VFi (c := 10) (ci := 5) (as := [.int (nI t)]) (st := []) hA si_37_5 sv_11 sk_37_72 (xc_numT1 X g (by omega)) (by omega) rfl (by decide) (by decide) rfl sq_c_11 rfl (Nat.le_of_ble_eq_true rfl) ?_
  refine sr_if_neN (tgt := 13) hA si_37_8 (by decide) (by omega) (fun c1 => ?_) (fun c1 => absurd c1 (by omega))
  refine sr_aload_n hA si_37_13 rfl ?_
  refine sr_getR (r := 10) hA si_37_14 sf_37_18 (by decide) (by decide) rfl rfl rfl ?_
  refine sr_iload_n hA si_37_17 rfl ?_
  refine sr_VFi (c := 10) (ci := 5) (as := [.int (nI t)]) (st := []) hA si_37_18 sv_16 sk_37_99 (xc_thereT1 X g (by omega) hz (by omega)) (by omega) rfl (by decide) (by decide) rfl sq_c_16 rfl (Nat.le_of_ble_eq_true rfl) ?_
  refine sr_if_neN (tgt := 30) hA si_37_21 (by decide) (by omega) (fun c2 => ?_) (fun c2 => absurd c2 (by omega))
  refine sr_aload_n hA si_37_30 rfl ?_
  refine sr_getR (r := 56) hA si_37_31 sf_37_60 (by decide) (by decide) rfl rfl rfl ?_
  refine sr_aload_n hA si_37_34 rfl ?_
  refine sr_getR (r := 10) hA si_37_35 sf_37_18 (by decide) (by decide) rfl rfl rfl ?_
  refine sr_iload_n hA si_37_38 rfl ?_
  refine sr_VRi (c := 56) (ci := 1) (as := [.ref 10, .int (nI t)]) (st := []) hA si_37_39 sv_30 sk_37_117 hC (by omega) rfl (by decide) (by decide) rfl sq_c_30 rfl (Nat.le_of_ble_eq_true rfl) (fun xv gx qx => ?_)
  obtain ⟨exv, qx⟩ := qx
  subst exv
  refine sr_bipush (v := (-9)) hA si_37_42 (by decide) ?_
  refine sr_icmp_eq (tgt := 50) hA si_37_44 (by decide) (fun c3 => absurd c3 (sp_nm9 (by omega))) (fun c3 => ?_)
  refine sr_bipush (v := (-4)) hA si_37_47 (by decide) ?_
  exact sr_iretR hA si_37_49 sq_r_37 ⟨rfl, qx⟩
set_option maxRecDepth 20000 in
theorem mc_piano_f (X : sp_X) (g : sp_G) {t : Nat} (ht : t < 4) {z : Nat} (hz : g.1 69 t = nI z) (hzb : z ≤ 60) {e : Nat} (heb : e < 2 ^ 31) {Q : sp_G → Prop} (hC : sp_Ct X 4 153 [.ref 64, .int (nI t)] g (sp_Ri (fun x g' => x = nI e ∧ Q g'))) : sp_Ct X 9 159 [.ref 64, .int (nI t)] g (sp_Ri (fun x g' => x = -4 ∧ Q g')) := by
  refine sp_walkN (n := 3) sq_p_159 sq_l_159 (Nat.le_of_ble_eq_true rfl) (fun a hA => ?_)
  show sp_Ev X a 159 0 [.ref 64, .int (nI t), .null] [] g
  refine sr_iload_n hA si_159_0 rfl ?_
  refine sr_SFi (as := [.int (nI t)]) (st := []) hA si_159_1 ss_150 sk_159_108 (mc_isText1 X g (by omega)) (by omega) rfl rfl (Nat.le_of_ble_eq_true rfl) ?_
  refine sr_if_neN (tgt := 9) hA si_159_4 (by decide) (by omega) (fun c1 => ?_) (fun c1 => absurd c1 (by omega))
  refine sr_aload_n hA si_159_9 rfl ?_
  refine sr_getR (r := 69) hA si_159_10 sf_159_26 (by decide) (by decide) rfl rfl rfl ?_
  refine sr_iload_n hA si_159_13 rfl ?_
  refine sr_ialdNv (v := nI z) (n := 4) hA si_159_14 (by decide) rfl rfl (by omega) (by decide) hz ?_
  refine sr_if_geN (tgt := 24) hA si_159_15 (by decide) (by omega) ?_
  refine sr_aload_n hA si_159_24 rfl ?_
  refine sr_iload_n hA si_159_25 rfl ?_
  refine sr_VRi (c := 64) (ci := 8) (as := [.int (nI t)]) (st := []) hA si_159_26 sv_153 sk_159_139 hC (by omega) rfl (by decide) (by decide) rfl sq_c_153 rfl (Nat.le_of_ble_eq_true rfl) (fun xv gx qx => ?_)
  obtain ⟨exv, qx⟩ := qx
  subst exv
  refine sr_bipush (v := (-9)) hA si_159_29 (by decide) ?_
  refine sr_icmp_eq (tgt := 37) hA si_159_31 (by decide) (fun c3 => absurd c3 (sp_nm9 (by omega))) (fun c3 => ?_)
  refine sr_bipush (v := (-4)) hA si_159_34 (by decide) ?_
  exact sr_iretR hA si_159_36 sq_r_159 ⟨rfl, qx⟩
def sp_kt (g g' : sp_G) : Prop := (∀ c, ¬ (18 ≤ c ∧ c ≤ 21) → g'.1 c = g.1 c) ∧ g'.2 = g.2 ∧ g'.1 18 3 = g.1 57 3 ∧ ∀ j, j < 6 → g'.1 19 j = g.1 58 j ∧ g'.1 20 j = g.1 59 j ∧ g'.1 21 j = g.1 60 j
theorem sp_ktEq {g : sp_G} {x y z : Nat → Int32} {w : Int32} (hw : w = g.1 57 3) (hx : ∀ j, j < 6 → x j = g.1 58 j) (hy : ∀ j, j < 6 → y j = g.1 59 j) (hz : ∀ j, j < 6 → z j = g.1 60 j) : sp_kt g (sp_wA (sp_wA (sp_wA (sp_wI g 18 3 w) 19 x) 20 y) 21 z) := by
  refine ⟨fun c hc => funext fun j => ?_, rfl, hw, fun j hj => ⟨hx j hj, hy j hj, hz j hj⟩⟩
  rw [sp_rdW, if_neg (by omega), sp_rdW, if_neg (by omega), sp_rdW, if_neg (by omega), sp_rd, if_neg (by omega)]
set_option maxRecDepth 20000 in
theorem xc_ktake (X : sp_X) (g : sp_G)  : sp_Ct X 1 38 [.ref 18, .ref 57] g (sp_Rv (fun g' => sp_kt g g')) := by
  refine sp_walkN (n := 2) sq_p_38 sq_l_38 (Nat.le_of_ble_eq_true rfl) (fun a hA => ?_)
  show sp_Ev X a 38 0 [.ref 18, .ref 57] [] g
  refine sr_aload_n hA si_38_0 rfl ?_
  refine sr_aload_n hA si_38_1 rfl ?_
  refine sr_getIv (v := g.1 57 3) hA si_38_2 sf_38_21 (by decide) (by decide) rfl (by decide) rfl ?_
  refine sr_putI hA si_38_5 sf_38_21 rfl rfl (by decide) (by decide) rfl rfl ?_
  refine sr_aload_n hA si_38_8 rfl ?_
  refine sr_getR (r := 58) hA si_38_9 sf_38_9 (by decide) (by decide) rfl rfl rfl ?_
  refine sr_iconst (v := nI 0) hA si_38_12 (by decide) ?_
  refine sr_aload_n hA si_38_13 rfl ?_
  refine sr_getR (r := 19) hA si_38_14 sf_38_9 (by decide) (by decide) rfl rfl rfl ?_
  refine sr_iconst (v := nI 0) hA si_38_17 (by decide) ?_
  refine sr_bipush (v := nI 6) hA si_38_18 (by decide) ?_
  refine sr_copyN (n0 := 6) (n1 := 6) hA si_38_20 sk_38_25 sn_1 sn_2 sn_3 (by omega) (by decide) (by decide) rfl rfl rfl rfl (by omega) (by omega) (by decide) (by decide) (Nat.le_of_ble_eq_true rfl) ?_
  refine sr_aload_n hA si_38_23 rfl ?_
  refine sr_getR (r := 59) hA si_38_24 sf_38_15 (by decide) (by decide) rfl rfl rfl ?_
  refine sr_iconst (v := nI 0) hA si_38_27 (by decide) ?_
  refine sr_aload_n hA si_38_28 rfl ?_
  refine sr_getR (r := 20) hA si_38_29 sf_38_15 (by decide) (by decide) rfl rfl rfl ?_
  refine sr_iconst (v := nI 0) hA si_38_32 (by decide) ?_
  refine sr_bipush (v := nI 6) hA si_38_33 (by decide) ?_
  refine sr_copyN (n0 := 6) (n1 := 6) hA si_38_35 sk_38_25 sn_1 sn_2 sn_3 (by omega) (by decide) (by decide) rfl rfl rfl rfl (by omega) (by omega) (by decide) (by decide) (Nat.le_of_ble_eq_true rfl) ?_
  refine sr_aload_n hA si_38_38 rfl ?_
  refine sr_getR (r := 60) hA si_38_39 sf_38_18 (by decide) (by decide) rfl rfl rfl ?_
  refine sr_iconst (v := nI 0) hA si_38_42 (by decide) ?_
  refine sr_aload_n hA si_38_43 rfl ?_
  refine sr_getR (r := 21) hA si_38_44 sf_38_18 (by decide) (by decide) rfl rfl rfl ?_
  refine sr_iconst (v := nI 0) hA si_38_47 (by decide) ?_
  refine sr_bipush (v := nI 6) hA si_38_48 (by decide) ?_
  refine sr_copyN (n0 := 6) (n1 := 6) hA si_38_50 sk_38_25 sn_1 sn_2 sn_3 (by omega) (by decide) (by decide) rfl rfl rfl rfl (by omega) (by omega) (by decide) (by decide) (Nat.le_of_ble_eq_true rfl) ?_
  exact sr_vretR hA si_38_53 sq_r_38 (sp_ktEq rfl (fun j hj => by rw [pk_cpy_in (by omega) (by omega), show 0 + (j - 0) = j by omega]; rfl) (fun j hj => by rw [pk_cpy_in (by omega) (by omega), show 0 + (j - 0) = j by omega]; rfl) (fun j hj => by rw [pk_cpy_in (by omega) (by omega), show 0 + (j - 0) = j by omega]; rfl))
set_option maxRecDepth 20000 in
theorem xc_begin (X : sp_X) (g : sp_G) (s : Int32) : sp_Ct X 2 40 [.ref 47, .ref 41, .int s] g (sp_Fv (sp_sG (sp_wI (sp_wI g 47 1 (nI 0)) 47 2 s) 48 0 (sp_sv (sp_wI (sp_wI g 47 1 (nI 0)) 47 2 s) 41 42))) := by
  refine sp_walkN (n := 3) sq_p_40 sq_l_40 (Nat.le_of_ble_eq_true rfl) (fun a hA => ?_)
  show sp_Ev X a 40 0 [.ref 47, .ref 41, .int s] [] g
  refine sr_aload_n hA si_40_0 rfl ?_
  refine sr_iconst (v := nI 0) hA si_40_1 (by decide) ?_
  refine sr_putI hA si_40_2 sf_40_21 rfl rfl (by decide) (by decide) rfl rfl ?_
  refine sr_aload_n hA si_40_5 rfl ?_
  refine sr_iload_n hA si_40_6 rfl ?_
  refine sr_putI hA si_40_7 sf_40_17 rfl rfl (by decide) (by decide) rfl rfl ?_
  refine sr_aload_n hA si_40_10 rfl ?_
  refine sr_aload_n hA si_40_11 rfl ?_
  refine sr_VFv (c := 47) (ci := 6) (as := [.ref 41]) (st := []) hA si_40_12 sv_41 sk_40_24 (xc_write X (sp_wI (sp_wI g 47 1 (nI 0)) 47 2 s) (dm := 0) rfl (by omega)) (by omega) rfl (by decide) (by decide) rfl sq_c_41 rfl (Nat.le_of_ble_eq_true rfl) ?_
  exact sr_vretF hA si_40_15 sq_r_40 rfl
/-- a piano of i keys is new in the class -/
def sp_px (g g' : sp_G) (i : Nat) (D : sp_D) (s : Nat) : Prop := (∀ c, ¬ ((18 ≤ c ∧ c ≤ 21) ∨ c = 41 ∨ c = 42 ∨ (47 ≤ c ∧ c ≤ 62)) → g'.1 c = g.1 c) ∧ g'.2 = g.2 ∧ g'.1 18 3 = nI i ∧ (∀ j, j < i → g'.1 19 j = nI (D j).1 ∧ g'.1 20 j = nI (D j).2.1 ∧ g'.1 21 j = nI (D j).2.2.2.2 ∧ g'.1 42 j = nI (10 * (D j).2.2.1 + (D j).2.2.2.1)) ∧ (∀ j, i ≤ j → j < 6 → g'.1 42 j = 0) ∧ g'.1 41 1 = 0 ∧ g'.1 41 2 = 0 ∧ g'.1 41 3 = 0 ∧ g'.1 47 1 = nI 0 ∧ g'.1 47 2 = nI s ∧ (∀ j, j < 9 → g'.1 48 j = sp_sv g' 41 42 j) ∧ g'.1 50 3 = 0 ∧ g'.1 51 3 = 0 ∧ g'.1 52 3 = 0
abbrev sp_pn (gk : sp_G) (s : Int32) : sp_G := sp_wI (sp_wI (sp_wI (sp_sG (sp_wI (sp_wI (sp_sS gk 41 42 (sp_sv gk 61 62)) 47 1 (nI 0)) 47 2 s) 48 0 (sp_sv (sp_wI (sp_wI (sp_sS gk 41 42 (sp_sv gk 61 62)) 47 1 (nI 0)) 47 2 s) 41 42)) 50 3 (nI 0)) 51 3 (nI 0)) 52 3 (nI 0)
theorem sp_pxEq {g gx gk : sp_G} {i s : Nat} {D : sp_D} (hi : i ≤ 6) (hx : sp_rx2 g gx i D s) (hk : sp_kt gx gk) : sp_px g (sp_pn gk (nI s)) i D s := by
  obtain ⟨h1, h2, h3, h4, h5, h6, h7, h8⟩ := hx
  obtain ⟨k1, k2, k3, k4⟩ := hk
  have e62 : ∀ j, gk.1 62 j = gx.1 62 j := fun j => by rw [k1 62 (by omega)]
  have e61 : ∀ j, gk.1 61 j = gx.1 61 j := fun j => by rw [k1 61 (by omega)]
  have e42 : ∀ j, j < 6 → (sp_pn gk (nI s)).1 42 j = gx.1 62 j := fun j hj => by
    show (if (42 : Nat) = 42 ∧ j < 6 then sp_sv gk 61 62 j else _) = _
    rw [if_pos ⟨rfl, hj⟩]
    show (if j < 6 then gk.1 62 j else _) = _
    rw [if_pos hj]
    exact e62 j
  refine ⟨fun c hc => funext fun j => ?_, k2.trans h1.2, k3.trans h2, fun j hj => ?_, fun j hj h9 => ?_, ?_, ?_, ?_, rfl, rfl, fun j hj => ?_, rfl, rfl, rfl⟩
  · rw [sp_rd, if_neg (by omega), sp_rd, if_neg (by omega), sp_rd, if_neg (by omega), sp_sG_rd, if_neg (by omega), sp_rd, if_neg (by omega), sp_rd, if_neg (by omega), sp_sS_rd, if_neg (by omega), if_neg (by omega), k1 c (by omega), h1.1 c (by omega)]
  · obtain ⟨a1, a2, a3, a4⟩ := h4 j hj
    obtain ⟨b1, b2, b3⟩ := k4 j (by omega)
    exact ⟨b1.trans a1, b2.trans a2, b3.trans a4, (e42 j (by omega)).trans a3⟩
  · exact (e42 j h9).trans (h5 j hj h9)
  · exact (e61 1).trans h6
  · exact (e61 2).trans h7
  · exact (e61 3).trans h8
  · have e : (sp_pn gk (nI s)).1 48 j = sp_sv (sp_wI (sp_wI (sp_sS gk 41 42 (sp_sv gk 61 62)) 47 1 (nI 0)) 47 2 (nI s)) 41 42 j := by
      rw [sp_rd, if_neg (by omega), sp_rd, if_neg (by omega), sp_rd, if_neg (by omega), sp_sG_rd, if_pos (by omega), show j - 9 * 0 = j by omega]
    rw [e]
    rfl
set_option maxRecDepth 20000 in
theorem xc_piano_e (X : sp_X) (g : sp_G) {t : Nat} (ht : t < 4) {z : Nat} (hz : g.1 16 t = nI z) (hzb : z ≤ 60) {i0 s : Nat} {D : sp_D} (hi6 : i0 ≤ 6) (hC : sp_Ct X 4 30 [.ref 56, .ref 10, .int (nI t)] g (sp_Ri (fun x g' => x = -9 ∧ sp_rx2 g g' i0 D s))) : sp_Ct X 9 37 [.ref 0, .int (nI t)] g (sp_Ri (fun x g' => x = nI i0 ∧ sp_px g g' i0 D s)) := by
  refine sp_walkN (n := 3) sq_p_37 sq_l_37 (Nat.le_of_ble_eq_true rfl) (fun a hA => ?_)
  show sp_Ev X a 37 0 [.ref 0, .int (nI t), .null] [] g
  refine sr_aload_n hA si_37_0 rfl ?_
  refine sr_getR (r := 10) hA si_37_1 sf_37_18 (by decide) (by decide) rfl rfl rfl ?_
  refine sr_iload_n hA si_37_4 rfl ?_
  refine sr_VFi (c := 10) (ci := 5) (as := [.int (nI t)]) (st := []) hA si_37_5 sv_11 sk_37_72 (xc_numT1 X g (by omega)) (by omega) rfl (by decide) (by decide) rfl sq_c_11 rfl (Nat.le_of_ble_eq_true rfl) ?_
  refine sr_if_neN (tgt := 13) hA si_37_8 (by decide) (by omega) (fun c1 => ?_) (fun c1 => absurd c1 (by omega))
  refine sr_aload_n hA si_37_13 rfl ?_
  refine sr_getR (r := 10) hA si_37_14 sf_37_18 (by decide) (by decide) rfl rfl rfl ?_
  refine sr_iload_n hA si_37_17 rfl ?_
  refine sr_VFi (c := 10) (ci := 5) (as := [.int (nI t)]) (st := []) hA si_37_18 sv_16 sk_37_99 (xc_thereT1 X g (by omega) hz (by omega)) (by omega) rfl (by decide) (by decide) rfl sq_c_16 rfl (Nat.le_of_ble_eq_true rfl) ?_
  refine sr_if_neN (tgt := 30) hA si_37_21 (by decide) (by omega) (fun c2 => ?_) (fun c2 => absurd c2 (by omega))
  refine sr_aload_n hA si_37_30 rfl ?_
  refine sr_getR (r := 56) hA si_37_31 sf_37_60 (by decide) (by decide) rfl rfl rfl ?_
  refine sr_aload_n hA si_37_34 rfl ?_
  refine sr_getR (r := 10) hA si_37_35 sf_37_18 (by decide) (by decide) rfl rfl rfl ?_
  refine sr_iload_n hA si_37_38 rfl ?_
  refine sr_VRi (c := 56) (ci := 1) (as := [.ref 10, .int (nI t)]) (st := []) hA si_37_39 sv_30 sk_37_117 hC (by omega) rfl (by decide) (by decide) rfl sq_c_30 rfl (Nat.le_of_ble_eq_true rfl) (fun xv gx qx => ?_)
  obtain ⟨exv, qx⟩ := qx
  subst exv
  refine sr_bipush (v := (-9)) hA si_37_42 (by decide) ?_
  refine sr_icmp_eq (tgt := 50) hA si_37_44 (by decide) (fun c3 => ?_) (fun c3 => absurd rfl c3)
  refine sr_aload_n hA si_37_50 rfl ?_
  refine sr_getR (r := 18) hA si_37_51 sf_37_32 (by decide) (by decide) rfl rfl rfl ?_
  refine sr_aload_n hA si_37_54 rfl ?_
  refine sr_getR (r := 56) hA si_37_55 sf_37_60 (by decide) (by decide) rfl rfl rfl ?_
  refine sr_getR (r := 57) hA si_37_58 sf_37_121 (by decide) (by decide) rfl rfl rfl ?_
  refine sr_VRv (c := 18) (ci := 0) (as := [.ref 57]) (st := []) hA si_37_61 sv_38 sk_37_122 (xc_ktake X gx) (by omega) rfl (by decide) (by decide) rfl sq_c_38 rfl (Nat.le_of_ble_eq_true rfl) (fun gk qk => ?_)
  refine sr_aload_n hA si_37_64 rfl ?_
  refine sr_getR (r := 41) hA si_37_65 sf_37_36 (by decide) (by decide) rfl rfl rfl ?_
  refine sr_aload_n hA si_37_68 rfl ?_
  refine sr_getR (r := 56) hA si_37_69 sf_37_60 (by decide) (by decide) rfl rfl rfl ?_
  refine sr_getR (r := 61) hA si_37_72 sf_37_128 (by decide) (by decide) rfl rfl rfl ?_
  refine sr_VFv (c := 41) (ci := 2) (as := [.ref 61]) (st := []) hA si_37_75 sv_39 sk_37_131 (xc_take X gk sp_sd41 sp_sd61 (by unfold sp_ap; omega)) (by omega) rfl (by decide) (by decide) rfl sq_c_39 rfl (Nat.le_of_ble_eq_true rfl) ?_
  refine sr_aload_n hA si_37_78 rfl ?_
  refine sr_getR (r := 47) hA si_37_79 sf_37_49 (by decide) (by decide) rfl rfl rfl ?_
  refine sr_aload_n hA si_37_82 rfl ?_
  refine sr_getR (r := 41) hA si_37_83 sf_37_36 (by decide) (by decide) rfl rfl rfl ?_
  refine sr_aload_n hA si_37_86 rfl ?_
  refine sr_getR (r := 56) hA si_37_87 sf_37_60 (by decide) (by decide) rfl rfl rfl ?_
  refine sr_getIv (v := nI s) hA si_37_90 sf_37_134 (by decide) (by decide) rfl (by decide) ((congrFun (qk.1 56 (by omega)) 2).trans qx.2.2.1) ?_
  refine sr_VFv (c := 47) (ci := 6) (as := [.ref 41, .int (nI s)]) (st := []) hA si_37_93 sv_40 sk_37_137 (xc_begin X (sp_sS gk 41 42 (sp_sv gk 61 62)) (nI s)) (by omega) rfl (by decide) (by decide) rfl sq_c_40 rfl (Nat.le_of_ble_eq_true rfl) ?_
  refine sr_iconst (v := nI 0) hA si_37_96 (by decide) ?_
  refine sr_istore_n (ls1 := [.ref 0, .int (nI t), .int (nI 0)]) hA si_37_97 rfl (by rw [sq_l_37]; decide) rfl ?_
  refine sr_iload_n hA si_37_98 rfl ?_
  refine sr_iconst (v := nI 3) hA si_37_99 (by decide) ?_
  refine sr_icmp_geN (tgt := 119) hA si_37_100 (by decide) (by omega) (by omega) (fun c4 => absurd c4 (by omega)) (fun c4 => ?_)
  refine sr_aload_n hA si_37_103 rfl ?_
  refine sr_getR (r := 49) hA si_37_104 sf_37_53 (by decide) (by decide) rfl rfl rfl ?_
  refine sr_iload_n hA si_37_107 rfl ?_
  refine sr_aaldN (r := 50) (n := 3) hA si_37_108 (by decide) (by decide) rfl (by omega) (by decide) rfl ?_
  refine sr_iconst (v := nI 0) hA si_37_109 (by decide) ?_
  refine sr_putZ hA si_37_110 sf_37_141 rfl rfl (by decide) (by decide) rfl rfl (by decide) ?_
  refine sr_iincN (x := 0) (y := 1) (ls1 := [.ref 0, .int (nI t), .int (nI 1)]) hA si_37_113 rfl rfl (by rw [sq_l_37]; decide) rfl ?_
  refine sr_goto (tgt := 98) hA si_37_116 (by decide) ?_
  refine sr_iload_n hA si_37_98 rfl ?_
  refine sr_iconst (v := nI 3) hA si_37_99 (by decide) ?_
  refine sr_icmp_geN (tgt := 119) hA si_37_100 (by decide) (by omega) (by omega) (fun c5 => absurd c5 (by omega)) (fun c5 => ?_)
  refine sr_aload_n hA si_37_103 rfl ?_
  refine sr_getR (r := 49) hA si_37_104 sf_37_53 (by decide) (by decide) rfl rfl rfl ?_
  refine sr_iload_n hA si_37_107 rfl ?_
  refine sr_aaldN (r := 51) (n := 3) hA si_37_108 (by decide) (by decide) rfl (by omega) (by decide) rfl ?_
  refine sr_iconst (v := nI 0) hA si_37_109 (by decide) ?_
  refine sr_putZ hA si_37_110 sf_37_141 rfl rfl (by decide) (by decide) rfl rfl (by decide) ?_
  refine sr_iincN (x := 1) (y := 1) (ls1 := [.ref 0, .int (nI t), .int (nI 2)]) hA si_37_113 rfl rfl (by rw [sq_l_37]; decide) rfl ?_
  refine sr_goto (tgt := 98) hA si_37_116 (by decide) ?_
  refine sr_iload_n hA si_37_98 rfl ?_
  refine sr_iconst (v := nI 3) hA si_37_99 (by decide) ?_
  refine sr_icmp_geN (tgt := 119) hA si_37_100 (by decide) (by omega) (by omega) (fun c6 => absurd c6 (by omega)) (fun c6 => ?_)
  refine sr_aload_n hA si_37_103 rfl ?_
  refine sr_getR (r := 49) hA si_37_104 sf_37_53 (by decide) (by decide) rfl rfl rfl ?_
  refine sr_iload_n hA si_37_107 rfl ?_
  refine sr_aaldN (r := 52) (n := 3) hA si_37_108 (by decide) (by decide) rfl (by omega) (by decide) rfl ?_
  refine sr_iconst (v := nI 0) hA si_37_109 (by decide) ?_
  refine sr_putZ hA si_37_110 sf_37_141 rfl rfl (by decide) (by decide) rfl rfl (by decide) ?_
  refine sr_iincN (x := 2) (y := 1) (ls1 := [.ref 0, .int (nI t), .int (nI 3)]) hA si_37_113 rfl rfl (by rw [sq_l_37]; decide) rfl ?_
  refine sr_goto (tgt := 98) hA si_37_116 (by decide) ?_
  refine sr_iload_n hA si_37_98 rfl ?_
  refine sr_iconst (v := nI 3) hA si_37_99 (by decide) ?_
  refine sr_icmp_geN (tgt := 119) hA si_37_100 (by decide) (by omega) (by omega) (fun c7 => ?_) (fun c7 => absurd c7 (by omega))
  refine sr_aload_n hA si_37_119 rfl ?_
  refine sr_getR (r := 18) hA si_37_120 sf_37_32 (by decide) (by decide) rfl rfl rfl ?_
  refine sr_getIv (v := nI i0) hA si_37_123 sf_37_145 (by decide) (by decide) rfl (by decide) (qk.2.2.1.trans qx.2.1) ?_
  exact sr_iretR hA si_37_126 sq_r_37 ⟨rfl, sp_pxEq hi6 qx qk⟩
def sp_pq (gb gg : sp_G) (i : Nat) (D : sp_D) : Prop := (∀ c, ¬ ((71 ≤ c ∧ c ≤ 73) ∨ c = 75) → gg.1 c = gb.1 c) ∧ gg.2 = gb.2 ∧ (∀ j, j < i → gg.1 71 j = nI (D j).1 ∧ gg.1 72 j = nI (D j).2.1 ∧ gg.1 73 j = nI (D j).2.2.2.2 ∧ gg.1 75 j = nI (10 * (D j).2.2.1 + (D j).2.2.2.1)) ∧ ∀ j, i ≤ j → gg.1 75 j = gb.1 75 j
theorem sp_pq.step {gb gg : sp_G} {i : Nat} {D : sp_D} (h : sp_pq gb gg i D) : sp_pq gb (sp_wI (sp_wI (sp_wI (sp_wI gg 71 i (nI (D i).1)) 72 i (nI (D i).2.1)) 73 i (nI (D i).2.2.2.2)) 75 (9 * 0 + i) (nI (10 * (D i).2.2.1 + (D i).2.2.2.1))) (i + 1) D := by
  obtain ⟨h1, h2, h3, h4⟩ := h
  rw [show 9 * 0 + i = i by omega]
  refine ⟨fun c hc => funext fun j => ?_, h2, fun j hj => ?_, fun j hj => ?_⟩
  · rw [sp_rd, if_neg (by omega), sp_rd, if_neg (by omega), sp_rd, if_neg (by omega), sp_rd, if_neg (by omega), h1 c hc]
  · by_cases e : j = i
    · subst e
      refine ⟨?_, ?_, ?_, ?_⟩ <;> simp [sp_rd]
    · have := h3 j (by omega)
      refine ⟨?_, ?_, ?_, ?_⟩ <;> simp [sp_rd, e, this]
  · rw [sp_rd, if_neg (by omega), sp_rd, if_neg (by omega), sp_rd, if_neg (by omega), sp_rd, if_neg (by omega)]
    exact h4 j (by omega)
set_option maxRecDepth 20000 in
theorem ml_pk {X : sp_X} {ac : sp_Ac} {gb : sp_G} {i0 : Nat} {D : sp_D} (hn : gb.1 64 11 = nI i0) (hi6 : i0 ≤ 6) (h74 : ∀ j, j < i0 → gb.1 74 (4 * j) = nI (D j).1 ∧ gb.1 74 (4 * j + 1) = nI (D j).2.1 ∧ gb.1 74 (4 * j + 2) = nI (10 * (D j).2.2.1 + (D j).2.2.2.1) ∧ gb.1 74 (4 * j + 3) = nI (D j).2.2.2.2) (hA : sp_Act X 159 6 (sp_Ri (fun x g' => x = nI i0 ∧ ∃ gg, sp_pq gb gg i0 D ∧ g' = sp_wI (sp_wI (sp_wI (sp_wI gg 64 21 (nI 0)) 77 0 (nI 0)) 77 1 (nI 0)) 77 2 (nI 0))) ac) : ∀ (m : Nat) (i : Nat) (gg : sp_G), i + m = i0 → sp_pq gb gg i D → sp_Ev X ac 159 76 [.ref 64, .null, .int (nI i)] [] gg := by
  intro m
  induction m with
  | zero =>
    intro i gg h0_ h1_
    refine sr_iload_n hA si_159_76 rfl ?_
    refine sr_aload_n hA si_159_77 rfl ?_
    refine sr_getIv (v := nI i0) hA si_159_78 sf_159_142 (by decide) (by decide) rfl (by decide) ((congrFun (h1_.1 64 (by omega)) 11).trans hn) ?_
    refine sr_icmp_geN (tgt := 152) hA si_159_81 (by decide) (by omega) (by omega) (fun c1 => ?_) (fun c1 => absurd c1 (by omega))
    refine sr_aload_n hA si_159_152 rfl ?_
    refine sr_iconst (v := nI 0) hA si_159_153 (by decide) ?_
    refine sr_putI hA si_159_154 sf_159_149 rfl rfl (by decide) (by decide) rfl rfl ?_
    refine sr_iconst (v := nI 0) hA si_159_157 (by decide) ?_
    refine sr_istore_n (ls1 := [.ref 64, .null, .int (nI 0)]) hA si_159_158 rfl (by rw [sq_l_159]; decide) rfl ?_
    refine sr_iload_n hA si_159_159 rfl ?_
    refine sr_iconst (v := nI 3) hA si_159_160 (by decide) ?_
    refine sr_icmp_geN (tgt := 177) hA si_159_161 (by decide) (by omega) (by omega) (fun c2 => absurd c2 (by omega)) (fun c2 => ?_)
    refine sr_aload_n hA si_159_164 rfl ?_
    refine sr_getR (r := 77) hA si_159_165 sf_159_51 (by decide) (by decide) rfl rfl rfl ?_
    refine sr_iload_n hA si_159_168 rfl ?_
    refine sr_iconst (v := nI 0) hA si_159_169 (by decide) ?_
    refine sr_zastN (n := 3) hA si_159_170 (by decide) rfl rfl (by omega) (by decide) (by decide) ?_
    refine sr_iincN (x := 0) (y := 1) (ls1 := [.ref 64, .null, .int (nI 1)]) hA si_159_171 rfl rfl (by rw [sq_l_159]; decide) rfl ?_
    refine sr_goto (tgt := 159) hA si_159_174 (by decide) ?_
    refine sr_iload_n hA si_159_159 rfl ?_
    refine sr_iconst (v := nI 3) hA si_159_160 (by decide) ?_
    refine sr_icmp_geN (tgt := 177) hA si_159_161 (by decide) (by omega) (by omega) (fun c3 => absurd c3 (by omega)) (fun c3 => ?_)
    refine sr_aload_n hA si_159_164 rfl ?_
    refine sr_getR (r := 77) hA si_159_165 sf_159_51 (by decide) (by decide) rfl rfl rfl ?_
    refine sr_iload_n hA si_159_168 rfl ?_
    refine sr_iconst (v := nI 0) hA si_159_169 (by decide) ?_
    refine sr_zastN (n := 3) hA si_159_170 (by decide) rfl rfl (by omega) (by decide) (by decide) ?_
    refine sr_iincN (x := 1) (y := 1) (ls1 := [.ref 64, .null, .int (nI 2)]) hA si_159_171 rfl rfl (by rw [sq_l_159]; decide) rfl ?_
    refine sr_goto (tgt := 159) hA si_159_174 (by decide) ?_
    refine sr_iload_n hA si_159_159 rfl ?_
    refine sr_iconst (v := nI 3) hA si_159_160 (by decide) ?_
    refine sr_icmp_geN (tgt := 177) hA si_159_161 (by decide) (by omega) (by omega) (fun c4 => absurd c4 (by omega)) (fun c4 => ?_)
    refine sr_aload_n hA si_159_164 rfl ?_
    refine sr_getR (r := 77) hA si_159_165 sf_159_51 (by decide) (by decide) rfl rfl rfl ?_
    refine sr_iload_n hA si_159_168 rfl ?_
    refine sr_iconst (v := nI 0) hA si_159_169 (by decide) ?_
    refine sr_zastN (n := 3) hA si_159_170 (by decide) rfl rfl (by omega) (by decide) (by decide) ?_
    refine sr_iincN (x := 2) (y := 1) (ls1 := [.ref 64, .null, .int (nI 3)]) hA si_159_171 rfl rfl (by rw [sq_l_159]; decide) rfl ?_
    refine sr_goto (tgt := 159) hA si_159_174 (by decide) ?_
    refine sr_iload_n hA si_159_159 rfl ?_
    refine sr_iconst (v := nI 3) hA si_159_160 (by decide) ?_
    refine sr_icmp_geN (tgt := 177) hA si_159_161 (by decide) (by omega) (by omega) (fun c5 => ?_) (fun c5 => absurd c5 (by omega))
    refine sr_aload_n hA si_159_177 rfl ?_
    refine sr_getIv (v := nI i0) hA si_159_178 sf_159_142 (by decide) (by decide) rfl (by decide) ((congrFun (h1_.1 64 (by omega)) 11).trans hn) ?_
    exact sr_iretR hA si_159_181 sq_r_159 ⟨rfl, gg, by rw [show i0 = i by omega]; exact h1_, rfl⟩
  | succ m ih =>
    intro i gg h0_ h1_
    refine sr_iload_n hA si_159_76 rfl ?_
    refine sr_aload_n hA si_159_77 rfl ?_
    refine sr_getIv (v := nI i0) hA si_159_78 sf_159_142 (by decide) (by decide) rfl (by decide) ((congrFun (h1_.1 64 (by omega)) 11).trans hn) ?_
    refine sr_icmp_geN (tgt := 152) hA si_159_81 (by decide) (by omega) (by omega) (fun c1 => absurd c1 (by omega)) (fun c1 => ?_)
    refine sr_aload_n hA si_159_84 rfl ?_
    refine sr_getR (r := 71) hA si_159_85 sf_159_33 (by decide) (by decide) rfl rfl rfl ?_
    refine sr_iload_n hA si_159_88 rfl ?_
    refine sr_aload_n hA si_159_89 rfl ?_
    refine sr_getR (r := 74) hA si_159_90 sf_159_42 (by decide) (by decide) rfl rfl rfl ?_
    refine sr_iconst (v := nI 4) hA si_159_93 (by decide) ?_
    refine sr_iload_n hA si_159_94 rfl ?_
    refine sr_imulN hA si_159_95 ?_
    refine sr_ialdNv (v := nI ((D i).1)) (n := 24) hA si_159_96 (by decide) rfl rfl (by omega) (by decide) ((congrFun (h1_.1 74 (by omega)) _).trans (h74 i (by omega)).1) ?_
    refine sr_iastN (n := 6) hA si_159_97 (by decide) rfl rfl (by omega) (by decide) ?_
    refine sr_aload_n hA si_159_98 rfl ?_
    refine sr_getR (r := 72) hA si_159_99 sf_159_36 (by decide) (by decide) rfl rfl rfl ?_
    refine sr_iload_n hA si_159_102 rfl ?_
    refine sr_aload_n hA si_159_103 rfl ?_
    refine sr_getR (r := 74) hA si_159_104 sf_159_42 (by decide) (by decide) rfl rfl rfl ?_
    refine sr_iconst (v := nI 4) hA si_159_107 (by decide) ?_
    refine sr_iload_n hA si_159_108 rfl ?_
    refine sr_imulN hA si_159_109 ?_
    refine sr_iconst (v := nI 1) hA si_159_110 (by decide) ?_
    refine sr_iaddN hA si_159_111 ?_
    refine sr_ialdNv (v := nI ((D i).2.1)) (n := 24) hA si_159_112 (by decide) rfl rfl (by omega) (by decide) ((congrFun (h1_.1 74 (by omega)) _).trans (h74 i (by omega)).2.1) ?_
    refine sr_iastN (n := 6) hA si_159_113 (by decide) rfl rfl (by omega) (by decide) ?_
    refine sr_aload_n hA si_159_114 rfl ?_
    refine sr_getR (r := 73) hA si_159_115 sf_159_39 (by decide) (by decide) rfl rfl rfl ?_
    refine sr_iload_n hA si_159_118 rfl ?_
    refine sr_aload_n hA si_159_119 rfl ?_
    refine sr_getR (r := 74) hA si_159_120 sf_159_42 (by decide) (by decide) rfl rfl rfl ?_
    refine sr_iconst (v := nI 4) hA si_159_123 (by decide) ?_
    refine sr_iload_n hA si_159_124 rfl ?_
    refine sr_imulN hA si_159_125 ?_
    refine sr_iconst (v := nI 3) hA si_159_126 (by decide) ?_
    refine sr_iaddN hA si_159_127 ?_
    refine sr_ialdNv (v := nI ((D i).2.2.2.2)) (n := 24) hA si_159_128 (by decide) rfl rfl (by omega) (by decide) ((congrFun (h1_.1 74 (by omega)) _).trans (h74 i (by omega)).2.2.2) ?_
    refine sr_iastN (n := 6) hA si_159_129 (by decide) rfl rfl (by omega) (by decide) ?_
    refine sr_aload_n hA si_159_130 rfl ?_
    refine sr_iconst (v := nI 0) hA si_159_131 (by decide) ?_
    refine sr_iload_n hA si_159_132 rfl ?_
    refine sr_aload_n hA si_159_133 rfl ?_
    refine sr_getR (r := 74) hA si_159_134 sf_159_42 (by decide) (by decide) rfl rfl rfl ?_
    refine sr_iconst (v := nI 4) hA si_159_137 (by decide) ?_
    refine sr_iload_n hA si_159_138 rfl ?_
    refine sr_imulN hA si_159_139 ?_
    refine sr_iconst (v := nI 2) hA si_159_140 (by decide) ?_
    refine sr_iaddN hA si_159_141 ?_
    refine sr_ialdNv (v := nI (10 * (D i).2.2.1 + (D i).2.2.2.1)) (n := 24) hA si_159_142 (by decide) rfl rfl (by omega) (by decide) ((congrFun (h1_.1 74 (by omega)) _).trans (h74 i (by omega)).2.2.1) ?_
    refine sr_VFv (c := 64) (ci := 8) (as := [.int (nI 0), .int (nI i), .int (nI (10 * (D i).2.2.1 + (D i).2.2.2.1))]) (st := []) hA si_159_143 sv_160 sk_159_145 (mc_place X (sp_wI (sp_wI (sp_wI gg 71 i (nI ((D i).1))) 72 i (nI ((D i).2.1))) 73 i (nI ((D i).2.2.2.2))) (f := 0) (i := i) (by omega) (nI (10 * (D i).2.2.1 + (D i).2.2.2.1))) (by omega) rfl (by decide) (by decide) rfl sq_c_160 rfl (Nat.le_of_ble_eq_true rfl) ?_
    refine sr_iincN (x := i) (y := 1) (ls1 := [.ref 64, .null, .int (nI (i + 1))]) hA si_159_146 rfl rfl (by rw [sq_l_159]; decide) rfl ?_
    refine sr_goto (tgt := 76) hA si_159_149 (by decide) ?_
    exact ih (i + 1) _ (by omega) h1_.step
abbrev sp_pb (gx : sp_G) (s i0 : Nat) : sp_G := sp_wI (sp_wI (sp_wI (sp_wI (sp_wI (sp_wI (sp_wI (sp_wI (sp_wI (sp_wI (sp_wI gx 64 10 (nI s)) 64 11 (nI i0)) 75 (9 * 0 + 0) (nI 0)) 75 (9 * 0 + 1) (nI 0)) 75 (9 * 0 + 2) (nI 0)) 75 (9 * 0 + 3) (nI 0)) 75 (9 * 0 + 4) (nI 0)) 75 (9 * 0 + 5) (nI 0)) 75 (9 * 0 + 6) (nI 0)) 75 (9 * 0 + 7) (nI 0)) 75 (9 * 0 + 8) (nI 0)
/-- a piano of i keys is new in the reference -/
def sp_pm (g g' : sp_G) (i : Nat) (D : sp_D) (s : Nat) : Prop := (∀ c, ¬ (c = 64 ∨ (71 ≤ c ∧ c ≤ 75) ∨ c = 77) → g'.1 c = g.1 c) ∧ g'.2 = g.2 ∧ (∀ j, ¬ (j = 10 ∨ j = 11 ∨ (15 ≤ j ∧ j ≤ 18) ∨ j = 21) → g'.1 64 j = g.1 64 j) ∧ g'.1 64 10 = nI s ∧ g'.1 64 11 = nI i ∧ g'.1 64 21 = nI 0 ∧ (∀ j, j < i → g'.1 71 j = nI (D j).1 ∧ g'.1 72 j = nI (D j).2.1 ∧ g'.1 73 j = nI (D j).2.2.2.2 ∧ g'.1 75 j = nI (10 * (D j).2.2.1 + (D j).2.2.2.1)) ∧ (∀ j, i ≤ j → j < 9 → g'.1 75 j = 0) ∧ ∀ j, j < 3 → g'.1 77 j = 0
theorem sp_pmEq {g gx gg : sp_G} {i s z : Nat} {D : sp_D} (hi : i ≤ 6) (hx : sp_fz g gx z s i D) (hq : sp_pq (sp_pb gx s i) gg i D) : sp_pm g (sp_wI (sp_wI (sp_wI (sp_wI gg 64 21 (nI 0)) 77 0 (nI 0)) 77 1 (nI 0)) 77 2 (nI 0)) i D s := by
  obtain ⟨⟨r1, r2, r3⟩, x2, x3, x4, x5⟩ := hx
  obtain ⟨q1, q2, q3, q4⟩ := hq
  have e64 : ∀ j, gg.1 64 j = (sp_pb gx s i).1 64 j := fun j => congrFun (q1 64 (by omega)) j
  refine ⟨fun c hc => funext fun j => ?_, q2.trans r3, fun j hj => ?_, ?_, ?_, rfl, fun j hj => q3 j hj, fun j hj h9 => ?_, fun j hj => ?_⟩
  · rw [sp_rd, if_neg (by omega), sp_rd, if_neg (by omega), sp_rd, if_neg (by omega), sp_rd, if_neg (by omega), q1 c (by omega)]
    rw [sp_rd, if_neg (by omega), sp_rd, if_neg (by omega), sp_rd, if_neg (by omega), sp_rd, if_neg (by omega), sp_rd, if_neg (by omega), sp_rd, if_neg (by omega), sp_rd, if_neg (by omega), sp_rd, if_neg (by omega), sp_rd, if_neg (by omega), sp_rd, if_neg (by omega), sp_rd, if_neg (by omega), r1 c (by omega) (by omega)]
  · rw [sp_rd, if_neg (by omega), sp_rd, if_neg (by omega), sp_rd, if_neg (by omega), sp_rd, if_neg (by omega), e64]
    rw [sp_rd, if_neg (by omega), sp_rd, if_neg (by omega), sp_rd, if_neg (by omega), sp_rd, if_neg (by omega), sp_rd, if_neg (by omega), sp_rd, if_neg (by omega), sp_rd, if_neg (by omega), sp_rd, if_neg (by omega), sp_rd, if_neg (by omega), sp_rd, if_neg (by omega), sp_rd, if_neg (by omega), r2 j (by omega)]
  · exact (e64 10).trans rfl
  · exact (e64 11).trans rfl
  · show gg.1 75 j = 0
    rw [q4 j hj]
    have h : j = 0 ∨ j = 1 ∨ j = 2 ∨ j = 3 ∨ j = 4 ∨ j = 5 ∨ j = 6 ∨ j = 7 ∨ j = 8 := by omega
    rcases h with rfl | rfl | rfl | rfl | rfl | rfl | rfl | rfl | rfl <;> rfl
  · have h : j = 0 ∨ j = 1 ∨ j = 2 := by omega
    rcases h with rfl | rfl | rfl <;> rfl
theorem sp_Act.mo {X : sp_X} {N d : Nat} {R1 R2 : sp_Rt} {a : sp_Ac} (h : sp_Act X N d R2 a) (hr : ∀ r g, R1 r g → R2 r g) : sp_Act X N d R1 a := by
  obtain ⟨h1, h2, h3, h4, h5, h6, h7, h8, h9, h10, h11, h12, h13, h14⟩ := h
  exact ⟨h1, h2, h3, h4, h5, h6, h7, h8, h9, h10, h11, fun pc v g H locs sl q1 q2 q3 => h12 pc v g H locs sl q1 q2 (hr _ _ q3), fun pc v g H locs sl q1 q2 q3 => h13 pc v g H locs sl q1 q2 (hr _ _ q3), fun pc g H locs sl q1 q2 q3 => h14 pc g H locs sl q1 q2 (hr _ _ q3)⟩
set_option maxRecDepth 20000 in
theorem mc_piano_e (X : sp_X) (g : sp_G) {t : Nat} (ht : t < 4) {z : Nat} (hz : g.1 69 t = nI z) (hzb : z ≤ 60) {i0 s : Nat} {D : sp_D} (hi6 : i0 ≤ 6) (hC : sp_Ct X 4 153 [.ref 64, .int (nI t)] g (sp_Ri (fun x g' => x = -9 ∧ sp_fz g g' z s i0 D))) : sp_Ct X 6 159 [.ref 64, .int (nI t)] g (sp_Ri (fun x g' => x = nI i0 ∧ sp_pm g g' i0 D s)) := by
  refine sp_walkN (n := 3) sq_p_159 sq_l_159 (Nat.le_of_ble_eq_true rfl) (fun ac hA => ?_)
  show sp_Ev X ac 159 0 [.ref 64, .int (nI t), .null] [] g
  refine sr_iload_n hA si_159_0 rfl ?_
  refine sr_SFi (as := [.int (nI t)]) (st := []) hA si_159_1 ss_150 sk_159_108 (mc_isText1 X g (by omega)) (by omega) rfl rfl (Nat.le_of_ble_eq_true rfl) ?_
  refine sr_if_neN (tgt := 9) hA si_159_4 (by decide) (by omega) (fun c1 => ?_) (fun c1 => absurd c1 (by omega))
  refine sr_aload_n hA si_159_9 rfl ?_
  refine sr_getR (r := 69) hA si_159_10 sf_159_26 (by decide) (by decide) rfl rfl rfl ?_
  refine sr_iload_n hA si_159_13 rfl ?_
  refine sr_ialdNv (v := nI z) (n := 4) hA si_159_14 (by decide) rfl rfl (by omega) (by decide) hz ?_
  refine sr_if_geN (tgt := 24) hA si_159_15 (by decide) (by omega) ?_
  refine sr_aload_n hA si_159_24 rfl ?_
  refine sr_iload_n hA si_159_25 rfl ?_
  refine sr_VRi (c := 64) (ci := 8) (as := [.int (nI t)]) (st := []) hA si_159_26 sv_153 sk_159_139 hC (by omega) rfl (by decide) (by decide) rfl sq_c_153 rfl (Nat.le_of_ble_eq_true rfl) (fun xv gx qx => ?_)
  obtain ⟨exv, qx⟩ := qx
  subst exv
  refine sr_bipush (v := (-9)) hA si_159_29 (by decide) ?_
  refine sr_icmp_eq (tgt := 37) hA si_159_31 (by decide) (fun c3 => ?_) (fun c3 => absurd rfl c3)
  refine sr_aload_n hA si_159_37 rfl ?_
  refine sr_aload_n hA si_159_38 rfl ?_
  refine sr_getIv (v := nI s) hA si_159_39 sf_159_124 (by decide) (by decide) rfl (by decide) qx.2.2.1 ?_
  refine sr_putI hA si_159_42 sf_159_76 rfl rfl (by decide) (by decide) rfl rfl ?_
  refine sr_aload_n hA si_159_45 rfl ?_
  refine sr_aload_n hA si_159_46 rfl ?_
  refine sr_getIv (v := nI i0) hA si_159_47 sf_159_130 (by decide) (by decide) rfl (by decide) qx.2.2.2.1 ?_
  refine sr_putI hA si_159_50 sf_159_142 rfl rfl (by decide) (by decide) rfl rfl ?_
  refine sr_iconst (v := nI 0) hA si_159_53 (by decide) ?_
  refine sr_istore_n (ls1 := [.ref 64, .int (nI t), .int (nI 0)]) hA si_159_54 rfl (by rw [sq_l_159]; decide) rfl ?_
  refine sr_iload_n hA si_159_55 rfl ?_
  refine sr_bipush (v := nI 9) hA si_159_56 (by decide) ?_
  refine sr_icmp_geN (tgt := 74) hA si_159_58 (by decide) (by omega) (by omega) (fun c4 => absurd c4 (by omega)) (fun c4 => ?_)
  refine sr_aload_n hA si_159_61 rfl ?_
  refine sr_iconst (v := nI 0) hA si_159_62 (by decide) ?_
  refine sr_iload_n hA si_159_63 rfl ?_
  refine sr_iconst (v := nI 0) hA si_159_64 (by decide) ?_
  refine sr_VFv (c := 64) (ci := 8) (as := [.int (nI 0), .int (nI 0), .int (nI 0)]) (st := []) hA si_159_65 sv_160 sk_159_145 (mc_place X (sp_wI (sp_wI gx 64 10 (nI s)) 64 11 (nI i0)) (f := 0) (i := 0) (by omega) (nI 0)) (by omega) rfl (by decide) (by decide) rfl sq_c_160 rfl (Nat.le_of_ble_eq_true rfl) ?_
  refine sr_iincN (x := 0) (y := 1) (ls1 := [.ref 64, .int (nI t), .int (nI 1)]) hA si_159_68 rfl rfl (by rw [sq_l_159]; decide) rfl ?_
  refine sr_goto (tgt := 55) hA si_159_71 (by decide) ?_
  refine sr_iload_n hA si_159_55 rfl ?_
  refine sr_bipush (v := nI 9) hA si_159_56 (by decide) ?_
  refine sr_icmp_geN (tgt := 74) hA si_159_58 (by decide) (by omega) (by omega) (fun c5 => absurd c5 (by omega)) (fun c5 => ?_)
  refine sr_aload_n hA si_159_61 rfl ?_
  refine sr_iconst (v := nI 0) hA si_159_62 (by decide) ?_
  refine sr_iload_n hA si_159_63 rfl ?_
  refine sr_iconst (v := nI 0) hA si_159_64 (by decide) ?_
  refine sr_VFv (c := 64) (ci := 8) (as := [.int (nI 0), .int (nI 1), .int (nI 0)]) (st := []) hA si_159_65 sv_160 sk_159_145 (mc_place X (sp_wI (sp_wI (sp_wI gx 64 10 (nI s)) 64 11 (nI i0)) 75 (9 * 0 + 0) (nI 0)) (f := 0) (i := 1) (by omega) (nI 0)) (by omega) rfl (by decide) (by decide) rfl sq_c_160 rfl (Nat.le_of_ble_eq_true rfl) ?_
  refine sr_iincN (x := 1) (y := 1) (ls1 := [.ref 64, .int (nI t), .int (nI 2)]) hA si_159_68 rfl rfl (by rw [sq_l_159]; decide) rfl ?_
  refine sr_goto (tgt := 55) hA si_159_71 (by decide) ?_
  refine sr_iload_n hA si_159_55 rfl ?_
  refine sr_bipush (v := nI 9) hA si_159_56 (by decide) ?_
  refine sr_icmp_geN (tgt := 74) hA si_159_58 (by decide) (by omega) (by omega) (fun c6 => absurd c6 (by omega)) (fun c6 => ?_)
  refine sr_aload_n hA si_159_61 rfl ?_
  refine sr_iconst (v := nI 0) hA si_159_62 (by decide) ?_
  refine sr_iload_n hA si_159_63 rfl ?_
  refine sr_iconst (v := nI 0) hA si_159_64 (by decide) ?_
  refine sr_VFv (c := 64) (ci := 8) (as := [.int (nI 0), .int (nI 2), .int (nI 0)]) (st := []) hA si_159_65 sv_160 sk_159_145 (mc_place X (sp_wI (sp_wI (sp_wI (sp_wI gx 64 10 (nI s)) 64 11 (nI i0)) 75 (9 * 0 + 0) (nI 0)) 75 (9 * 0 + 1) (nI 0)) (f := 0) (i := 2) (by omega) (nI 0)) (by omega) rfl (by decide) (by decide) rfl sq_c_160 rfl (Nat.le_of_ble_eq_true rfl) ?_
  refine sr_iincN (x := 2) (y := 1) (ls1 := [.ref 64, .int (nI t), .int (nI 3)]) hA si_159_68 rfl rfl (by rw [sq_l_159]; decide) rfl ?_
  refine sr_goto (tgt := 55) hA si_159_71 (by decide) ?_
  refine sr_iload_n hA si_159_55 rfl ?_
  refine sr_bipush (v := nI 9) hA si_159_56 (by decide) ?_
  refine sr_icmp_geN (tgt := 74) hA si_159_58 (by decide) (by omega) (by omega) (fun c7 => absurd c7 (by omega)) (fun c7 => ?_)
  refine sr_aload_n hA si_159_61 rfl ?_
  refine sr_iconst (v := nI 0) hA si_159_62 (by decide) ?_
  refine sr_iload_n hA si_159_63 rfl ?_
  refine sr_iconst (v := nI 0) hA si_159_64 (by decide) ?_
  refine sr_VFv (c := 64) (ci := 8) (as := [.int (nI 0), .int (nI 3), .int (nI 0)]) (st := []) hA si_159_65 sv_160 sk_159_145 (mc_place X (sp_wI (sp_wI (sp_wI (sp_wI (sp_wI gx 64 10 (nI s)) 64 11 (nI i0)) 75 (9 * 0 + 0) (nI 0)) 75 (9 * 0 + 1) (nI 0)) 75 (9 * 0 + 2) (nI 0)) (f := 0) (i := 3) (by omega) (nI 0)) (by omega) rfl (by decide) (by decide) rfl sq_c_160 rfl (Nat.le_of_ble_eq_true rfl) ?_
  refine sr_iincN (x := 3) (y := 1) (ls1 := [.ref 64, .int (nI t), .int (nI 4)]) hA si_159_68 rfl rfl (by rw [sq_l_159]; decide) rfl ?_
  refine sr_goto (tgt := 55) hA si_159_71 (by decide) ?_
  refine sr_iload_n hA si_159_55 rfl ?_
  refine sr_bipush (v := nI 9) hA si_159_56 (by decide) ?_
  refine sr_icmp_geN (tgt := 74) hA si_159_58 (by decide) (by omega) (by omega) (fun c8 => absurd c8 (by omega)) (fun c8 => ?_)
  refine sr_aload_n hA si_159_61 rfl ?_
  refine sr_iconst (v := nI 0) hA si_159_62 (by decide) ?_
  refine sr_iload_n hA si_159_63 rfl ?_
  refine sr_iconst (v := nI 0) hA si_159_64 (by decide) ?_
  refine sr_VFv (c := 64) (ci := 8) (as := [.int (nI 0), .int (nI 4), .int (nI 0)]) (st := []) hA si_159_65 sv_160 sk_159_145 (mc_place X (sp_wI (sp_wI (sp_wI (sp_wI (sp_wI (sp_wI gx 64 10 (nI s)) 64 11 (nI i0)) 75 (9 * 0 + 0) (nI 0)) 75 (9 * 0 + 1) (nI 0)) 75 (9 * 0 + 2) (nI 0)) 75 (9 * 0 + 3) (nI 0)) (f := 0) (i := 4) (by omega) (nI 0)) (by omega) rfl (by decide) (by decide) rfl sq_c_160 rfl (Nat.le_of_ble_eq_true rfl) ?_
  refine sr_iincN (x := 4) (y := 1) (ls1 := [.ref 64, .int (nI t), .int (nI 5)]) hA si_159_68 rfl rfl (by rw [sq_l_159]; decide) rfl ?_
  refine sr_goto (tgt := 55) hA si_159_71 (by decide) ?_
  refine sr_iload_n hA si_159_55 rfl ?_
  refine sr_bipush (v := nI 9) hA si_159_56 (by decide) ?_
  refine sr_icmp_geN (tgt := 74) hA si_159_58 (by decide) (by omega) (by omega) (fun c9 => absurd c9 (by omega)) (fun c9 => ?_)
  refine sr_aload_n hA si_159_61 rfl ?_
  refine sr_iconst (v := nI 0) hA si_159_62 (by decide) ?_
  refine sr_iload_n hA si_159_63 rfl ?_
  refine sr_iconst (v := nI 0) hA si_159_64 (by decide) ?_
  refine sr_VFv (c := 64) (ci := 8) (as := [.int (nI 0), .int (nI 5), .int (nI 0)]) (st := []) hA si_159_65 sv_160 sk_159_145 (mc_place X (sp_wI (sp_wI (sp_wI (sp_wI (sp_wI (sp_wI (sp_wI gx 64 10 (nI s)) 64 11 (nI i0)) 75 (9 * 0 + 0) (nI 0)) 75 (9 * 0 + 1) (nI 0)) 75 (9 * 0 + 2) (nI 0)) 75 (9 * 0 + 3) (nI 0)) 75 (9 * 0 + 4) (nI 0)) (f := 0) (i := 5) (by omega) (nI 0)) (by omega) rfl (by decide) (by decide) rfl sq_c_160 rfl (Nat.le_of_ble_eq_true rfl) ?_
  refine sr_iincN (x := 5) (y := 1) (ls1 := [.ref 64, .int (nI t), .int (nI 6)]) hA si_159_68 rfl rfl (by rw [sq_l_159]; decide) rfl ?_
  refine sr_goto (tgt := 55) hA si_159_71 (by decide) ?_
  refine sr_iload_n hA si_159_55 rfl ?_
  refine sr_bipush (v := nI 9) hA si_159_56 (by decide) ?_
  refine sr_icmp_geN (tgt := 74) hA si_159_58 (by decide) (by omega) (by omega) (fun c10 => absurd c10 (by omega)) (fun c10 => ?_)
  refine sr_aload_n hA si_159_61 rfl ?_
  refine sr_iconst (v := nI 0) hA si_159_62 (by decide) ?_
  refine sr_iload_n hA si_159_63 rfl ?_
  refine sr_iconst (v := nI 0) hA si_159_64 (by decide) ?_
  refine sr_VFv (c := 64) (ci := 8) (as := [.int (nI 0), .int (nI 6), .int (nI 0)]) (st := []) hA si_159_65 sv_160 sk_159_145 (mc_place X (sp_wI (sp_wI (sp_wI (sp_wI (sp_wI (sp_wI (sp_wI (sp_wI gx 64 10 (nI s)) 64 11 (nI i0)) 75 (9 * 0 + 0) (nI 0)) 75 (9 * 0 + 1) (nI 0)) 75 (9 * 0 + 2) (nI 0)) 75 (9 * 0 + 3) (nI 0)) 75 (9 * 0 + 4) (nI 0)) 75 (9 * 0 + 5) (nI 0)) (f := 0) (i := 6) (by omega) (nI 0)) (by omega) rfl (by decide) (by decide) rfl sq_c_160 rfl (Nat.le_of_ble_eq_true rfl) ?_
  refine sr_iincN (x := 6) (y := 1) (ls1 := [.ref 64, .int (nI t), .int (nI 7)]) hA si_159_68 rfl rfl (by rw [sq_l_159]; decide) rfl ?_
  refine sr_goto (tgt := 55) hA si_159_71 (by decide) ?_
  refine sr_iload_n hA si_159_55 rfl ?_
  refine sr_bipush (v := nI 9) hA si_159_56 (by decide) ?_
  refine sr_icmp_geN (tgt := 74) hA si_159_58 (by decide) (by omega) (by omega) (fun c11 => absurd c11 (by omega)) (fun c11 => ?_)
  refine sr_aload_n hA si_159_61 rfl ?_
  refine sr_iconst (v := nI 0) hA si_159_62 (by decide) ?_
  refine sr_iload_n hA si_159_63 rfl ?_
  refine sr_iconst (v := nI 0) hA si_159_64 (by decide) ?_
  refine sr_VFv (c := 64) (ci := 8) (as := [.int (nI 0), .int (nI 7), .int (nI 0)]) (st := []) hA si_159_65 sv_160 sk_159_145 (mc_place X (sp_wI (sp_wI (sp_wI (sp_wI (sp_wI (sp_wI (sp_wI (sp_wI (sp_wI gx 64 10 (nI s)) 64 11 (nI i0)) 75 (9 * 0 + 0) (nI 0)) 75 (9 * 0 + 1) (nI 0)) 75 (9 * 0 + 2) (nI 0)) 75 (9 * 0 + 3) (nI 0)) 75 (9 * 0 + 4) (nI 0)) 75 (9 * 0 + 5) (nI 0)) 75 (9 * 0 + 6) (nI 0)) (f := 0) (i := 7) (by omega) (nI 0)) (by omega) rfl (by decide) (by decide) rfl sq_c_160 rfl (Nat.le_of_ble_eq_true rfl) ?_
  refine sr_iincN (x := 7) (y := 1) (ls1 := [.ref 64, .int (nI t), .int (nI 8)]) hA si_159_68 rfl rfl (by rw [sq_l_159]; decide) rfl ?_
  refine sr_goto (tgt := 55) hA si_159_71 (by decide) ?_
  refine sr_iload_n hA si_159_55 rfl ?_
  refine sr_bipush (v := nI 9) hA si_159_56 (by decide) ?_
  refine sr_icmp_geN (tgt := 74) hA si_159_58 (by decide) (by omega) (by omega) (fun c12 => absurd c12 (by omega)) (fun c12 => ?_)
  refine sr_aload_n hA si_159_61 rfl ?_
  refine sr_iconst (v := nI 0) hA si_159_62 (by decide) ?_
  refine sr_iload_n hA si_159_63 rfl ?_
  refine sr_iconst (v := nI 0) hA si_159_64 (by decide) ?_
  refine sr_VFv (c := 64) (ci := 8) (as := [.int (nI 0), .int (nI 8), .int (nI 0)]) (st := []) hA si_159_65 sv_160 sk_159_145 (mc_place X (sp_wI (sp_wI (sp_wI (sp_wI (sp_wI (sp_wI (sp_wI (sp_wI (sp_wI (sp_wI gx 64 10 (nI s)) 64 11 (nI i0)) 75 (9 * 0 + 0) (nI 0)) 75 (9 * 0 + 1) (nI 0)) 75 (9 * 0 + 2) (nI 0)) 75 (9 * 0 + 3) (nI 0)) 75 (9 * 0 + 4) (nI 0)) 75 (9 * 0 + 5) (nI 0)) 75 (9 * 0 + 6) (nI 0)) 75 (9 * 0 + 7) (nI 0)) (f := 0) (i := 8) (by omega) (nI 0)) (by omega) rfl (by decide) (by decide) rfl sq_c_160 rfl (Nat.le_of_ble_eq_true rfl) ?_
  refine sr_iincN (x := 8) (y := 1) (ls1 := [.ref 64, .int (nI t), .int (nI 9)]) hA si_159_68 rfl rfl (by rw [sq_l_159]; decide) rfl ?_
  refine sr_goto (tgt := 55) hA si_159_71 (by decide) ?_
  refine sr_iload_n hA si_159_55 rfl ?_
  refine sr_bipush (v := nI 9) hA si_159_56 (by decide) ?_
  refine sr_icmp_geN (tgt := 74) hA si_159_58 (by decide) (by omega) (by omega) (fun c13 => ?_) (fun c13 => absurd c13 (by omega))
  refine sr_iconst (v := nI 0) hA si_159_74 (by decide) ?_
  refine sr_istore_n (ls1 := [.ref 64, .int (nI t), .int (nI 0)]) hA si_159_75 rfl (by rw [sq_l_159]; decide) rfl ?_
  refine sr_fg (ls1 := [.ref 64, .null, .int (nI 0)]) ⟨Or.inr rfl, Or.inl rfl, Or.inr rfl, trivial⟩ ?_
  exact ml_pk (gb := sp_pb gx s i0) rfl hi6 qx.2.2.2.2 (hA.mo (fun r g2 q => by obtain ⟨v, e1, e2, gg, e3, e4⟩ := q; exact ⟨v, e1, e2, by rw [e4]; exact sp_pmEq hi6 qx e3⟩)) i0 0 _ (by omega) ⟨fun _ _ => rfl, rfl, fun j hj => absurd hj (by omega), fun _ _ => rfl⟩
/-! the pairs -/
theorem sp_cl6_far {c j q : Nat} (h : sp_cl6 c j = q) (hq : q = 1 ∨ q = 2 ∨ q = 3) : ¬ ((18 ≤ c ∧ c ≤ 21) ∨ c = 41 ∨ c = 42 ∨ (47 ≤ c ∧ c ≤ 62)) ∧ ¬ ((71 ≤ c ∧ c ≤ 75) ∨ c = 77) ∧ (c = 64 → j = 0 ∨ j = 2) := by
  refine ⟨fun hc => ?_, fun hc => ?_, fun e => ?_⟩
  · have hc : c = 18 ∨ c = 19 ∨ c = 20 ∨ c = 21 ∨ c = 41 ∨ c = 42 ∨ c = 47 ∨ c = 48 ∨ c = 49 ∨ c = 50 ∨ c = 51 ∨ c = 52 ∨ c = 53 ∨ c = 54 ∨ c = 55 ∨ c = 56 ∨ c = 57 ∨ c = 58 ∨ c = 59 ∨ c = 60 ∨ c = 61 ∨ c = 62 := by omega
    rcases hc with rfl | rfl | rfl | rfl | rfl | rfl | rfl | rfl | rfl | rfl | rfl | rfl | rfl | rfl | rfl | rfl | rfl | rfl | rfl | rfl | rfl | rfl
    all_goals first | (simp [sp_cl6] at h; omega) | (simp [sp_cl6] at h; split at h <;> omega)
  · have hc : c = 71 ∨ c = 72 ∨ c = 73 ∨ c = 74 ∨ c = 75 ∨ c = 77 := by omega
    rcases hc with rfl | rfl | rfl | rfl | rfl | rfl
    all_goals first | (simp [sp_cl6] at h; omega) | (simp [sp_cl6] at h; split at h <;> omega)
  · subst e
    by_cases h1 : j = 0 ∨ j = 2
    · exact h1
    · have e : sp_cl6 64 j = if j = 0 ∨ j = 2 then 1 else if j = 11 then 4 else if j = 10 ∨ j = 21 then 5 else 0 := rfl
      rw [e, if_neg h1] at h
      split at h
      · omega
      · split at h <;> omega
theorem sp_cl6_ra {c j q : Nat} (h : sp_cl6 c j = q) (hq : q ≠ 0) : ¬ (56 ≤ c ∧ c ≤ 62) ∧ c ≠ 74 ∧ (c = 64 → ¬ (15 ≤ j ∧ j ≤ 18)) := by
  refine ⟨fun hc => ?_, fun e => ?_, fun e hj => ?_⟩
  · have hc : c = 56 ∨ c = 57 ∨ c = 58 ∨ c = 59 ∨ c = 60 ∨ c = 61 ∨ c = 62 := by omega
    rcases hc with rfl | rfl | rfl | rfl | rfl | rfl | rfl
    all_goals first | (simp [sp_cl6] at h; omega) | (simp [sp_cl6] at h; split at h <;> omega)
  · subst e
    exact hq h.symm
  · subst e
    have e : sp_cl6 64 j = if j = 0 ∨ j = 2 then 1 else if j = 11 then 4 else if j = 10 ∨ j = 21 then 5 else 0 := rfl
    rw [e, if_neg (by omega), if_neg (by omega), if_neg (by omega)] at h
    exact hq h.symm
theorem sp_Rel.ra {g g1 : sp_G} (h : sp_Rel g) (k : sp_ra g g1) : sp_Rel g1 := h.K (fun p hp c j hc => by rw [k.1 c (sp_cl6_ra hc hp).1]) k.2
theorem sp_Rel.rb {g g1 : sp_G} (h : sp_Rel g) (k : sp_rb g g1) : sp_Rel g1 := h.K (fun p hp c j hc => by
  obtain ⟨-, h2, h3⟩ := sp_cl6_ra hc hp
  by_cases e : c = 64
  · subst e; exact k.2.1 j (h3 rfl)
  · rw [k.1 c e h2]) k.2.2
theorem sp_TM.ra {t z : Nat} {f : Nat → Int32} {g g1 : sp_G} (h : sp_TM t z f g) (k : sp_ra g g1) : sp_TM t z f g1 := by
  obtain ⟨h1, h2, h3, h4⟩ := h
  exact ⟨h1, h2, by rw [k.1 69 (by omega)]; exact h3, fun i hi => by rw [k.1 70 (by omega)]; exact h4 i hi⟩
theorem sp_Rel.TX {g : sp_G} (h : sp_Rel g) {t z : Nat} (ht : t < 4) (hz : z ≤ 60) (h1 : g.1 16 t = nI z) : sp_TX t z (fun i => g.1 70 (60 * t + i)) g := ⟨ht, hz, h1, fun i hi => (h.2.2.1 t ht).2.2 i (by omega)⟩
theorem sp_Rel.TM {g : sp_G} {t z : Nat} (ht : t < 4) (hz : z ≤ 60) (h1 : g.1 69 t = nI z) : sp_TM t z (fun i => g.1 70 (60 * t + i)) g := ⟨ht, hz, h1, fun i hi => rfl⟩
/-- what the readers say of a text, both alike -/
theorem sp_both (X : sp_X) {t z : Nat} {f : Nat → Int32} (hz60 : z ≤ 60) : (∃ e, e < 2 ^ 31 ∧ (∀ g, sp_TX t z f g → sp_Ct X 4 30 [.ref 56, .ref 10, .int (nI t)] g (sp_Ri (fun x g' => x = nI e ∧ sp_ra g g'))) ∧ ∀ g, sp_TM t z f g → sp_Ct X 4 153 [.ref 64, .int (nI t)] g (sp_Ri (fun x g' => x = nI e ∧ sp_rb g g'))) ∨
    ∃ p i0 D s, s ≤ 9 ∧ sp_gks f z p i0 D ∧ (∀ g, sp_TX t z f g → sp_Ct X 4 30 [.ref 56, .ref 10, .int (nI t)] g (sp_Ri (fun x g' => x = -9 ∧ sp_rx2 g g' i0 D s))) ∧ ∀ g, sp_TM t z f g → sp_Ct X 4 153 [.ref 64, .int (nI t)] g (sp_Ri (fun x g' => x = -9 ∧ sp_fz g g' z s i0 D)) := by
  rcases sp_hd_or f z with ⟨b, s, rfl, h2, h3, h4, h5⟩ | ⟨e, he⟩
  rotate_left
  · have heb : e ≤ 60 := by
      have := sp_bl0_in (f := f) (z := z) (p := 0) (by omega)
      rcases he with ⟨h1, rfl⟩ | ⟨h1, h2, rfl⟩ | ⟨h1, h2, rfl, h3⟩ <;> omega
    exact Or.inl ⟨e, by omega, fun g hT => xc_readF X g hT he, fun g hT => mc_faultF X g hT he⟩
  obtain ⟨i0, D, hg, h | ⟨h6, h7⟩ | ⟨h6, h7, e, h8⟩⟩ := sp_txt_or f z (sp_bl0 f z 0 + 2) (by omega)
  · exact Or.inr ⟨_, i0, D, s, h5.1, hg, fun g hT => xc_readKS X g hT rfl h2 h3 h4 h5 hg h, fun g hT => mc_faultKS X g hT rfl h2 h3 h4 h5 hg h⟩
  · refine Or.inl ⟨_, (show sp_ps f z (sp_bl0 f z 0 + 2) i0 < 2 ^ 31 by omega), fun g hT => (xc_readK6 X g hT rfl h2 h3 h4 h5 hg h6 h7).mono (fun r g' q => ?_), fun g hT => mc_faultK6 X g hT rfl h2 h3 h4 h5 hg h6 h7⟩
    obtain ⟨v, q1, q2, q3⟩ := q
    exact ⟨v, q1, q2, q3.1⟩
  · have heb : e < 2 ^ 31 := by
      rcases h8 with ⟨rfl, -⟩ | ⟨-, j, hj, rfl, -, -⟩ <;> omega
    refine Or.inl ⟨e, heb, fun g hT => (xc_readKB X g hT rfl h2 h3 h4 h5 hg h6 h7 heb h8).mono (fun r g' q => ?_), fun g hT => mc_faultKB X g hT rfl h2 h3 h4 h5 hg h6 h7 heb h8⟩
    obtain ⟨v, q1, q2, q3⟩ := q
    exact ⟨v, q1, q2, q3.1⟩
theorem sp_rx2.ra' {g g' : sp_G} {i s : Nat} {D : sp_D} (h : sp_rx2 g g' i D s) : sp_ra g g' := h.1
theorem pr_fault {X : sp_X} {g : sp_G} (h : sp_Rel g) (t : Int32) : sp_Pi X 29 152 [.int t] g := by
  rcases sp_cls t with ht | ⟨t, htb, rfl⟩
  · exact sp_pF (xc_fault_a X g ht) (mc_fault_a X g ht) (by omega) (by omega) h
  by_cases ht : t < 4
  rotate_left
  · exact sp_pF (xc_fault_b X g (by omega) htb) (mc_fault_b X g (by omega) htb) (by omega) (by omega) h
  rcases sp_txtsz h ht with ⟨z1, z2⟩ | ⟨z, zb, z1, z2⟩
  · exact sp_pF (xc_fault_c X g ht z1) (mc_fault_c X (sp_rx g 1) ht z2) (by omega) (by omega) (h.ref (by omega))
  have hTX := h.TX ht zb z1
  have hTM := sp_Rel.TM ht zb z2
  rcases sp_both X (t := t) (f := fun i => g.1 70 (60 * t + i)) zb with ⟨e, heb, hx, hm⟩ | ⟨p, i0, D, s, hs, hg, hx, hm⟩
  · refine ⟨9, _, by omega, xc_fault_e X g ht z1 zb (hx g hTX), fun v g1 q => ?_⟩
    obtain ⟨rfl, q⟩ := q
    refine ⟨9, _, by omega, mc_fault_e X g1 ht (by rw [q.1 69 (by omega)]; exact z2) zb (hm g1 (hTM.ra q)), fun v g2 q2 => ?_⟩
    obtain ⟨rfl, q2⟩ := q2
    exact ⟨rfl, (h.ra q).rb q2⟩
  · refine ⟨9, _, by omega, xc_fault_e X g ht z1 zb (hx g hTX), fun v g1 q => ?_⟩
    obtain ⟨rfl, q⟩ := q
    refine ⟨9, _, by omega, mc_fault_e X g1 ht (by rw [q.1.1 69 (by omega)]; exact z2) zb (hm g1 (hTM.ra q.1)), fun v g2 q2 => ?_⟩
    obtain ⟨rfl, q2⟩ := q2
    exact ⟨rfl, (h.ra q.1).rb q2.1⟩
theorem sp_Rel.pn {g g1 g2 : sp_G} {i s z p : Nat} {f : Nat → Int32} {D : sp_D} (h : sp_Rel g) (hs : s ≤ 9) (hg : sp_gks f z p i D) (hx : sp_px g g1 i D s) (hm : sp_pm g1 g2 i D s) : sp_Rel g2 := by
  obtain ⟨hF, hR, hT, -⟩ := id h
  obtain ⟨x1, x2, x3, x4, x5, x6, x7, x8, x9, x10, x11, x12, x13, x14⟩ := hx
  obtain ⟨m1, m2, m3, m4, m5, m6, m7, m8, m9⟩ := hm
  obtain ⟨hi6, hgk⟩ := hg
  have kk : ∀ q, q = 1 ∨ q = 2 ∨ q = 3 → sp_kp q g g2 := fun q hq c j hcj => by
    obtain ⟨c1, c2, c3⟩ := sp_cl6_far hcj hq
    by_cases e : c = 64
    · subst e
      rw [m3 j (by have := c3 rfl; omega), x1 64 (by omega)]
    · rw [m1 c (by omega), x1 c c1]
  have o : ∀ c, c < 63 → g2.1 c = g1.1 c := fun c hc => m1 c (by omega)
  have e42 : ∀ j, j < 6 → g2.1 42 j = g2.1 75 j ∧ ∃ b, b ≤ 99 ∧ g2.1 75 j = nI b := fun j hj => by
    rw [o 42 (by omega)]
    by_cases hji : j < i
    · obtain ⟨a1, a2, a3, a4⟩ := x4 j hji
      obtain ⟨b1, b2, b3, b4⟩ := m7 j hji
      obtain ⟨g1', g2', g3', g4', g5', g6', g7'⟩ := (hgk j hji).2
      have l1 := g5'.1
      have l2 := g6'.1
      exact ⟨a4.trans b4.symm, _, (show 10 * (D j).2.2.1 + (D j).2.2.2.1 ≤ 99 by omega), b4⟩
    · rw [x5 j (by omega) hj, m8 j (by omega) (by omega)]
      exact ⟨rfl, 0, by omega, rfl⟩
  have e41 : ∀ j, 6 ≤ j → j < 9 → g2.1 41 (j - 5) = 0 ∧ g2.1 75 j = 0 := fun j h1 h2 => by
    rw [o 41 (by omega)]
    refine ⟨?_, m8 j (by omega) h2⟩
    have h3 : j = 6 ∨ j = 7 ∨ j = 8 := by omega
    rcases h3 with rfl | rfl | rfl
    · exact x6
    · exact x7
    · exact x8
  have esv : ∀ j, j < 9 → sp_sv g2 41 42 j = g2.1 75 j := fun j hj => by
    unfold sp_sv
    by_cases h6 : j < 6
    · rw [if_pos h6]; exact (e42 j h6).1
    · rw [if_neg h6, (e41 j (by omega) hj).1, (e41 j (by omega) hj).2]
  have e48 : ∀ j, j < 9 → g2.1 48 j = g2.1 75 j := fun j hj => by
    rw [o 48 (by omega), x11 j hj, ← esv j hj]
    unfold sp_sv
    rw [o 41 (by omega), o 42 (by omega)]
  refine ⟨sp_RFk h (kk 1 (by omega)) (m2.trans x2), hR.kp (kk 2 (by omega)), hT.kp (kk 3 (by omega)), i, 0, ⟨hi6, by rw [o 18 (by omega)]; exact x3, m5, fun j hj => ?_⟩, ⟨by omega, by rw [o 47 (by omega)]; exact x9, m6, ⟨s, hs, by rw [o 47 (by omega)]; exact x10, m4⟩, esv, fun j hj => absurd hj (by omega), fun j hj => ?_, fun j hj => ?_⟩, fun k hk => ⟨?_, Or.inl (m9 k hk)⟩⟩
  · obtain ⟨a1, a2, a3, a4⟩ := x4 j hj
    obtain ⟨b1, b2, b3, b4⟩ := m7 j hj
    obtain ⟨g1', g2', g3', g4', g5', g6', g7'⟩ := (hgk j hj).2
    rw [o 19 (by omega), o 20 (by omega), o 21 (by omega)]
    exact ⟨⟨a1.trans b1.symm, _, (show (D j).1 ≤ 5 by omega), b1⟩, ⟨a2.trans b2.symm, _, g4'.1, b2⟩, ⟨a3.trans b3.symm, _, g7'.1, b3⟩⟩
  · rw [show 9 * 0 + j = j by omega]
    exact e48 j hj
  · obtain rfl : j = 0 := by omega
    refine sp_ok.congr (v := g2.1 75) ⟨fun a ha => ?_, ?_, fun a h1 h2 => m8 a h1 (by omega)⟩ (fun a ha => ?_)
    · obtain ⟨b, b1, b2⟩ := (e42 a ha).2
      exact ⟨b, by omega, b2⟩
    · exact ⟨0, by omega, (e41 6 (by omega) (by omega)).2⟩
    · show g2.1 48 (9 * 0 + a) = _
      rw [show 9 * 0 + a = a by omega]
      exact e48 a ha
  · have hk3 : k = 0 ∨ k = 1 ∨ k = 2 := by omega
    rw [m9 k hk]
    rcases hk3 with rfl | rfl | rfl
    · show g2.1 50 3 = 0
      rw [o 50 (by omega)]; exact x12
    · show g2.1 51 3 = 0
      rw [o 51 (by omega)]; exact x13
    · show g2.1 52 3 = 0
      rw [o 52 (by omega)]; exact x14
theorem pr_piano {X : sp_X} {g : sp_G} (h : sp_Rel g) (t : Int32) : sp_Pi X 37 159 [.int t] g := by
  rcases sp_cls t with ht | ⟨t, htb, rfl⟩
  · exact sp_pF (xc_piano_a X g ht) (mc_piano_a X g ht) (by omega) (by omega) h
  by_cases ht : t < 4
  rotate_left
  · exact sp_pF (xc_piano_b X g (by omega) htb) (mc_piano_b X g (by omega) htb) (by omega) (by omega) h
  rcases sp_txtsz h ht with ⟨z1, z2⟩ | ⟨z, zb, z1, z2⟩
  · exact sp_pF (xc_piano_c X g ht z1) (mc_piano_c X (sp_rx g 1) ht z2) (by omega) (by omega) (h.ref (by omega))
  have hTX := h.TX ht zb z1
  have hTM := sp_Rel.TM ht zb z2
  rcases sp_both X (t := t) (f := fun i => g.1 70 (60 * t + i)) zb with ⟨e, heb, hx, hm⟩ | ⟨p, i0, D, s, hs, hg, hx, hm⟩
  · refine ⟨9, _, by omega, xc_piano_f X g ht z1 zb heb (hx g hTX), fun v g1 q => ?_⟩
    obtain ⟨rfl, q⟩ := q
    refine ⟨9, _, by omega, mc_piano_f X g1 ht (by rw [q.1 69 (by omega)]; exact z2) zb heb (hm g1 (hTM.ra q)), fun v g2 q2 => ?_⟩
    obtain ⟨rfl, q2⟩ := q2
    exact ⟨rfl, (h.ra q).rb q2⟩
  · refine ⟨9, _, by omega, xc_piano_e X g ht z1 zb hg.1 (hx g hTX), fun v g1 q => ?_⟩
    obtain ⟨rfl, q⟩ := q
    have o : ∀ c, 63 ≤ c → g1.1 c = g.1 c := fun c hc => q.1 c (by omega)
    have hTM1 : sp_TM t z (fun i => g.1 70 (60 * t + i)) g1 := ⟨ht, zb, by rw [o 69 (by omega)]; exact z2, fun i hi => by rw [o 70 (by omega)]⟩
    refine ⟨6, _, by omega, mc_piano_e X g1 ht hTM1.2.2.1 zb hg.1 (hm g1 hTM1), fun v g2 q2 => ?_⟩
    obtain ⟨rfl, q2⟩ := q2
    exact ⟨rfl, h.pn hs hg q q2⟩
