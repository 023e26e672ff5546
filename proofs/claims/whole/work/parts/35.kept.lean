set_option maxRecDepth 20000 in
theorem xc_tell (X : sp_X) (g : sp_G) {dm : Nat} (hd : g.1 47 1 = nI dm) (hdb : dm ≤ 60) : sp_Ct X 1 67 [.ref 47, .ref 41] g (sp_Fv (sp_sS g 41 42 (sp_gv g 48 dm))) := by
  refine sp_walkN (n := 3) sq_p_67 sq_l_67 (Nat.le_of_ble_eq_true rfl) (fun a hA => ?_)
  show sp_Ev X a 67 0 [.ref 47, .ref 41, .null] [] g
  refine sr_aload_n hA si_67_0 rfl ?_
  refine sr_getIv (v := nI dm) hA si_67_1 sf_67_21 (by decide) (by decide) rfl (by decide) hd ?_
  refine sr_bipush (v := nI 9) hA si_67_4 (by decide) ?_
  refine sr_imulN hA si_67_6 ?_
  refine sr_istore_n (ls1 := [.ref 47, .ref 41, .int (nI (dm * 9))]) hA si_67_7 rfl (by rw [sq_l_67]; decide) rfl ?_
  refine sr_aload_n hA si_67_8 rfl ?_
  refine sr_getR (r := 48) hA si_67_9 sf_67_11 (by decide) (by decide) rfl rfl rfl ?_
  refine sr_iload_n hA si_67_12 rfl ?_
  refine sr_aload_n hA si_67_13 rfl ?_
  refine sr_getR (r := 42) hA si_67_14 sf_67_32 (by decide) (by decide) rfl rfl rfl ?_
  refine sr_iconst (v := nI 0) hA si_67_17 (by decide) ?_
  refine sr_bipush (v := nI 6) hA si_67_18 (by decide) ?_
  refine sr_copyN (n0 := 549) (n1 := 6) hA si_67_20 sk_67_35 sn_1 sn_2 sn_3 (by omega) (by decide) (by decide) rfl rfl rfl rfl (by omega) (by omega) (by decide) (by decide) (Nat.le_of_ble_eq_true rfl) ?_
  refine sr_aload_n hA si_67_23 rfl ?_
  refine sr_aload_n hA si_67_24 rfl ?_
  refine sr_getR (r := 48) hA si_67_25 sf_67_11 (by decide) (by decide) rfl rfl rfl ?_
  refine sr_iload_n hA si_67_28 rfl ?_
  refine sr_bipush (v := nI 6) hA si_67_29 (by decide) ?_
  refine sr_iaddN hA si_67_31 ?_
  refine sr_ialdNv (v := g.1 48 ((dm * 9) + 6)) (n := 549) hA si_67_32 (by decide) rfl rfl (by omega) (by decide) rfl ?_
  refine sr_putI hA si_67_33 sf_67_41 rfl rfl (by decide) (by decide) rfl rfl ?_
  refine sr_aload_n hA si_67_36 rfl ?_
  refine sr_aload_n hA si_67_37 rfl ?_
  refine sr_getR (r := 48) hA si_67_38 sf_67_11 (by decide) (by decide) rfl rfl rfl ?_
  refine sr_iload_n hA si_67_41 rfl ?_
  refine sr_bipush (v := nI 6) hA si_67_42 (by decide) ?_
  refine sr_iaddN hA si_67_44 ?_
  refine sr_iconst (v := nI 1) hA si_67_45 (by decide) ?_
  refine sr_iaddN hA si_67_46 ?_
  refine sr_ialdNv (v := g.1 48 (((dm * 9) + 6) + 1)) (n := 549) hA si_67_47 (by decide) rfl rfl (by omega) (by decide) rfl ?_
  refine sr_putI hA si_67_48 sf_67_44 rfl rfl (by decide) (by decide) rfl rfl ?_
  refine sr_aload_n hA si_67_51 rfl ?_
  refine sr_aload_n hA si_67_52 rfl ?_
  refine sr_getR (r := 48) hA si_67_53 sf_67_11 (by decide) (by decide) rfl rfl rfl ?_
  refine sr_iload_n hA si_67_56 rfl ?_
  refine sr_bipush (v := nI 6) hA si_67_57 (by decide) ?_
  refine sr_iaddN hA si_67_59 ?_
  refine sr_iconst (v := nI 2) hA si_67_60 (by decide) ?_
  refine sr_iaddN hA si_67_61 ?_
  refine sr_ialdNv (v := g.1 48 (((dm * 9) + 6) + 2)) (n := 549) hA si_67_62 (by decide) rfl rfl (by omega) (by decide) rfl ?_
  refine sr_putI hA si_67_63 sf_67_47 rfl rfl (by decide) (by decide) rfl rfl ?_
  exact sr_vretF hA si_67_66 sq_r_67 (sp_tellEq (by decide))
set_option maxRecDepth 20000 in
theorem xc_tellK (X : sp_X) (g : sp_G) {k m : Nat} (hk : k < 3) (hd : g.1 (50 + k) 1 = nI m) (hdb : m ≤ 60) : sp_Ct X 1 67 [.ref (50 + k), .ref 45] g (sp_Fv (sp_sS g 45 46 (sp_gv g (53 + k) m))) := by
  refine sp_walkN (n := 3) sq_p_67 sq_l_67 (Nat.le_of_ble_eq_true rfl) (fun a hA => ?_)
  show sp_Ev X a 67 0 [.ref (50 + k), .ref 45, .null] [] g
  refine sr_aload_n hA si_67_0 rfl ?_
  refine sr_getIv (v := nI m) hA si_67_1 sf_67_21 (by decide) (sp_kpK (by omega)) (sp_kpk (by omega)) (by decide) hd ?_
  refine sr_bipush (v := nI 9) hA si_67_4 (by decide) ?_
  refine sr_imulN hA si_67_6 ?_
  refine sr_istore_n (ls1 := [.ref (50 + k), .ref 45, .int (nI (m * 9))]) hA si_67_7 rfl (by rw [sq_l_67]; decide) rfl ?_
  refine sr_aload_n hA si_67_8 rfl ?_
  refine sr_getR (r := (53 + k)) hA si_67_9 sf_67_11 (by decide) (sp_kpK (by omega)) (sp_kpk (by omega)) rfl (sp_kpr0 (by omega)) ?_
  refine sr_iload_n hA si_67_12 rfl ?_
  refine sr_aload_n hA si_67_13 rfl ?_
  refine sr_getR (r := 46) hA si_67_14 sf_67_32 (by decide) (by decide) rfl rfl rfl ?_
  refine sr_iconst (v := nI 0) hA si_67_17 (by decide) ?_
  refine sr_bipush (v := nI 6) hA si_67_18 (by decide) ?_
  refine sr_copyN (n0 := 549) (n1 := 6) hA si_67_20 sk_67_35 sn_1 sn_2 sn_3 (by omega) (sp_kpK2 (by omega)) (by decide) (sp_kpk2 (by omega)) rfl (sp_kpl2 (by omega)) rfl (by omega) (by omega) (by decide) (by decide) (Nat.le_of_ble_eq_true rfl) ?_
  refine sr_aload_n hA si_67_23 rfl ?_
  refine sr_aload_n hA si_67_24 rfl ?_
  refine sr_getR (r := (53 + k)) hA si_67_25 sf_67_11 (by decide) (sp_kpK (by omega)) (sp_kpk (by omega)) rfl (sp_kpr0 (by omega)) ?_
  refine sr_iload_n hA si_67_28 rfl ?_
  refine sr_bipush (v := nI 6) hA si_67_29 (by decide) ?_
  refine sr_iaddN hA si_67_31 ?_
  refine sr_ialdNv (v := g.1 (53 + k) ((m * 9) + 6)) (n := 549) hA si_67_32 (sp_kpK2 (by omega)) (sp_kpk2 (by omega)) (sp_kpl2 (by omega)) (by omega) (by decide) (by simp [sp_wI, sp_wL, sp_wA, sp_up, show 53 + k ≠ 45 by omega, show 53 + k ≠ 46 by omega]) ?_
  refine sr_putI hA si_67_33 sf_67_41 rfl rfl (by decide) (by decide) rfl rfl ?_
  refine sr_aload_n hA si_67_36 rfl ?_
  refine sr_aload_n hA si_67_37 rfl ?_
  refine sr_getR (r := (53 + k)) hA si_67_38 sf_67_11 (by decide) (sp_kpK (by omega)) (sp_kpk (by omega)) rfl (sp_kpr0 (by omega)) ?_
  refine sr_iload_n hA si_67_41 rfl ?_
  refine sr_bipush (v := nI 6) hA si_67_42 (by decide) ?_
  refine sr_iaddN hA si_67_44 ?_
  refine sr_iconst (v := nI 1) hA si_67_45 (by decide) ?_
  refine sr_iaddN hA si_67_46 ?_
  refine sr_ialdNv (v := g.1 (53 + k) (((m * 9) + 6) + 1)) (n := 549) hA si_67_47 (sp_kpK2 (by omega)) (sp_kpk2 (by omega)) (sp_kpl2 (by omega)) (by omega) (by decide) (by simp [sp_wI, sp_wL, sp_wA, sp_up, show 53 + k ≠ 45 by omega, show 53 + k ≠ 46 by omega]) ?_
  refine sr_putI hA si_67_48 sf_67_44 rfl rfl (by decide) (by decide) rfl rfl ?_
  refine sr_aload_n hA si_67_51 rfl ?_
  refine sr_aload_n hA si_67_52 rfl ?_
  refine sr_getR (r := (53 + k)) hA si_67_53 sf_67_11 (by decide) (sp_kpK (by omega)) (sp_kpk (by omega)) rfl (sp_kpr0 (by omega)) ?_
  refine sr_iload_n hA si_67_56 rfl ?_
  refine sr_bipush (v := nI 6) hA si_67_57 (by decide) ?_
  refine sr_iaddN hA si_67_59 ?_
  refine sr_iconst (v := nI 2) hA si_67_60 (by decide) ?_
  refine sr_iaddN hA si_67_61 ?_
  refine sr_ialdNv (v := g.1 (53 + k) (((m * 9) + 6) + 2)) (n := 549) hA si_67_62 (sp_kpK2 (by omega)) (sp_kpk2 (by omega)) (sp_kpl2 (by omega)) (by omega) (by decide) (by simp [sp_wI, sp_wL, sp_wA, sp_up, show 53 + k ≠ 45 by omega, show 53 + k ≠ 46 by omega]) ?_
  refine sr_putI hA si_67_63 sf_67_47 rfl rfl (by decide) (by decide) rfl rfl ?_
  exact sr_vretF hA si_67_66 sq_r_67 (sp_tellEq (by decide))
set_option maxRecDepth 20000 in
theorem xc_undo_a (X : sp_X) (g : sp_G) {q : Int32} (hq : q < 0)  {dm : Nat} (hd : g.1 47 1 = nI dm) (hdb : dm ≤ 60) : sp_Ct X 9 66 [.ref 0, .int q] g (sp_Fi (-1) g) := by
  refine sp_walkN (n := 3) sq_p_66 sq_l_66 (Nat.le_of_ble_eq_true rfl) (fun a hA => ?_)
  show sp_Ev X a 66 0 [.ref 0, .int q, .null] [] g
  refine sr_iload_n hA si_66_0 rfl ?_
  refine sr_if_lt (tgt := 15) hA si_66_1 (by decide) (fun c1 => ?_) (fun c1 => absurd hq c1)
  refine sr_iconst (v := (-1)) hA si_66_15 (by decide) ?_
  exact sr_iretF hA si_66_16 sq_r_66 rfl rfl
set_option maxRecDepth 20000 in
theorem xc_undo_b (X : sp_X) (g : sp_G) {q : Nat} (hqb : q < 2 ^ 31)  {dm : Nat} (hd : g.1 47 1 = nI dm) (hdb : dm ≤ 60) (hq : dm < q) : sp_Ct X 9 66 [.ref 0, .int (nI q)] g (sp_Fi (-1) g) := by
  refine sp_walkN (n := 3) sq_p_66 sq_l_66 (Nat.le_of_ble_eq_true rfl) (fun a hA => ?_)
  show sp_Ev X a 66 0 [.ref 0, .int (nI q), .null] [] g
  refine sr_iload_n hA si_66_0 rfl ?_
  refine sr_if_ltN (tgt := 15) hA si_66_1 (by decide) (by omega) ?_
  refine sr_iload_n hA si_66_4 rfl ?_
  refine sr_aload_n hA si_66_5 rfl ?_
  refine sr_getR (r := 47) hA si_66_6 sf_66_49 (by decide) (by decide) rfl rfl rfl ?_
  refine sr_getIv (v := nI dm) hA si_66_9 sf_66_214 (by decide) (by decide) rfl (by decide) hd ?_
  refine sr_icmp_leN (tgt := 17) hA si_66_12 (by decide) (by omega) (by omega) (fun c2 => absurd c2 (by omega)) (fun c2 => ?_)
  refine sr_iconst (v := (-1)) hA si_66_15 (by decide) ?_
  exact sr_iretF hA si_66_16 sq_r_66 rfl rfl
set_option maxRecDepth 20000 in
theorem mc_undo_a (X : sp_X) (g : sp_G) {q : Int32} (hq : q < 0)  {dm : Nat} (hd : g.1 64 21 = nI dm) (hdb : dm ≤ 60) : sp_Ct X 9 185 [.ref 64, .int q] g (sp_Fi (-1) g) := by
  refine sp_walkN (n := 4) sq_p_185 sq_l_185 (Nat.le_of_ble_eq_true rfl) (fun a hA => ?_)
  show sp_Ev X a 185 0 [.ref 64, .int q, .null, .null] [] g
  refine sr_iload_n hA si_185_0 rfl ?_
  refine sr_iconst (v := nI 0) hA si_185_1 (by decide) ?_
  refine sr_aload_n hA si_185_2 rfl ?_
  refine sr_getIv (v := nI dm) hA si_185_3 sf_185_149 (by decide) (by decide) rfl (by decide) hd ?_
  refine sr_SFi (as := [.int q, .int (nI 0), .int (nI dm)]) (st := []) hA si_185_6 ss_135 sk_185_83 (mc_inM X g hq (by omega)) (by omega) rfl rfl (Nat.le_of_ble_eq_true rfl) ?_
  refine sr_if_neN (tgt := 14) hA si_185_9 (by decide) (by omega) (fun c1 => absurd c1 (by omega)) (fun c1 => ?_)
  refine sr_iconst (v := (-1)) hA si_185_12 (by decide) ?_
  exact sr_iretF hA si_185_13 sq_r_185 rfl rfl
set_option maxRecDepth 20000 in
theorem mc_undo_b (X : sp_X) (g : sp_G) {q : Nat} (hqb : q < 2 ^ 31)  {dm : Nat} (hd : g.1 64 21 = nI dm) (hdb : dm ≤ 60) (hq : dm < q) : sp_Ct X 9 185 [.ref 64, .int (nI q)] g (sp_Fi (-1) g) := by
  refine sp_walkN (n := 4) sq_p_185 sq_l_185 (Nat.le_of_ble_eq_true rfl) (fun a hA => ?_)
  show sp_Ev X a 185 0 [.ref 64, .int (nI q), .null, .null] [] g
  refine sr_iload_n hA si_185_0 rfl ?_
  refine sr_iconst (v := nI 0) hA si_185_1 (by decide) ?_
  refine sr_aload_n hA si_185_2 rfl ?_
  refine sr_getIv (v := nI dm) hA si_185_3 sf_185_149 (by decide) (by decide) rfl (by decide) hd ?_
  refine sr_SFi (as := [.int (nI q), .int (nI 0), .int (nI dm)]) (st := []) hA si_185_6 ss_135 sk_185_83 (mc_inH X g (by omega) (by omega)) (by omega) rfl rfl (Nat.le_of_ble_eq_true rfl) ?_
  refine sr_if_neN (tgt := 14) hA si_185_9 (by decide) (by omega) (fun c1 => absurd c1 (by omega)) (fun c1 => ?_)
  refine sr_iconst (v := (-1)) hA si_185_12 (by decide) ?_
  exact sr_iretF hA si_185_13 sq_r_185 rfl rfl
set_option maxRecDepth 20000 in
theorem xc_undo_c (X : sp_X) (g : sp_G) {q : Nat} (hqb : q < 2 ^ 31)  {dm : Nat} (hd : g.1 47 1 = nI dm) (hdb : dm ≤ 60) (hq : q ≤ dm) : sp_Ct X 9 66 [.ref 0, .int (nI q)] g (sp_Fi (nI (dm - q)) (sp_sS (sp_wI g 47 1 (nI q)) 41 42 (sp_gv (sp_wI g 47 1 (nI q)) 48 q))) := by
  refine sp_walkN (n := 3) sq_p_66 sq_l_66 (Nat.le_of_ble_eq_true rfl) (fun a hA => ?_)
  show sp_Ev X a 66 0 [.ref 0, .int (nI q), .null] [] g
  refine sr_iload_n hA si_66_0 rfl ?_
  refine sr_if_ltN (tgt := 15) hA si_66_1 (by decide) (by omega) ?_
  refine sr_iload_n hA si_66_4 rfl ?_
  refine sr_aload_n hA si_66_5 rfl ?_
  refine sr_getR (r := 47) hA si_66_6 sf_66_49 (by decide) (by decide) rfl rfl rfl ?_
  refine sr_getIv (v := nI dm) hA si_66_9 sf_66_214 (by decide) (by decide) rfl (by decide) hd ?_
  refine sr_icmp_leN (tgt := 17) hA si_66_12 (by decide) (by omega) (by omega) (fun c2 => ?_) (fun c2 => absurd c2 (by omega))
  refine sr_aload_n hA si_66_17 rfl ?_
  refine sr_getR (r := 47) hA si_66_18 sf_66_49 (by decide) (by decide) rfl rfl rfl ?_
  refine sr_getIv (v := nI dm) hA si_66_21 sf_66_214 (by decide) (by decide) rfl (by decide) hd ?_
  refine sr_iload_n hA si_66_24 rfl ?_
  refine sr_isubN hA si_66_25 (by omega) ?_
  refine sr_istore_n (ls1 := [.ref 0, .int (nI q), .int (nI (dm - q))]) hA si_66_26 rfl (by rw [sq_l_66]; decide) rfl ?_
  refine sr_aload_n hA si_66_27 rfl ?_
  refine sr_getR (r := 47) hA si_66_28 sf_66_49 (by decide) (by decide) rfl rfl rfl ?_
  refine sr_iload_n hA si_66_31 rfl ?_
  refine sr_putI hA si_66_32 sf_66_214 rfl rfl (by decide) (by decide) rfl rfl ?_
  refine sr_aload_n hA si_66_35 rfl ?_
  refine sr_getR (r := 47) hA si_66_36 sf_66_49 (by decide) (by decide) rfl rfl rfl ?_
  refine sr_aload_n hA si_66_39 rfl ?_
  refine sr_getR (r := 41) hA si_66_40 sf_66_36 (by decide) (by decide) rfl rfl rfl ?_
  refine sr_VFv (c := 47) (ci := 6) (as := [.ref 41]) (st := []) hA si_66_43 sv_67 sk_66_217 (xc_tell X (sp_wI g 47 1 (nI q)) (dm := q) rfl (by omega)) (by omega) rfl (by decide) (by decide) rfl sq_c_67 rfl (Nat.le_of_ble_eq_true rfl) ?_
  refine sr_iload_n hA si_66_46 rfl ?_
  exact sr_iretF hA si_66_47 sq_r_66 rfl rfl
set_option maxRecDepth 20000 in
theorem mc_undo_c (X : sp_X) (g : sp_G) {q : Nat} (hqb : q < 2 ^ 31)  {dm : Nat} (hd : g.1 64 21 = nI dm) (hdb : dm ≤ 60) (hq : q = dm) : sp_Ct X 9 185 [.ref 64, .int (nI q)] g (sp_Fi (nI (dm - q)) (sp_wI g 64 21 (nI q))) := by
  refine sp_walkN (n := 4) sq_p_185 sq_l_185 (Nat.le_of_ble_eq_true rfl) (fun a hA => ?_)
  show sp_Ev X a 185 0 [.ref 64, .int (nI q), .null, .null] [] g
  refine sr_iload_n hA si_185_0 rfl ?_
  refine sr_iconst (v := nI 0) hA si_185_1 (by decide) ?_
  refine sr_aload_n hA si_185_2 rfl ?_
  refine sr_getIv (v := nI dm) hA si_185_3 sf_185_149 (by decide) (by decide) rfl (by decide) hd ?_
  refine sr_SFi (as := [.int (nI q), .int (nI 0), .int (nI dm)]) (st := []) hA si_185_6 ss_135 sk_185_83 (mc_inN X g (by omega) (by omega) (by omega)) (by omega) rfl rfl (Nat.le_of_ble_eq_true rfl) ?_
  refine sr_if_neN (tgt := 14) hA si_185_9 (by decide) (by omega) (fun c1 => ?_) (fun c1 => absurd c1 (by omega))
  refine sr_aload_n hA si_185_14 rfl ?_
  refine sr_getIv (v := nI dm) hA si_185_15 sf_185_149 (by decide) (by decide) rfl (by decide) hd ?_
  refine sr_iload_n hA si_185_18 rfl ?_
  refine sr_isubN hA si_185_19 (by omega) ?_
  refine sr_istore_n (ls1 := [.ref 64, .int (nI q), .int (nI (dm - q)), .null]) hA si_185_20 rfl (by rw [sq_l_185]; decide) rfl ?_
  refine sr_iconst (v := nI 0) hA si_185_21 (by decide) ?_
  refine sr_istore_n (ls1 := [.ref 64, .int (nI q), .int (nI (dm - q)), .int (nI 0)]) hA si_185_22 rfl (by rw [sq_l_185]; decide) rfl ?_
  refine sr_iload_n hA si_185_23 rfl ?_
  refine sr_bipush (v := nI 9) hA si_185_24 (by decide) ?_
  refine sr_icmp_geN (tgt := 56) hA si_185_26 (by decide) (by omega) (by omega) (fun c2 => absurd c2 (by omega)) (fun c2 => ?_)
  refine sr_iload_n hA si_185_29 rfl ?_
  refine sr_if_leN (tgt := 56) hA si_185_30 (by decide) (by omega) (fun c3 => ?_) (fun c3 => absurd c3 (by omega))
  refine sr_aload_n hA si_185_56 rfl ?_
  refine sr_iload_n hA si_185_57 rfl ?_
  refine sr_putI hA si_185_58 sf_185_149 rfl rfl (by decide) (by decide) rfl rfl ?_
  refine sr_iload_n hA si_185_61 rfl ?_
  exact sr_iretF hA si_185_62 sq_r_185 rfl rfl
theorem sp_unS {g : sp_G} {c q i : Nat} (hi : i < 9) (hc : c ≠ 75) (p : Nat) : sp_wI (sp_sP g 0 (fun j => if j < i then g.1 c (p + j) else sp_pv g 0 j)) 75 (9 * 0 + i) (g.1 c (p + i)) = sp_sP g 0 (fun j => if j < i + 1 then g.1 c (p + j) else sp_pv g 0 j) := by
  rw [sp_sP_w hi]
  refine sp_sP_c (fun j hj => ?_)
  unfold upd
  by_cases e : j = i
  · subst e
    rw [if_pos rfl, if_pos (by omega)]
  · rw [if_neg e]
    show (if j < i then g.1 c (p + j) else sp_pv g 0 j) = _
    by_cases h : j < i
    · rw [if_pos h, if_pos (by omega)]
    · rw [if_neg h, if_neg (by omega)]
theorem sp_un0 {g : sp_G} {c p : Nat} : sp_sP g 0 (fun j => if j < 0 then g.1 c (p + j) else sp_pv g 0 j) = g := by
  rw [sp_sP_c (w := sp_pv g 0) (fun j _ => if_neg (by omega)), sp_sP_0]
theorem sp_un9 {g : sp_G} {c p : Nat} : sp_sP g 0 (fun j => if j < 9 then g.1 c (p + j) else sp_pv g 0 j) = sp_sP g 0 (fun j => g.1 c (p + j)) := sp_sP_c (fun j hj => if_pos hj)
set_option maxRecDepth 20000 in
theorem ml_undo {X : sp_X} {a : sp_Ac} {g : sp_G} {q dm : Nat} (hdb : dm ≤ 60) (hq : q < dm) (hA : sp_Act X 185 9 (sp_Fi (nI (dm - q)) (sp_wI (sp_sP g 0 (fun j => g.1 76 (9 * q + j))) 64 21 (nI q))) a) : ∀ (m : Nat) (i : Nat), i + m = 9 → sp_Ev X a 185 23 [.ref 64, .int (nI q), .int (nI (dm - q)), .int (nI i)] [] (sp_sP g 0 (fun j => if j < i then g.1 76 (9 * q + j) else sp_pv g 0 j)) := by
  intro m
  induction m with
  | zero =>
    intro i h0_
    refine sr_iload_n hA si_185_23 rfl ?_
    refine sr_bipush (v := nI 9) hA si_185_24 (by decide) ?_
    refine sr_icmp_geN (tgt := 56) hA si_185_26 (by decide) (by omega) (by omega) (fun c1 => ?_) (fun c1 => absurd c1 (by omega))
    refine sr_aload_n hA si_185_56 rfl ?_
    refine sr_iload_n hA si_185_57 rfl ?_
    refine sr_putI hA si_185_58 sf_185_149 rfl rfl (by decide) (by decide) rfl rfl ?_
    refine sr_iload_n hA si_185_61 rfl ?_
    exact sr_iretF hA si_185_62 sq_r_185 rfl (by rw [show i = 9 by omega, sp_un9])
  | succ m ih =>
    intro i h0_
    refine sr_iload_n hA si_185_23 rfl ?_
    refine sr_bipush (v := nI 9) hA si_185_24 (by decide) ?_
    refine sr_icmp_geN (tgt := 56) hA si_185_26 (by decide) (by omega) (by omega) (fun c1 => absurd c1 (by omega)) (fun c1 => ?_)
    refine sr_iload_n hA si_185_29 rfl ?_
    refine sr_if_leN (tgt := 56) hA si_185_30 (by decide) (by omega) (fun c2 => absurd c2 (by omega)) (fun c2 => ?_)
    refine sr_aload_n hA si_185_33 rfl ?_
    refine sr_iconst (v := nI 0) hA si_185_34 (by decide) ?_
    refine sr_iload_n hA si_185_35 rfl ?_
    refine sr_aload_n hA si_185_36 rfl ?_
    refine sr_getR (r := 76) hA si_185_37 sf_185_48 (by decide) (by decide) rfl rfl rfl ?_
    refine sr_bipush (v := nI 9) hA si_185_40 (by decide) ?_
    refine sr_iload_n hA si_185_42 rfl ?_
    refine sr_imulN hA si_185_43 ?_
    refine sr_iload_n hA si_185_44 rfl ?_
    refine sr_iaddN hA si_185_45 ?_
    refine sr_ialdNv (v := g.1 76 ((9 * q) + i)) (n := 540) hA si_185_46 (by decide) rfl rfl (by omega) (by decide) rfl ?_
    refine sr_VFv (c := 64) (ci := 8) (as := [.int (nI 0), .int (nI i), .int (g.1 76 ((9 * q) + i))]) (st := []) hA si_185_47 sv_160 sk_185_145 (mc_place X (sp_sP g 0 (fun j => if j < i then g.1 76 (9 * q + j) else sp_pv g 0 j)) (f := 0) (i := i) (by omega) (g.1 76 ((9 * q) + i))) (by omega) rfl (by decide) (by decide) rfl sq_c_160 rfl (Nat.le_of_ble_eq_true rfl) ?_
    refine sr_iincN (x := i) (y := 1) (ls1 := [.ref 64, .int (nI q), .int (nI (dm - q)), .int (nI (i + 1))]) hA si_185_50 rfl rfl (by rw [sq_l_185]; decide) rfl ?_
    refine sr_goto (tgt := 23) hA si_185_53 (by decide) ?_
    rw [sp_unS (q := q) (by omega) (by decide)]
    exact ih (i + 1) (by omega)
set_option maxRecDepth 20000 in
theorem mc_undo_d (X : sp_X) (g : sp_G) {q : Nat} (hqb : q < 2 ^ 31)  {dm : Nat} (hd : g.1 64 21 = nI dm) (hdb : dm ≤ 60) (hq : q < dm) : sp_Ct X 9 185 [.ref 64, .int (nI q)] g (sp_Fi (nI (dm - q)) (sp_wI (sp_sP g 0 (fun j => g.1 76 (9 * q + j))) 64 21 (nI q))) := by
  refine sp_walkN (n := 4) sq_p_185 sq_l_185 (Nat.le_of_ble_eq_true rfl) (fun a hA => ?_)
  show sp_Ev X a 185 0 [.ref 64, .int (nI q), .null, .null] [] g
  refine sr_iload_n hA si_185_0 rfl ?_
  refine sr_iconst (v := nI 0) hA si_185_1 (by decide) ?_
  refine sr_aload_n hA si_185_2 rfl ?_
  refine sr_getIv (v := nI dm) hA si_185_3 sf_185_149 (by decide) (by decide) rfl (by decide) hd ?_
  refine sr_SFi (as := [.int (nI q), .int (nI 0), .int (nI dm)]) (st := []) hA si_185_6 ss_135 sk_185_83 (mc_inN X g (by omega) (by omega) (by omega)) (by omega) rfl rfl (Nat.le_of_ble_eq_true rfl) ?_
  refine sr_if_neN (tgt := 14) hA si_185_9 (by decide) (by omega) (fun c1 => ?_) (fun c1 => absurd c1 (by omega))
  refine sr_aload_n hA si_185_14 rfl ?_
  refine sr_getIv (v := nI dm) hA si_185_15 sf_185_149 (by decide) (by decide) rfl (by decide) hd ?_
  refine sr_iload_n hA si_185_18 rfl ?_
  refine sr_isubN hA si_185_19 (by omega) ?_
  refine sr_istore_n (ls1 := [.ref 64, .int (nI q), .int (nI (dm - q)), .null]) hA si_185_20 rfl (by rw [sq_l_185]; decide) rfl ?_
  refine sr_iconst (v := nI 0) hA si_185_21 (by decide) ?_
  refine sr_istore_n (ls1 := [.ref 64, .int (nI q), .int (nI (dm - q)), .int (nI 0)]) hA si_185_22 rfl (by rw [sq_l_185]; decide) rfl ?_
  have h0 := ml_undo (g := g) hdb hq hA 9 0 (by omega)
  rw [sp_un0] at h0
  exact h0
theorem sp_tkE {g : sp_G} {k dm : Nat} {x y : Int32} (hk : k < 3) : sp_wA (sp_wI (sp_wI (sp_wI g (50 + k) 1 x) (50 + k) 2 y) (50 + k) 3 (nI 1)) (53 + k) (va_cpy ((sp_wI (sp_wI (sp_wI g (50 + k) 1 x) (50 + k) 2 y) (50 + k) 3 (nI 1)).1 48) ((sp_wI (sp_wI (sp_wI g (50 + k) 1 x) (50 + k) 2 y) (50 + k) 3 (nI 1)).1 (53 + k)) 0 0 ((dm + 1) * 9)) = sp_wA (sp_wI (sp_wI (sp_wI g (50 + k) 1 x) (50 + k) 2 y) (50 + k) 3 (nI 1)) (53 + k) (va_cpy (g.1 48) (g.1 (53 + k)) 0 0 ((dm + 1) * 9)) := by
  rw [sp_wI_ne (by omega), sp_wI_ne (by omega), sp_wI_ne (by omega), sp_wI_ne (by omega), sp_wI_ne (by omega), sp_wI_ne (by omega)]
set_option maxRecDepth 20000 in
theorem xc_takeK (X : sp_X) (g : sp_G) {k dm : Nat} (hk : k < 3) (hd : g.1 47 1 = nI dm) (hdb : dm ≤ 60) : sp_Ct X 1 70 [.ref (50 + k), .ref 47] g (sp_Fv (sp_wA (sp_wI (sp_wI (sp_wI g (50 + k) 1 (nI dm)) (50 + k) 2 (g.1 47 2)) (50 + k) 3 (nI 1)) (53 + k) (va_cpy (g.1 48) (g.1 (53 + k)) 0 0 ((dm + 1) * 9)))) := by
  refine sp_walkN (n := 2) sq_p_70 sq_l_70 (Nat.le_of_ble_eq_true rfl) (fun a hA => ?_)
  show sp_Ev X a 70 0 [.ref (50 + k), .ref 47] [] g
  refine sr_aload_n hA si_70_0 rfl ?_
  refine sr_aload_n hA si_70_1 rfl ?_
  refine sr_getIv (v := nI dm) hA si_70_2 sf_70_21 (by decide) (by decide) rfl (by decide) hd ?_
  refine sr_putI hA si_70_5 sf_70_21 rfl rfl (by decide) (sp_kpK (by omega)) (sp_kpk (by omega)) rfl ?_
  refine sr_aload_n hA si_70_8 rfl ?_
  refine sr_aload_n hA si_70_9 rfl ?_
  refine sr_getIv (v := g.1 47 2) hA si_70_10 sf_70_17 (by decide) (by decide) rfl (by decide) (by simp [sp_wI, sp_wL, sp_wA, sp_up, show ¬ 47 = 50 + k by omega]) ?_
  refine sr_putI hA si_70_13 sf_70_17 rfl rfl (by decide) (sp_kpK (by omega)) (sp_kpk (by omega)) rfl ?_
  refine sr_aload_n hA si_70_16 rfl ?_
  refine sr_iconst (v := nI 1) hA si_70_17 (by decide) ?_
  refine sr_putZ hA si_70_18 sf_70_50 rfl rfl (by decide) (sp_kpK (by omega)) (sp_kpk (by omega)) rfl (by decide) ?_
  refine sr_aload_n hA si_70_21 rfl ?_
  refine sr_getR (r := 48) hA si_70_22 sf_70_11 (by decide) (by decide) rfl rfl rfl ?_
  refine sr_iconst (v := nI 0) hA si_70_25 (by decide) ?_
  refine sr_aload_n hA si_70_26 rfl ?_
  refine sr_getR (r := (53 + k)) hA si_70_27 sf_70_11 (by decide) (sp_kpK (by omega)) (sp_kpk (by omega)) rfl (sp_kpr0 (by omega)) ?_
  refine sr_iconst (v := nI 0) hA si_70_30 (by decide) ?_
  refine sr_aload_n hA si_70_31 rfl ?_
  refine sr_getIv (v := nI dm) hA si_70_32 sf_70_21 (by decide) (sp_kpK (by omega)) (sp_kpk (by omega)) (by decide) (by simp [sp_wI, sp_wL, sp_wA, sp_up, show ¬ 47 = 50 + k by omega]) ?_
  refine sr_iconst (v := nI 1) hA si_70_35 (by decide) ?_
  refine sr_iaddN hA si_70_36 ?_
  refine sr_bipush (v := nI 9) hA si_70_37 (by decide) ?_
  refine sr_imulN hA si_70_39 ?_
  refine sr_copyN (n0 := 549) (n1 := 549) hA si_70_40 sk_70_35 sn_1 sn_2 sn_3 (by omega) (by decide) (sp_kpK2 (by omega)) rfl (sp_kpk2 (by omega)) rfl (sp_kpl2 (by omega)) (by omega) (by omega) (by decide) (by decide) (Nat.le_of_ble_eq_true rfl) ?_
  exact sr_vretF hA si_70_43 sq_r_70 (by rw [sp_tkE (by omega)])
set_option maxRecDepth 20000 in
theorem xc_keep_a (X : sp_X) (g : sp_G) {k : Int32} (hk : k < 0) : sp_Ct X 9 69 [.ref 0, .int k] g (sp_Fi (-1) g) := by
  refine sp_walkN (n := 2) sq_p_69 sq_l_69 (Nat.le_of_ble_eq_true rfl) (fun a hA => ?_)
  show sp_Ev X a 69 0 [.ref 0, .int k] [] g
  refine sr_iload_n hA si_69_0 rfl ?_
  refine sr_if_lt (tgt := 9) hA si_69_1 (by decide) (fun c1 => ?_) (fun c1 => absurd hk c1)
  refine sr_iconst (v := (-1)) hA si_69_9 (by decide) ?_
  exact sr_iretF hA si_69_10 sq_r_69 rfl rfl
set_option maxRecDepth 20000 in
theorem xc_keep_b (X : sp_X) (g : sp_G) {k : Nat} (hk : 3 ≤ k) (hkb : k < 2 ^ 31) : sp_Ct X 9 69 [.ref 0, .int (nI k)] g (sp_Fi (-1) g) := by
  refine sp_walkN (n := 2) sq_p_69 sq_l_69 (Nat.le_of_ble_eq_true rfl) (fun a hA => ?_)
  show sp_Ev X a 69 0 [.ref 0, .int (nI k)] [] g
  refine sr_iload_n hA si_69_0 rfl ?_
  refine sr_if_ltN (tgt := 9) hA si_69_1 (by decide) (by omega) ?_
  refine sr_iload_n hA si_69_4 rfl ?_
  refine sr_iconst (v := nI 3) hA si_69_5 (by decide) ?_
  refine sr_icmp_ltN (tgt := 11) hA si_69_6 (by decide) (by omega) (by omega) (fun c2 => absurd c2 (by omega)) (fun c2 => ?_)
  refine sr_iconst (v := (-1)) hA si_69_9 (by decide) ?_
  exact sr_iretF hA si_69_10 sq_r_69 rfl rfl
set_option maxRecDepth 20000 in
theorem xc_keep_c (X : sp_X) (g : sp_G) {k : Nat} (hk : k < 3) (hn : g.1 18 3 = nI 0) : sp_Ct X 9 69 [.ref 0, .int (nI k)] g (sp_Fi (-4) g) := by
  refine sp_walkN (n := 2) sq_p_69 sq_l_69 (Nat.le_of_ble_eq_true rfl) (fun a hA => ?_)
  show sp_Ev X a 69 0 [.ref 0, .int (nI k)] [] g
  refine sr_iload_n hA si_69_0 rfl ?_
  refine sr_if_ltN (tgt := 9) hA si_69_1 (by decide) (by omega) ?_
  refine sr_iload_n hA si_69_4 rfl ?_
  refine sr_iconst (v := nI 3) hA si_69_5 (by decide) ?_
  refine sr_icmp_ltN (tgt := 11) hA si_69_6 (by decide) (by omega) (by omega) (fun c2 => ?_) (fun c2 => absurd c2 (by omega))
  refine sr_aload_n hA si_69_11 rfl ?_
  refine sr_getR (r := 18) hA si_69_12 sf_69_32 (by decide) (by decide) rfl rfl rfl ?_
  refine sr_getIv (v := nI 0) hA si_69_15 sf_69_145 (by decide) (by decide) rfl (by decide) hn ?_
  refine sr_if_neN (tgt := 24) hA si_69_18 (by decide) (by omega) (fun c3 => absurd c3 (by omega)) (fun c3 => ?_)
  refine sr_bipush (v := (-4)) hA si_69_21 (by decide) ?_
  exact sr_iretF hA si_69_23 sq_r_69 rfl rfl
set_option maxRecDepth 20000 in
theorem mc_keep_a (X : sp_X) (g : sp_G) {k : Int32} (hk : k < 0) : sp_Ct X 9 187 [.ref 64, .int k] g (sp_Fi (-1) g) := by
  refine sp_walkN (n := 3) sq_p_187 sq_l_187 (Nat.le_of_ble_eq_true rfl) (fun a hA => ?_)
  show sp_Ev X a 187 0 [.ref 64, .int k, .null] [] g
  refine sr_iload_n hA si_187_0 rfl ?_
  refine sr_iconst (v := nI 0) hA si_187_1 (by decide) ?_
  refine sr_iconst (v := nI 2) hA si_187_2 (by decide) ?_
  refine sr_SFi (as := [.int k, .int (nI 0), .int (nI 2)]) (st := []) hA si_187_3 ss_135 sk_187_83 (mc_inM X g hk (by omega)) (by omega) rfl rfl (Nat.le_of_ble_eq_true rfl) ?_
  refine sr_if_neN (tgt := 11) hA si_187_6 (by decide) (by omega) (fun c1 => absurd c1 (by omega)) (fun c1 => ?_)
  refine sr_iconst (v := (-1)) hA si_187_9 (by decide) ?_
  exact sr_iretF hA si_187_10 sq_r_187 rfl rfl
set_option maxRecDepth 20000 in
theorem mc_keep_b (X : sp_X) (g : sp_G) {k : Nat} (hk : 3 ≤ k) (hkb : k < 2 ^ 31) : sp_Ct X 9 187 [.ref 64, .int (nI k)] g (sp_Fi (-1) g) := by
  refine sp_walkN (n := 3) sq_p_187 sq_l_187 (Nat.le_of_ble_eq_true rfl) (fun a hA => ?_)
  show sp_Ev X a 187 0 [.ref 64, .int (nI k), .null] [] g
  refine sr_iload_n hA si_187_0 rfl ?_
  refine sr_iconst (v := nI 0) hA si_187_1 (by decide) ?_
  refine sr_iconst (v := nI 2) hA si_187_2 (by decide) ?_
  refine sr_SFi (as := [.int (nI k), .int (nI 0), .int (nI 2)]) (st := []) hA si_187_3 ss_135 sk_187_83 (mc_inH X g (by omega) (by omega)) (by omega) rfl rfl (Nat.le_of_ble_eq_true rfl) ?_
  refine sr_if_neN (tgt := 11) hA si_187_6 (by decide) (by omega) (fun c1 => absurd c1 (by omega)) (fun c1 => ?_)
  refine sr_iconst (v := (-1)) hA si_187_9 (by decide) ?_
  exact sr_iretF hA si_187_10 sq_r_187 rfl rfl
set_option maxRecDepth 20000 in
theorem mc_keep_c (X : sp_X) (g : sp_G) {k : Nat} (hk : k < 3) (hn : g.1 64 11 = nI 0) : sp_Ct X 9 187 [.ref 64, .int (nI k)] g (sp_Fi (-4) g) := by
  refine sp_walkN (n := 3) sq_p_187 sq_l_187 (Nat.le_of_ble_eq_true rfl) (fun a hA => ?_)
  show sp_Ev X a 187 0 [.ref 64, .int (nI k), .null] [] g
  refine sr_iload_n hA si_187_0 rfl ?_
  refine sr_iconst (v := nI 0) hA si_187_1 (by decide) ?_
  refine sr_iconst (v := nI 2) hA si_187_2 (by decide) ?_
  refine sr_SFi (as := [.int (nI k), .int (nI 0), .int (nI 2)]) (st := []) hA si_187_3 ss_135 sk_187_83 (mc_inN X g (by omega) (by omega) (by omega)) (by omega) rfl rfl (Nat.le_of_ble_eq_true rfl) ?_
  refine sr_if_neN (tgt := 11) hA si_187_6 (by decide) (by omega) (fun c1 => ?_) (fun c1 => absurd c1 (by omega))
  refine sr_aload_n hA si_187_11 rfl ?_
  refine sr_getIv (v := nI 0) hA si_187_12 sf_187_142 (by decide) (by decide) rfl (by decide) hn ?_
  refine sr_if_neN (tgt := 21) hA si_187_15 (by decide) (by omega) (fun c2 => absurd c2 (by omega)) (fun c2 => ?_)
  refine sr_bipush (v := (-4)) hA si_187_18 (by decide) ?_
  exact sr_iretF hA si_187_20 sq_r_187 rfl rfl
set_option maxRecDepth 20000 in
theorem xc_keep_d (X : sp_X) (g : sp_G) {k : Nat} (hk : k < 3) {n : Nat} (hn : g.1 18 3 = nI n) (hb : n ≤ 6) (hn0 : 0 < n) {dm : Nat} (hd : g.1 47 1 = nI dm) (hdb : dm ≤ 60) : sp_Ct X 9 69 [.ref 0, .int (nI k)] g (sp_Fi (nI dm) (sp_wA (sp_wI (sp_wI (sp_wI g (50 + k) 1 (nI dm)) (50 + k) 2 (g.1 47 2)) (50 + k) 3 (nI 1)) (53 + k) (va_cpy (g.1 48) (g.1 (53 + k)) 0 0 ((dm + 1) * 9)))) := by
  refine sp_walkN (n := 2) sq_p_69 sq_l_69 (Nat.le_of_ble_eq_true rfl) (fun a hA => ?_)
  show sp_Ev X a 69 0 [.ref 0, .int (nI k)] [] g
  refine sr_iload_n hA si_69_0 rfl ?_
  refine sr_if_ltN (tgt := 9) hA si_69_1 (by decide) (by omega) ?_
  refine sr_iload_n hA si_69_4 rfl ?_
  refine sr_iconst (v := nI 3) hA si_69_5 (by decide) ?_
  refine sr_icmp_ltN (tgt := 11) hA si_69_6 (by decide) (by omega) (by omega) (fun c2 => ?_) (fun c2 => absurd c2 (by omega))
  refine sr_aload_n hA si_69_11 rfl ?_
  refine sr_getR (r := 18) hA si_69_12 sf_69_32 (by decide) (by decide) rfl rfl rfl ?_
  refine sr_getIv (v := nI n) hA si_69_15 sf_69_145 (by decide) (by decide) rfl (by decide) hn ?_
  refine sr_if_neN (tgt := 24) hA si_69_18 (by decide) (by omega) (fun c3 => ?_) (fun c3 => absurd c3 (by omega))
  refine sr_aload_n hA si_69_24 rfl ?_
  refine sr_getR (r := 49) hA si_69_25 sf_69_53 (by decide) (by decide) rfl rfl rfl ?_
  refine sr_iload_n hA si_69_28 rfl ?_
  refine sr_aaldN (r := (50 + k)) (n := 3) hA si_69_29 (by decide) (by decide) rfl (by omega) (by decide) (sp_kpr (by omega)) ?_
  refine sr_aload_n hA si_69_30 rfl ?_
  refine sr_getR (r := 47) hA si_69_31 sf_69_49 (by decide) (by decide) rfl rfl rfl ?_
  refine sr_VFv (c := (50 + k)) (ci := 6) (as := [.ref 47]) (st := []) hA si_69_34 sv_70 sk_69_220 (xc_takeK X g (k := k) (by omega) hd (by omega)) (by omega) rfl (by decide) (sp_kpK (by omega)) (sp_kpk (by omega)) sq_c_70 rfl (Nat.le_of_ble_eq_true rfl) ?_
  refine sr_aload_n hA si_69_37 rfl ?_
  refine sr_getR (r := 47) hA si_69_38 sf_69_49 (by decide) (by decide) rfl rfl rfl ?_
  refine sr_getIv (v := nI dm) hA si_69_41 sf_69_214 (by decide) (by decide) rfl (by decide) (by rw [sp_rdW, if_neg (by omega), sp_rd, if_neg (by omega), sp_rd, if_neg (by omega), sp_rd, if_neg (by omega)]; exact hd) ?_
  exact sr_iretF hA si_69_44 sq_r_69 rfl rfl
set_option maxRecDepth 20000 in
theorem ml_keep2 {X : sp_X} {a : sp_Ac} {g : sp_G} {k dm : Nat} (hk : k < 3) (hd : g.1 64 21 = nI dm) (hdb : dm ≤ 60) (hA : sp_Act X 187 9 (sp_Fi (nI dm) (sp_wA g 81 (va_cpy (g.1 76) (g.1 81) 0 (540 * k) (9 * dm)))) a) : ∀ (m : Nat) (i : Nat), i + m = 9 * dm → sp_Ev X a 187 81 [.ref 64, .int (nI k), .int (nI i)] [] (sp_wA g 81 (va_cpy (g.1 76) (g.1 81) 0 (540 * k) i)) := by
  intro m
  induction m with
  | zero =>
    intro i h0_
    refine sr_iload_n hA si_187_81 rfl ?_
    refine sr_bipush (v := nI 9) hA si_187_82 (by decide) ?_
    refine sr_aload_n hA si_187_84 rfl ?_
    refine sr_getIv (v := nI dm) hA si_187_85 sf_187_149 (by decide) (by decide) rfl (by decide) hd ?_
    refine sr_imulN hA si_187_88 ?_
    refine sr_icmp_geN (tgt := 116) hA si_187_89 (by decide) (by omega) (by omega) (fun c1 => ?_) (fun c1 => absurd c1 (by omega))
    refine sr_aload_n hA si_187_116 rfl ?_
    refine sr_getIv (v := nI dm) hA si_187_117 sf_187_149 (by decide) (by decide) rfl (by decide) hd ?_
    exact sr_iretF hA si_187_120 sq_r_187 rfl (by rw [show i = 9 * dm by omega])
  | succ m ih =>
    intro i h0_
    refine sr_iload_n hA si_187_81 rfl ?_
    refine sr_bipush (v := nI 9) hA si_187_82 (by decide) ?_
    refine sr_aload_n hA si_187_84 rfl ?_
    refine sr_getIv (v := nI dm) hA si_187_85 sf_187_149 (by decide) (by decide) rfl (by decide) hd ?_
    refine sr_imulN hA si_187_88 ?_
    refine sr_icmp_geN (tgt := 116) hA si_187_89 (by decide) (by omega) (by omega) (fun c1 => absurd c1 (by omega)) (fun c1 => ?_)
    refine sr_aload_n hA si_187_92 rfl ?_
    refine sr_getR (r := 81) hA si_187_93 sf_187_64 (by decide) (by decide) rfl rfl rfl ?_
    refine sr_sipush (v := nI 540) hA si_187_96 (by decide) ?_
    refine sr_iload_n hA si_187_99 rfl ?_
    refine sr_imulN hA si_187_100 ?_
    refine sr_iload_n hA si_187_101 rfl ?_
    refine sr_iaddN hA si_187_102 ?_
    refine sr_aload_n hA si_187_103 rfl ?_
    refine sr_getR (r := 76) hA si_187_104 sf_187_48 (by decide) (by decide) rfl rfl rfl ?_
    refine sr_iload_n hA si_187_107 rfl ?_
    refine sr_ialdNv (v := g.1 76 i) (n := 540) hA si_187_108 (by decide) rfl rfl (by omega) (by decide) rfl ?_
    refine sr_iastN (n := 1620) hA si_187_109 (by decide) rfl rfl (by omega) (by decide) ?_
    refine sr_iincN (x := i) (y := 1) (ls1 := [.ref 64, .int (nI k), .int (nI (i + 1))]) hA si_187_110 rfl rfl (by rw [sq_l_187]; decide) rfl ?_
    refine sr_goto (tgt := 81) hA si_187_113 (by decide) ?_
    have e := sp_cpyS g 81 (g.1 76) 0 (540 * k) i
    rw [Nat.zero_add] at e
    rw [e]
    exact ih (i + 1) (by omega)
set_option maxRecDepth 20000 in
theorem ml_keep1 {X : sp_X} {a : sp_Ac} {g g0 : sp_G} {k dm : Nat} (hk : k < 3) (hd : g.1 64 21 = nI dm) (hdb : dm ≤ 60) (hg : g0 = sp_wA (sp_wA g 80 (va_cpy (g.1 75) (g.1 80) 0 (9 * k) 9)) 81 (va_cpy (g.1 76) (g.1 81) 0 (540 * k) (9 * dm))) (hA : sp_Act X 187 9 (sp_Fi (nI dm) g0) a) : ∀ (m : Nat) (i : Nat), i + m = 9 → sp_Ev X a 187 50 [.ref 64, .int (nI k), .int (nI i)] [] (sp_wA g 80 (va_cpy (g.1 75) (g.1 80) 0 (9 * k) i)) := by
  intro m
  induction m with
  | zero =>
    intro i h0_
    refine sr_iload_n hA si_187_50 rfl ?_
    refine sr_bipush (v := nI 9) hA si_187_51 (by decide) ?_
    refine sr_icmp_geN (tgt := 79) hA si_187_53 (by decide) (by omega) (by omega) (fun c1 => ?_) (fun c1 => absurd c1 (by omega))
    refine sr_iconst (v := nI 0) hA si_187_79 (by decide) ?_
    refine sr_istore_n (ls1 := [.ref 64, .int (nI k), .int (nI 0)]) hA si_187_80 rfl (by rw [sq_l_187]; decide) rfl ?_
    obtain rfl : i = 9 := by omega
    subst hg
    have h0 := ml_keep2 (g := sp_wA g 80 (va_cpy (g.1 75) (g.1 80) 0 (9 * k) 9)) hk hd hdb hA (9 * dm) 0 (by omega)
    rw [sp_cpy0] at h0
    exact h0
  | succ m ih =>
    intro i h0_
    refine sr_iload_n hA si_187_50 rfl ?_
    refine sr_bipush (v := nI 9) hA si_187_51 (by decide) ?_
    refine sr_icmp_geN (tgt := 79) hA si_187_53 (by decide) (by omega) (by omega) (fun c1 => absurd c1 (by omega)) (fun c1 => ?_)
    refine sr_aload_n hA si_187_56 rfl ?_
    refine sr_getR (r := 80) hA si_187_57 sf_187_61 (by decide) (by decide) rfl rfl rfl ?_
    refine sr_bipush (v := nI 9) hA si_187_60 (by decide) ?_
    refine sr_iload_n hA si_187_62 rfl ?_
    refine sr_imulN hA si_187_63 ?_
    refine sr_iload_n hA si_187_64 rfl ?_
    refine sr_iaddN hA si_187_65 ?_
    refine sr_aload_n hA si_187_66 rfl ?_
    refine sr_iconst (v := nI 0) hA si_187_67 (by decide) ?_
    refine sr_iload_n hA si_187_68 rfl ?_
    refine sr_VFi (c := 64) (ci := 8) (as := [.int (nI 0), .int (nI i)]) (st := [.int (nI ((9 * k) + i)), .ref 80]) hA si_187_69 sv_164 sk_187_152 (mc_v X (sp_wA g 80 (va_cpy (g.1 75) (g.1 80) 0 (9 * k) i)) (f := 0) (i := i) (by omega)) (by omega) rfl (by decide) (by decide) rfl sq_c_164 rfl (Nat.le_of_ble_eq_true rfl) ?_
    refine sr_iastN (n := 27) hA si_187_72 (by decide) rfl rfl (by omega) (by decide) ?_
    refine sr_iincN (x := i) (y := 1) (ls1 := [.ref 64, .int (nI k), .int (nI (i + 1))]) hA si_187_73 rfl rfl (by rw [sq_l_187]; decide) rfl ?_
    refine sr_goto (tgt := 50) hA si_187_76 (by decide) ?_
    have e := sp_cpyS g 80 (g.1 75) 0 (9 * k) i
    have e2 : (sp_wA g 80 (va_cpy (g.1 75) (g.1 80) 0 (9 * k) i)).1 75 (9 * 0 + i) = g.1 75 (0 + i) := congrArg (g.1 75) (by omega)
    rw [e2, e]
    exact ih (i + 1) (by omega)
set_option maxRecDepth 20000 in
theorem mc_keep_d (X : sp_X) (g : sp_G) {k : Nat} (hk : k < 3) {n : Nat} (hn : g.1 64 11 = nI n) (hb : n ≤ 6) (hn0 : 0 < n) {dm : Nat} (hd : g.1 64 21 = nI dm) (hdb : dm ≤ 60) : sp_Ct X 9 187 [.ref 64, .int (nI k)] g (sp_Fi (nI dm) (sp_wA (sp_wA (sp_wI (sp_wI (sp_wI g 77 k (nI 1)) 78 k (nI dm)) 79 k (g.1 64 10)) 80 (va_cpy (g.1 75) (g.1 80) 0 (9 * k) 9)) 81 (va_cpy (g.1 76) (g.1 81) 0 (540 * k) (9 * dm)))) := by
  refine sp_walkN (n := 3) sq_p_187 sq_l_187 (Nat.le_of_ble_eq_true rfl) (fun a hA => ?_)
  show sp_Ev X a 187 0 [.ref 64, .int (nI k), .null] [] g
  refine sr_iload_n hA si_187_0 rfl ?_
  refine sr_iconst (v := nI 0) hA si_187_1 (by decide) ?_
  refine sr_iconst (v := nI 2) hA si_187_2 (by decide) ?_
  refine sr_SFi (as := [.int (nI k), .int (nI 0), .int (nI 2)]) (st := []) hA si_187_3 ss_135 sk_187_83 (mc_inN X g (by omega) (by omega) (by omega)) (by omega) rfl rfl (Nat.le_of_ble_eq_true rfl) ?_
  refine sr_if_neN (tgt := 11) hA si_187_6 (by decide) (by omega) (fun c1 => ?_) (fun c1 => absurd c1 (by omega))
  refine sr_aload_n hA si_187_11 rfl ?_
  refine sr_getIv (v := nI n) hA si_187_12 sf_187_142 (by decide) (by decide) rfl (by decide) hn ?_
  refine sr_if_neN (tgt := 21) hA si_187_15 (by decide) (by omega) (fun c2 => ?_) (fun c2 => absurd c2 (by omega))
  refine sr_aload_n hA si_187_21 rfl ?_
  refine sr_getR (r := 77) hA si_187_22 sf_187_51 (by decide) (by decide) rfl rfl rfl ?_
  refine sr_iload_n hA si_187_25 rfl ?_
  refine sr_iconst (v := nI 1) hA si_187_26 (by decide) ?_
  refine sr_zastN (n := 3) hA si_187_27 (by decide) rfl rfl (by omega) (by decide) (by decide) ?_
  refine sr_aload_n hA si_187_28 rfl ?_
  refine sr_getR (r := 78) hA si_187_29 sf_187_55 (by decide) (by decide) rfl rfl rfl ?_
  refine sr_iload_n hA si_187_32 rfl ?_
  refine sr_aload_n hA si_187_33 rfl ?_
  refine sr_getIv (v := nI dm) hA si_187_34 sf_187_149 (by decide) (by decide) rfl (by decide) hd ?_
  refine sr_iastN (n := 3) hA si_187_37 (by decide) rfl rfl (by omega) (by decide) ?_
  refine sr_aload_n hA si_187_38 rfl ?_
  refine sr_getR (r := 79) hA si_187_39 sf_187_58 (by decide) (by decide) rfl rfl rfl ?_
  refine sr_iload_n hA si_187_42 rfl ?_
  refine sr_aload_n hA si_187_43 rfl ?_
  refine sr_getIv (v := g.1 64 10) hA si_187_44 sf_187_76 (by decide) (by decide) rfl (by decide) rfl ?_
  refine sr_iastN (n := 3) hA si_187_47 (by decide) rfl rfl (by omega) (by decide) ?_
  refine sr_iconst (v := nI 0) hA si_187_48 (by decide) ?_
  refine sr_istore_n (ls1 := [.ref 64, .int (nI k), .int (nI 0)]) hA si_187_49 rfl (by rw [sq_l_187]; decide) rfl ?_
  have h0 := ml_keep1 (g := (sp_wI (sp_wI (sp_wI g 77 k (nI 1)) 78 k (nI dm)) 79 k (g.1 64 10))) (dm := dm) hk hd hdb rfl hA 9 0 (by omega)
  rw [sp_cpy0] at h0
  exact h0
theorem sp_toE {g : sp_G} {k m : Nat} {x y : Int32} (hk : k < 3) : sp_wA (sp_wI (sp_wI (sp_wI g 47 1 x) 47 2 y) 47 3 (nI 1)) 48 (va_cpy ((sp_wI (sp_wI (sp_wI g 47 1 x) 47 2 y) 47 3 (nI 1)).1 (53 + k)) ((sp_wI (sp_wI (sp_wI g 47 1 x) 47 2 y) 47 3 (nI 1)).1 48) 0 0 ((m + 1) * 9)) = sp_wA (sp_wI (sp_wI (sp_wI g 47 1 x) 47 2 y) 47 3 (nI 1)) 48 (va_cpy (g.1 (53 + k)) (g.1 48) 0 0 ((m + 1) * 9)) := by
  rw [sp_wI_ne (show 53 + k ≠ 47 by omega), sp_wI_ne (show 53 + k ≠ 47 by omega), sp_wI_ne (show 53 + k ≠ 47 by omega)]
  rfl
set_option maxRecDepth 20000 in
theorem xc_takeO (X : sp_X) (g : sp_G) {k m : Nat} (hk : k < 3) (hm : g.1 (50 + k) 1 = nI m) (hmb : m ≤ 60) : sp_Ct X 1 70 [.ref 47, .ref (50 + k)] g (sp_Fv (sp_wA (sp_wI (sp_wI (sp_wI g 47 1 (nI m)) 47 2 (g.1 (50 + k) 2)) 47 3 (nI 1)) 48 (va_cpy (g.1 (53 + k)) (g.1 48) 0 0 ((m + 1) * 9)))) := by
  refine sp_walkN (n := 2) sq_p_70 sq_l_70 (Nat.le_of_ble_eq_true rfl) (fun a hA => ?_)
  show sp_Ev X a 70 0 [.ref 47, .ref (50 + k)] [] g
  refine sr_aload_n hA si_70_0 rfl ?_
  refine sr_aload_n hA si_70_1 rfl ?_
  refine sr_getIv (v := nI m) hA si_70_2 sf_70_21 (by decide) (sp_kpK (by omega)) (sp_kpk (by omega)) (by decide) hm ?_
  refine sr_putI hA si_70_5 sf_70_21 rfl rfl (by decide) (by decide) rfl rfl ?_
  refine sr_aload_n hA si_70_8 rfl ?_
  refine sr_aload_n hA si_70_9 rfl ?_
  refine sr_getIv (v := g.1 (50 + k) 2) hA si_70_10 sf_70_17 (by decide) (sp_kpK (by omega)) (sp_kpk (by omega)) (by decide) (by simp [sp_wI, sp_wL, sp_wA, sp_up, show ¬ 50 + k = 47 by omega]) ?_
  refine sr_putI hA si_70_13 sf_70_17 rfl rfl (by decide) (by decide) rfl rfl ?_
  refine sr_aload_n hA si_70_16 rfl ?_
  refine sr_iconst (v := nI 1) hA si_70_17 (by decide) ?_
  refine sr_putZ hA si_70_18 sf_70_50 rfl rfl (by decide) (by decide) rfl rfl (by decide) ?_
  refine sr_aload_n hA si_70_21 rfl ?_
  refine sr_getR (r := (53 + k)) hA si_70_22 sf_70_11 (by decide) (sp_kpK (by omega)) (sp_kpk (by omega)) rfl (sp_kpr0 (by omega)) ?_
  refine sr_iconst (v := nI 0) hA si_70_25 (by decide) ?_
  refine sr_aload_n hA si_70_26 rfl ?_
  refine sr_getR (r := 48) hA si_70_27 sf_70_11 (by decide) (by decide) rfl rfl rfl ?_
  refine sr_iconst (v := nI 0) hA si_70_30 (by decide) ?_
  refine sr_aload_n hA si_70_31 rfl ?_
  refine sr_getIv (v := nI m) hA si_70_32 sf_70_21 (by decide) (by decide) rfl (by decide) rfl ?_
  refine sr_iconst (v := nI 1) hA si_70_35 (by decide) ?_
  refine sr_iaddN hA si_70_36 ?_
  refine sr_bipush (v := nI 9) hA si_70_37 (by decide) ?_
  refine sr_imulN hA si_70_39 ?_
  refine sr_copyN (n0 := 549) (n1 := 549) hA si_70_40 sk_70_35 sn_1 sn_2 sn_3 (by omega) (sp_kpK2 (by omega)) (by decide) (sp_kpk2 (by omega)) rfl (sp_kpl2 (by omega)) rfl (by omega) (by omega) (by decide) (by decide) (Nat.le_of_ble_eq_true rfl) ?_
  exact sr_vretF hA si_70_43 sq_r_70 (sp_toE (by omega))
set_option maxRecDepth 20000 in
theorem xc_on_a (X : sp_X) (g : sp_G) {k : Int32} (hk : k < 0) : sp_Ct X 9 71 [.ref 0, .int k] g (sp_Fi (-1) g) := by
  refine sp_walkN (n := 2) sq_p_71 sq_l_71 (Nat.le_of_ble_eq_true rfl) (fun a hA => ?_)
  show sp_Ev X a 71 0 [.ref 0, .int k] [] g
  refine sr_iload_n hA si_71_0 rfl ?_
  refine sr_if_lt (tgt := 9) hA si_71_1 (by decide) (fun c1 => ?_) (fun c1 => absurd hk c1)
  refine sr_iconst (v := (-1)) hA si_71_9 (by decide) ?_
  exact sr_iretF hA si_71_10 sq_r_71 rfl rfl
set_option maxRecDepth 20000 in
theorem xc_on_b (X : sp_X) (g : sp_G) {k : Nat} (hk : 3 ≤ k) (hkb : k < 2 ^ 31) : sp_Ct X 9 71 [.ref 0, .int (nI k)] g (sp_Fi (-1) g) := by
  refine sp_walkN (n := 2) sq_p_71 sq_l_71 (Nat.le_of_ble_eq_true rfl) (fun a hA => ?_)
  show sp_Ev X a 71 0 [.ref 0, .int (nI k)] [] g
  refine sr_iload_n hA si_71_0 rfl ?_
  refine sr_if_ltN (tgt := 9) hA si_71_1 (by decide) (by omega) ?_
  refine sr_iload_n hA si_71_4 rfl ?_
  refine sr_iconst (v := nI 3) hA si_71_5 (by decide) ?_
  refine sr_icmp_ltN (tgt := 11) hA si_71_6 (by decide) (by omega) (by omega) (fun c2 => absurd c2 (by omega)) (fun c2 => ?_)
  refine sr_iconst (v := (-1)) hA si_71_9 (by decide) ?_
  exact sr_iretF hA si_71_10 sq_r_71 rfl rfl
set_option maxRecDepth 20000 in
theorem xc_on_c (X : sp_X) (g : sp_G) {k : Nat} (hk : k < 3) (ht : g.1 (50 + k) 3 = nI 0) : sp_Ct X 9 71 [.ref 0, .int (nI k)] g (sp_Fi (-3) (sp_rx g 1)) := by
  refine sp_walkN (n := 2) sq_p_71 sq_l_71 (Nat.le_of_ble_eq_true rfl) (fun a hA => ?_)
  show sp_Ev X a 71 0 [.ref 0, .int (nI k)] [] g
  refine sr_iload_n hA si_71_0 rfl ?_
  refine sr_if_ltN (tgt := 9) hA si_71_1 (by decide) (by omega) ?_
  refine sr_iload_n hA si_71_4 rfl ?_
  refine sr_iconst (v := nI 3) hA si_71_5 (by decide) ?_
  refine sr_icmp_ltN (tgt := 11) hA si_71_6 (by decide) (by omega) (by omega) (fun c2 => ?_) (fun c2 => absurd c2 (by omega))
  refine sr_aload_n hA si_71_11 rfl ?_
  refine sr_getR (r := 49) hA si_71_12 sf_71_53 (by decide) (by decide) rfl rfl rfl ?_
  refine sr_iload_n hA si_71_15 rfl ?_
  refine sr_aaldN (r := (50 + k)) (n := 3) hA si_71_16 (by decide) (by decide) rfl (by omega) (by decide) (sp_kpr (by omega)) ?_
  refine sr_getIv (v := nI 0) hA si_71_17 sf_71_141 (by decide) (sp_kpK (by omega)) (sp_kpk (by omega)) (by decide) ht ?_
  refine sr_if_neN (tgt := 29) hA si_71_20 (by decide) (by omega) (fun c3 => absurd c3 (by omega)) (fun c3 => ?_)
  refine sr_aload_n hA si_71_23 rfl ?_
  refine sr_iconst (v := nI 1) hA si_71_24 (by decide) ?_
  refine sr_VFi (c := 0) (ci := 7) (as := [.int (nI 1)]) (st := []) hA si_71_25 sv_12 sk_71_76 (xc_refuse X g (by omega)) (by omega) rfl (by decide) (by decide) rfl sq_c_12 rfl (Nat.le_of_ble_eq_true rfl) ?_
  exact sr_iretF hA si_71_28 sq_r_71 rfl rfl
set_option maxRecDepth 20000 in
theorem mc_on_a (X : sp_X) (g : sp_G) {k : Int32} (hk : k < 0) : sp_Ct X 9 188 [.ref 64, .int k] g (sp_Fi (-1) g) := by
  refine sp_walkN (n := 3) sq_p_188 sq_l_188 (Nat.le_of_ble_eq_true rfl) (fun a hA => ?_)
  show sp_Ev X a 188 0 [.ref 64, .int k, .null] [] g
  refine sr_iload_n hA si_188_0 rfl ?_
  refine sr_iconst (v := nI 0) hA si_188_1 (by decide) ?_
  refine sr_iconst (v := nI 2) hA si_188_2 (by decide) ?_
  refine sr_SFi (as := [.int k, .int (nI 0), .int (nI 2)]) (st := []) hA si_188_3 ss_135 sk_188_83 (mc_inM X g hk (by omega)) (by omega) rfl rfl (Nat.le_of_ble_eq_true rfl) ?_
  refine sr_if_neN (tgt := 11) hA si_188_6 (by decide) (by omega) (fun c1 => absurd c1 (by omega)) (fun c1 => ?_)
  refine sr_iconst (v := (-1)) hA si_188_9 (by decide) ?_
  exact sr_iretF hA si_188_10 sq_r_188 rfl rfl
set_option maxRecDepth 20000 in
theorem mc_on_b (X : sp_X) (g : sp_G) {k : Nat} (hk : 3 ≤ k) (hkb : k < 2 ^ 31) : sp_Ct X 9 188 [.ref 64, .int (nI k)] g (sp_Fi (-1) g) := by
  refine sp_walkN (n := 3) sq_p_188 sq_l_188 (Nat.le_of_ble_eq_true rfl) (fun a hA => ?_)
  show sp_Ev X a 188 0 [.ref 64, .int (nI k), .null] [] g
  refine sr_iload_n hA si_188_0 rfl ?_
  refine sr_iconst (v := nI 0) hA si_188_1 (by decide) ?_
  refine sr_iconst (v := nI 2) hA si_188_2 (by decide) ?_
  refine sr_SFi (as := [.int (nI k), .int (nI 0), .int (nI 2)]) (st := []) hA si_188_3 ss_135 sk_188_83 (mc_inH X g (by omega) (by omega)) (by omega) rfl rfl (Nat.le_of_ble_eq_true rfl) ?_
  refine sr_if_neN (tgt := 11) hA si_188_6 (by decide) (by omega) (fun c1 => absurd c1 (by omega)) (fun c1 => ?_)
  refine sr_iconst (v := (-1)) hA si_188_9 (by decide) ?_
  exact sr_iretF hA si_188_10 sq_r_188 rfl rfl
set_option maxRecDepth 20000 in
theorem mc_on_c (X : sp_X) (g : sp_G) {k : Nat} (hk : k < 3) (ht : g.1 77 k = nI 0) : sp_Ct X 9 188 [.ref 64, .int (nI k)] g (sp_Fi (-3) (sp_rm6 g 1)) := by
  refine sp_walkN (n := 3) sq_p_188 sq_l_188 (Nat.le_of_ble_eq_true rfl) (fun a hA => ?_)
  show sp_Ev X a 188 0 [.ref 64, .int (nI k), .null] [] g
  refine sr_iload_n hA si_188_0 rfl ?_
  refine sr_iconst (v := nI 0) hA si_188_1 (by decide) ?_
  refine sr_iconst (v := nI 2) hA si_188_2 (by decide) ?_
  refine sr_SFi (as := [.int (nI k), .int (nI 0), .int (nI 2)]) (st := []) hA si_188_3 ss_135 sk_188_83 (mc_inN X g (by omega) (by omega) (by omega)) (by omega) rfl rfl (Nat.le_of_ble_eq_true rfl) ?_
  refine sr_if_neN (tgt := 11) hA si_188_6 (by decide) (by omega) (fun c1 => ?_) (fun c1 => absurd c1 (by omega))
  refine sr_aload_n hA si_188_11 rfl ?_
  refine sr_getR (r := 77) hA si_188_12 sf_188_51 (by decide) (by decide) rfl rfl rfl ?_
  refine sr_iload_n hA si_188_15 rfl ?_
  refine sr_zaldNv (v := nI 0) (n := 3) hA si_188_16 (by decide) rfl rfl (by omega) (by decide) ht ?_
  refine sr_if_neN (tgt := 26) hA si_188_17 (by decide) (by omega) (fun c2 => absurd c2 (by omega)) (fun c2 => ?_)
  refine sr_aload_n hA si_188_20 rfl ?_
  refine sr_iconst (v := nI 1) hA si_188_21 (by decide) ?_
  refine sr_VFi (c := 64) (ci := 8) (as := [.int (nI 1)]) (st := []) hA si_188_22 sv_141 sk_188_97 (mc_meets X g (by omega)) (by omega) rfl (by decide) (by decide) rfl sq_c_141 rfl (Nat.le_of_ble_eq_true rfl) ?_
  exact sr_iretF hA si_188_25 sq_r_188 rfl rfl
set_option maxRecDepth 20000 in
theorem xc_on_d (X : sp_X) (g : sp_G) {k : Nat} (hk : k < 3) (ht : g.1 (50 + k) 3 = nI 1) {m : Nat} (hm : g.1 (50 + k) 1 = nI m) (hmb : m ≤ 60) : sp_Ct X 9 71 [.ref 0, .int (nI k)] g (sp_Fi (nI m) (sp_sS (sp_wA (sp_wI (sp_wI (sp_wI g 47 1 (nI m)) 47 2 (g.1 (50 + k) 2)) 47 3 (nI 1)) 48 (va_cpy (g.1 (53 + k)) (g.1 48) 0 0 ((m + 1) * 9))) 41 42 (sp_gv (sp_wA (sp_wI (sp_wI (sp_wI g 47 1 (nI m)) 47 2 (g.1 (50 + k) 2)) 47 3 (nI 1)) 48 (va_cpy (g.1 (53 + k)) (g.1 48) 0 0 ((m + 1) * 9))) 48 m))) := by
  refine sp_walkN (n := 2) sq_p_71 sq_l_71 (Nat.le_of_ble_eq_true rfl) (fun a hA => ?_)
  show sp_Ev X a 71 0 [.ref 0, .int (nI k)] [] g
  refine sr_iload_n hA si_71_0 rfl ?_
  refine sr_if_ltN (tgt := 9) hA si_71_1 (by decide) (by omega) ?_
  refine sr_iload_n hA si_71_4 rfl ?_
  refine sr_iconst (v := nI 3) hA si_71_5 (by decide) ?_
  refine sr_icmp_ltN (tgt := 11) hA si_71_6 (by decide) (by omega) (by omega) (fun c2 => ?_) (fun c2 => absurd c2 (by omega))
  refine sr_aload_n hA si_71_11 rfl ?_
  refine sr_getR (r := 49) hA si_71_12 sf_71_53 (by decide) (by decide) rfl rfl rfl ?_
  refine sr_iload_n hA si_71_15 rfl ?_
  refine sr_aaldN (r := (50 + k)) (n := 3) hA si_71_16 (by decide) (by decide) rfl (by omega) (by decide) (sp_kpr (by omega)) ?_
  refine sr_getIv (v := nI 1) hA si_71_17 sf_71_141 (by decide) (sp_kpK (by omega)) (sp_kpk (by omega)) (by decide) ht ?_
  refine sr_if_neN (tgt := 29) hA si_71_20 (by decide) (by omega) (fun c3 => ?_) (fun c3 => absurd c3 (by omega))
  refine sr_aload_n hA si_71_29 rfl ?_
  refine sr_getR (r := 47) hA si_71_30 sf_71_49 (by decide) (by decide) rfl rfl rfl ?_
  refine sr_aload_n hA si_71_33 rfl ?_
  refine sr_getR (r := 49) hA si_71_34 sf_71_53 (by decide) (by decide) rfl rfl rfl ?_
  refine sr_iload_n hA si_71_37 rfl ?_
  refine sr_aaldN (r := (50 + k)) (n := 3) hA si_71_38 (by decide) (by decide) rfl (by omega) (by decide) (sp_kpr (by omega)) ?_
  refine sr_VFv (c := 47) (ci := 6) (as := [.ref (50 + k)]) (st := []) hA si_71_39 sv_70 sk_71_220 (xc_takeO X g (k := k) (by omega) hm (by omega)) (by omega) rfl (by decide) (by decide) rfl sq_c_70 rfl (Nat.le_of_ble_eq_true rfl) ?_
  refine sr_aload_n hA si_71_42 rfl ?_
  refine sr_getR (r := 47) hA si_71_43 sf_71_49 (by decide) (by decide) rfl rfl rfl ?_
  refine sr_aload_n hA si_71_46 rfl ?_
  refine sr_getR (r := 41) hA si_71_47 sf_71_36 (by decide) (by decide) rfl rfl rfl ?_
  refine sr_VFv (c := 47) (ci := 6) (as := [.ref 41]) (st := []) hA si_71_50 sv_67 sk_71_217 (xc_tell X (sp_wA (sp_wI (sp_wI (sp_wI g 47 1 (nI m)) 47 2 (g.1 (50 + k) 2)) 47 3 (nI 1)) 48 (va_cpy (g.1 (53 + k)) (g.1 48) 0 0 ((m + 1) * 9))) (dm := m) rfl (by omega)) (by omega) rfl (by decide) (by decide) rfl sq_c_67 rfl (Nat.le_of_ble_eq_true rfl) ?_
  refine sr_aload_n hA si_71_53 rfl ?_
  refine sr_getR (r := 47) hA si_71_54 sf_71_49 (by decide) (by decide) rfl rfl rfl ?_
  refine sr_getIv (v := nI m) hA si_71_57 sf_71_214 (by decide) (by decide) rfl (by decide) rfl ?_
  exact sr_iretF hA si_71_60 sq_r_71 rfl rfl
set_option maxRecDepth 20000 in
theorem ml_on2 {X : sp_X} {a : sp_Ac} {g : sp_G} {k m9 : Nat} (hk : k < 3) (hd : g.1 64 21 = nI m9) (hdb : m9 ≤ 60) (hA : sp_Act X 188 9 (sp_Fi (nI m9) (sp_wA g 76 (va_cpy (g.1 81) (g.1 76) (540 * k) 0 (9 * m9)))) a) : ∀ (m : Nat) (i : Nat), i + m = 9 * m9 → sp_Ev X a 188 79 [.ref 64, .int (nI k), .int (nI i)] [] (sp_wA g 76 (va_cpy (g.1 81) (g.1 76) (540 * k) 0 i)) := by
  intro m
  induction m with
  | zero =>
    intro i h0_
    refine sr_iload_n hA si_188_79 rfl ?_
    refine sr_bipush (v := nI 9) hA si_188_80 (by decide) ?_
    refine sr_aload_n hA si_188_82 rfl ?_
    refine sr_getIv (v := nI m9) hA si_188_83 sf_188_149 (by decide) (by decide) rfl (by decide) hd ?_
    refine sr_imulN hA si_188_86 ?_
    refine sr_icmp_geN (tgt := 114) hA si_188_87 (by decide) (by omega) (by omega) (fun c1 => ?_) (fun c1 => absurd c1 (by omega))
    refine sr_aload_n hA si_188_114 rfl ?_
    refine sr_getIv (v := nI m9) hA si_188_115 sf_188_149 (by decide) (by decide) rfl (by decide) hd ?_
    exact sr_iretF hA si_188_118 sq_r_188 rfl (by rw [show i = 9 * m9 by omega])
  | succ m ih =>
    intro i h0_
    refine sr_iload_n hA si_188_79 rfl ?_
    refine sr_bipush (v := nI 9) hA si_188_80 (by decide) ?_
    refine sr_aload_n hA si_188_82 rfl ?_
    refine sr_getIv (v := nI m9) hA si_188_83 sf_188_149 (by decide) (by decide) rfl (by decide) hd ?_
    refine sr_imulN hA si_188_86 ?_
    refine sr_icmp_geN (tgt := 114) hA si_188_87 (by decide) (by omega) (by omega) (fun c1 => absurd c1 (by omega)) (fun c1 => ?_)
    refine sr_aload_n hA si_188_90 rfl ?_
    refine sr_getR (r := 76) hA si_188_91 sf_188_48 (by decide) (by decide) rfl rfl rfl ?_
    refine sr_iload_n hA si_188_94 rfl ?_
    refine sr_aload_n hA si_188_95 rfl ?_
    refine sr_getR (r := 81) hA si_188_96 sf_188_64 (by decide) (by decide) rfl rfl rfl ?_
    refine sr_sipush (v := nI 540) hA si_188_99 (by decide) ?_
    refine sr_iload_n hA si_188_102 rfl ?_
    refine sr_imulN hA si_188_103 ?_
    refine sr_iload_n hA si_188_104 rfl ?_
    refine sr_iaddN hA si_188_105 ?_
    refine sr_ialdNv (v := g.1 81 ((540 * k) + i)) (n := 1620) hA si_188_106 (by decide) rfl rfl (by omega) (by decide) rfl ?_
    refine sr_iastN (n := 540) hA si_188_107 (by decide) rfl rfl (by omega) (by decide) ?_
    refine sr_iincN (x := i) (y := 1) (ls1 := [.ref 64, .int (nI k), .int (nI (i + 1))]) hA si_188_108 rfl rfl (by rw [sq_l_188]; decide) rfl ?_
    refine sr_goto (tgt := 79) hA si_188_111 (by decide) ?_
    have e := sp_cpyS g 76 (g.1 81) (540 * k) 0 i
    rw [Nat.zero_add] at e
    rw [e]
    exact ih (i + 1) (by omega)
set_option maxRecDepth 20000 in
theorem ml_on1 {X : sp_X} {a : sp_Ac} {g g0 : sp_G} {k m9 : Nat} (hk : k < 3) (hd : g.1 64 21 = nI m9) (hdb : m9 ≤ 60) (hg : g0 = sp_wA (sp_sP g 0 (fun j => g.1 80 (9 * k + j))) 76 (va_cpy (g.1 81) (g.1 76) (540 * k) 0 (9 * m9))) (hA : sp_Act X 188 9 (sp_Fi (nI m9) g0) a) : ∀ (m : Nat) (i : Nat), i + m = 9 → sp_Ev X a 188 48 [.ref 64, .int (nI k), .int (nI i)] [] (sp_sP g 0 (fun j => if j < i then g.1 80 (9 * k + j) else sp_pv g 0 j)) := by
  intro m
  induction m with
  | zero =>
    intro i h0_
    refine sr_iload_n hA si_188_48 rfl ?_
    refine sr_bipush (v := nI 9) hA si_188_49 (by decide) ?_
    refine sr_icmp_geN (tgt := 77) hA si_188_51 (by decide) (by omega) (by omega) (fun c1 => ?_) (fun c1 => absurd c1 (by omega))
    refine sr_iconst (v := nI 0) hA si_188_77 (by decide) ?_
    refine sr_istore_n (ls1 := [.ref 64, .int (nI k), .int (nI 0)]) hA si_188_78 rfl (by rw [sq_l_188]; decide) rfl ?_
    obtain rfl : i = 9 := by omega
    subst hg
    rw [sp_un9]
    have h0 := ml_on2 (g := sp_sP g 0 (fun j => g.1 80 (9 * k + j))) hk hd hdb hA (9 * m9) 0 (by omega)
    rw [sp_cpy0] at h0
    exact h0
  | succ m ih =>
    intro i h0_
    refine sr_iload_n hA si_188_48 rfl ?_
    refine sr_bipush (v := nI 9) hA si_188_49 (by decide) ?_
    refine sr_icmp_geN (tgt := 77) hA si_188_51 (by decide) (by omega) (by omega) (fun c1 => absurd c1 (by omega)) (fun c1 => ?_)
    refine sr_aload_n hA si_188_54 rfl ?_
    refine sr_iconst (v := nI 0) hA si_188_55 (by decide) ?_
    refine sr_iload_n hA si_188_56 rfl ?_
    refine sr_aload_n hA si_188_57 rfl ?_
    refine sr_getR (r := 80) hA si_188_58 sf_188_61 (by decide) (by decide) rfl rfl rfl ?_
    refine sr_bipush (v := nI 9) hA si_188_61 (by decide) ?_
    refine sr_iload_n hA si_188_63 rfl ?_
    refine sr_imulN hA si_188_64 ?_
    refine sr_iload_n hA si_188_65 rfl ?_
    refine sr_iaddN hA si_188_66 ?_
    refine sr_ialdNv (v := g.1 80 ((9 * k) + i)) (n := 27) hA si_188_67 (by decide) rfl rfl (by omega) (by decide) rfl ?_
    refine sr_VFv (c := 64) (ci := 8) (as := [.int (nI 0), .int (nI i), .int (g.1 80 ((9 * k) + i))]) (st := []) hA si_188_68 sv_160 sk_188_145 (mc_place X (sp_sP g 0 (fun j => if j < i then g.1 80 (9 * k + j) else sp_pv g 0 j)) (f := 0) (i := i) (by omega) (g.1 80 ((9 * k) + i))) (by omega) rfl (by decide) (by decide) rfl sq_c_160 rfl (Nat.le_of_ble_eq_true rfl) ?_
    refine sr_iincN (x := i) (y := 1) (ls1 := [.ref 64, .int (nI k), .int (nI (i + 1))]) hA si_188_71 rfl rfl (by rw [sq_l_188]; decide) rfl ?_
    refine sr_goto (tgt := 48) hA si_188_74 (by decide) ?_
    rw [sp_unS (q := 0) (by omega) (by decide)]
    exact ih (i + 1) (by omega)
set_option maxRecDepth 20000 in
theorem mc_on_d (X : sp_X) (g : sp_G) {k : Nat} (hk : k < 3) (ht : g.1 77 k = nI 1) {m : Nat} (hm : g.1 78 k = nI m) (hmb : m ≤ 60) : sp_Ct X 9 188 [.ref 64, .int (nI k)] g (sp_Fi (nI m) (sp_wA (sp_sP (sp_wI (sp_wI g 64 21 (nI m)) 64 10 (g.1 79 k)) 0 (fun j => g.1 80 (9 * k + j))) 76 (va_cpy (g.1 81) (g.1 76) (540 * k) 0 (9 * m)))) := by
  refine sp_walkN (n := 3) sq_p_188 sq_l_188 (Nat.le_of_ble_eq_true rfl) (fun a hA => ?_)
  show sp_Ev X a 188 0 [.ref 64, .int (nI k), .null] [] g
  refine sr_iload_n hA si_188_0 rfl ?_
  refine sr_iconst (v := nI 0) hA si_188_1 (by decide) ?_
  refine sr_iconst (v := nI 2) hA si_188_2 (by decide) ?_
  refine sr_SFi (as := [.int (nI k), .int (nI 0), .int (nI 2)]) (st := []) hA si_188_3 ss_135 sk_188_83 (mc_inN X g (by omega) (by omega) (by omega)) (by omega) rfl rfl (Nat.le_of_ble_eq_true rfl) ?_
  refine sr_if_neN (tgt := 11) hA si_188_6 (by decide) (by omega) (fun c1 => ?_) (fun c1 => absurd c1 (by omega))
  refine sr_aload_n hA si_188_11 rfl ?_
  refine sr_getR (r := 77) hA si_188_12 sf_188_51 (by decide) (by decide) rfl rfl rfl ?_
  refine sr_iload_n hA si_188_15 rfl ?_
  refine sr_zaldNv (v := nI 1) (n := 3) hA si_188_16 (by decide) rfl rfl (by omega) (by decide) ht ?_
  refine sr_if_neN (tgt := 26) hA si_188_17 (by decide) (by omega) (fun c2 => ?_) (fun c2 => absurd c2 (by omega))
  refine sr_aload_n hA si_188_26 rfl ?_
  refine sr_aload_n hA si_188_27 rfl ?_
  refine sr_getR (r := 78) hA si_188_28 sf_188_55 (by decide) (by decide) rfl rfl rfl ?_
  refine sr_iload_n hA si_188_31 rfl ?_
  refine sr_ialdNv (v := nI m) (n := 3) hA si_188_32 (by decide) rfl rfl (by omega) (by decide) hm ?_
  refine sr_putI hA si_188_33 sf_188_149 rfl rfl (by decide) (by decide) rfl rfl ?_
  refine sr_aload_n hA si_188_36 rfl ?_
  refine sr_aload_n hA si_188_37 rfl ?_
  refine sr_getR (r := 79) hA si_188_38 sf_188_58 (by decide) (by decide) rfl rfl rfl ?_
  refine sr_iload_n hA si_188_41 rfl ?_
  refine sr_ialdNv (v := g.1 79 k) (n := 3) hA si_188_42 (by decide) rfl rfl (by omega) (by decide) rfl ?_
  refine sr_putI hA si_188_43 sf_188_76 rfl rfl (by decide) (by decide) rfl rfl ?_
  refine sr_iconst (v := nI 0) hA si_188_46 (by decide) ?_
  refine sr_istore_n (ls1 := [.ref 64, .int (nI k), .int (nI 0)]) hA si_188_47 rfl (by rw [sq_l_188]; decide) rfl ?_
  have h0 := ml_on1 (g := (sp_wI (sp_wI g 64 21 (nI m)) 64 10 (g.1 79 k))) (m9 := m) hk rfl hmb rfl hA 9 0 (by omega)
  rw [sp_un0] at h0
  exact h0
