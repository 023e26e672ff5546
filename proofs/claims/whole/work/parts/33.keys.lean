theorem sr_taldNv {X : sp_X} {N d : Nat} {Rt : sp_Rt} {a : sp_Ac} {pc : Nat} {ls st : List Value} {g : sp_G} (hA : sp_Act X N d Rt a) {c i : Nat} {v : Int32} (hi : decode (sp_b N) pc = .ok (.iaload, 1)) (hc : c = 1001 ∨ c = 1002) (hin : i < 6) (hv : (sp_tb c).getD i 0 = v) (k : sp_Ev X a N (pc + 1) ls (.int v :: st) g) : sp_Ev X a N pc ls (.int (nI i) :: .ref c :: st) g := sr_taldN hA hi hc hin (by rw [hv]; exact k)
theorem sp_hi_max (d : Int32) : (if nI 0 < d then d else nI 0) = (if d < nI 0 then nI 0 else d) := by
  by_cases h1 : nI 0 < d
  · rw [if_pos h1, if_neg (fun q => Int32.lt_irrefl (Int32.lt_trans h1 q))]
  · rw [if_neg h1]
    by_cases h2 : d < nI 0
    · rw [if_pos h2]
    · rw [if_neg h2]
      exact Int32.le_antisymm (Int32.not_lt.mp h2) (Int32.not_lt.mp h1)
set_option maxRecDepth 20000 in
theorem xc_spade_a (X : sp_X) (g : sp_G) {v : Int32} (hv : v < 0) : sp_Ct X 9 52 [.ref 0, .int v] g (sp_Fi (-1) g) := by
  refine sp_walkN (n := 3) sq_p_52 sq_l_52 (Nat.le_of_ble_eq_true rfl) (fun a hA => ?_)
  show sp_Ev X a 52 0 [.ref 0, .int v, .null] [] g
  refine sr_iload_n hA si_52_0 rfl ?_
  refine sr_iconst (v := nI 1) hA si_52_1 (by decide) ?_
  refine sr_icmp_lt (tgt := 11) hA si_52_2 (by decide) (fun c1 => ?_) (fun c1 => absurd (sp_n1 hv (by omega)) c1)
  refine sr_iconst (v := (-1)) hA si_52_11 (by decide) ?_
  exact sr_iretF hA si_52_12 sq_r_52 rfl rfl
set_option maxRecDepth 20000 in
theorem xc_spade_b (X : sp_X) (g : sp_G)  : sp_Ct X 9 52 [.ref 0, .int (nI 0)] g (sp_Fi (-1) g) := by
  refine sp_walkN (n := 3) sq_p_52 sq_l_52 (Nat.le_of_ble_eq_true rfl) (fun a hA => ?_)
  show sp_Ev X a 52 0 [.ref 0, .int (nI 0), .null] [] g
  refine sr_iload_n hA si_52_0 rfl ?_
  refine sr_iconst (v := nI 1) hA si_52_1 (by decide) ?_
  refine sr_icmp_ltN (tgt := 11) hA si_52_2 (by decide) (by omega) (by omega) (fun c1 => ?_) (fun c1 => absurd c1 (by omega))
  refine sr_iconst (v := (-1)) hA si_52_11 (by decide) ?_
  exact sr_iretF hA si_52_12 sq_r_52 rfl rfl
set_option maxRecDepth 20000 in
theorem xc_spade_c (X : sp_X) (g : sp_G) {v : Nat} (hv : 10 ≤ v) (hvb : v < 2 ^ 31) : sp_Ct X 9 52 [.ref 0, .int (nI v)] g (sp_Fi (-1) g) := by
  refine sp_walkN (n := 3) sq_p_52 sq_l_52 (Nat.le_of_ble_eq_true rfl) (fun a hA => ?_)
  show sp_Ev X a 52 0 [.ref 0, .int (nI v), .null] [] g
  refine sr_iload_n hA si_52_0 rfl ?_
  refine sr_iconst (v := nI 1) hA si_52_1 (by decide) ?_
  refine sr_icmp_ltN (tgt := 11) hA si_52_2 (by decide) (by omega) (by omega) (fun c1 => absurd c1 (by omega)) (fun c1 => ?_)
  refine sr_iload_n hA si_52_5 rfl ?_
  refine sr_bipush (v := nI 9) hA si_52_6 (by decide) ?_
  refine sr_icmp_leN (tgt := 13) hA si_52_8 (by decide) (by omega) (by omega) (fun c2 => absurd c2 (by omega)) (fun c2 => ?_)
  refine sr_iconst (v := (-1)) hA si_52_11 (by decide) ?_
  exact sr_iretF hA si_52_12 sq_r_52 rfl rfl
set_option maxRecDepth 20000 in
theorem xc_spade_d (X : sp_X) (g : sp_G) {v : Nat} (hv : v < 10) (hv1 : 1 ≤ v) (hn : g.1 18 3 = nI 0) : sp_Ct X 9 52 [.ref 0, .int (nI v)] g (sp_Fi (-4) g) := by
  refine sp_walkN (n := 3) sq_p_52 sq_l_52 (Nat.le_of_ble_eq_true rfl) (fun a hA => ?_)
  show sp_Ev X a 52 0 [.ref 0, .int (nI v), .null] [] g
  refine sr_iload_n hA si_52_0 rfl ?_
  refine sr_iconst (v := nI 1) hA si_52_1 (by decide) ?_
  refine sr_icmp_ltN (tgt := 11) hA si_52_2 (by decide) (by omega) (by omega) (fun c1 => absurd c1 (by omega)) (fun c1 => ?_)
  refine sr_iload_n hA si_52_5 rfl ?_
  refine sr_bipush (v := nI 9) hA si_52_6 (by decide) ?_
  refine sr_icmp_leN (tgt := 13) hA si_52_8 (by decide) (by omega) (by omega) (fun c2 => ?_) (fun c2 => absurd c2 (by omega))
  refine sr_aload_n hA si_52_13 rfl ?_
  refine sr_getR (r := 18) hA si_52_14 sf_52_32 (by decide) (by decide) rfl rfl rfl ?_
  refine sr_getIv (v := nI 0) hA si_52_17 sf_52_145 (by decide) (by decide) rfl (by decide) hn ?_
  refine sr_if_neN (tgt := 26) hA si_52_20 (by decide) (by omega) (fun c3 => absurd c3 (by omega)) (fun c3 => ?_)
  refine sr_bipush (v := (-4)) hA si_52_23 (by decide) ?_
  exact sr_iretF hA si_52_25 sq_r_52 rfl rfl
set_option maxRecDepth 20000 in
theorem xc_spade_e (X : sp_X) (g : sp_G) {v : Nat} (hv : v < 10) (hv1 : 1 ≤ v) {n : Nat} (hn : g.1 18 3 = nI n) (hb : n ≤ 6) (hn0 : 0 < n) : sp_Ct X 9 52 [.ref 0, .int (nI v)] g (sp_Fi (g.1 47 2) (sp_wI g 47 2 (nI v))) := by
  refine sp_walkN (n := 3) sq_p_52 sq_l_52 (Nat.le_of_ble_eq_true rfl) (fun a hA => ?_)
  show sp_Ev X a 52 0 [.ref 0, .int (nI v), .null] [] g
  refine sr_iload_n hA si_52_0 rfl ?_
  refine sr_iconst (v := nI 1) hA si_52_1 (by decide) ?_
  refine sr_icmp_ltN (tgt := 11) hA si_52_2 (by decide) (by omega) (by omega) (fun c1 => absurd c1 (by omega)) (fun c1 => ?_)
  refine sr_iload_n hA si_52_5 rfl ?_
  refine sr_bipush (v := nI 9) hA si_52_6 (by decide) ?_
  refine sr_icmp_leN (tgt := 13) hA si_52_8 (by decide) (by omega) (by omega) (fun c2 => ?_) (fun c2 => absurd c2 (by omega))
  refine sr_aload_n hA si_52_13 rfl ?_
  refine sr_getR (r := 18) hA si_52_14 sf_52_32 (by decide) (by decide) rfl rfl rfl ?_
  refine sr_getIv (v := nI n) hA si_52_17 sf_52_145 (by decide) (by decide) rfl (by decide) hn ?_
  refine sr_if_neN (tgt := 26) hA si_52_20 (by decide) (by omega) (fun c3 => ?_) (fun c3 => absurd c3 (by omega))
  refine sr_aload_n hA si_52_26 rfl ?_
  refine sr_getR (r := 47) hA si_52_27 sf_52_49 (by decide) (by decide) rfl rfl rfl ?_
  refine sr_getIv (v := g.1 47 2) hA si_52_30 sf_52_184 (by decide) (by decide) rfl (by decide) rfl ?_
  refine sr_istore_n (ls1 := [.ref 0, .int (nI v), .int (g.1 47 2)]) hA si_52_33 rfl (by rw [sq_l_52]; decide) rfl ?_
  refine sr_aload_n hA si_52_34 rfl ?_
  refine sr_getR (r := 47) hA si_52_35 sf_52_49 (by decide) (by decide) rfl rfl rfl ?_
  refine sr_iload_n hA si_52_38 rfl ?_
  refine sr_putI hA si_52_39 sf_52_184 rfl rfl (by decide) (by decide) rfl rfl ?_
  refine sr_iload_n hA si_52_42 rfl ?_
  exact sr_iretF hA si_52_43 sq_r_52 rfl rfl
set_option maxRecDepth 20000 in
theorem mc_spade_a (X : sp_X) (g : sp_G) {v : Int32} (hv : v < 0) : sp_Ct X 9 172 [.ref 64, .int v] g (sp_Fi (-1) g) := by
  refine sp_walkN (n := 3) sq_p_172 sq_l_172 (Nat.le_of_ble_eq_true rfl) (fun a hA => ?_)
  show sp_Ev X a 172 0 [.ref 64, .int v, .null] [] g
  refine sr_iload_n hA si_172_0 rfl ?_
  refine sr_iconst (v := nI 1) hA si_172_1 (by decide) ?_
  refine sr_bipush (v := nI 9) hA si_172_2 (by decide) ?_
  refine sr_SFi (as := [.int v, .int (nI 1), .int (nI 9)]) (st := []) hA si_172_4 ss_135 sk_172_83 (mc_inM X g hv (by omega)) (by omega) rfl rfl (Nat.le_of_ble_eq_true rfl) ?_
  refine sr_if_neN (tgt := 12) hA si_172_7 (by decide) (by omega) (fun c1 => absurd c1 (by omega)) (fun c1 => ?_)
  refine sr_iconst (v := (-1)) hA si_172_10 (by decide) ?_
  exact sr_iretF hA si_172_11 sq_r_172 rfl rfl
set_option maxRecDepth 20000 in
theorem mc_spade_b (X : sp_X) (g : sp_G)  : sp_Ct X 9 172 [.ref 64, .int (nI 0)] g (sp_Fi (-1) g) := by
  refine sp_walkN (n := 3) sq_p_172 sq_l_172 (Nat.le_of_ble_eq_true rfl) (fun a hA => ?_)
  show sp_Ev X a 172 0 [.ref 64, .int (nI 0), .null] [] g
  refine sr_iload_n hA si_172_0 rfl ?_
  refine sr_iconst (v := nI 1) hA si_172_1 (by decide) ?_
  refine sr_bipush (v := nI 9) hA si_172_2 (by decide) ?_
  refine sr_SFi (as := [.int (nI 0), .int (nI 1), .int (nI 9)]) (st := []) hA si_172_4 ss_135 sk_172_83 (mc_inL X g (by omega) (by omega)) (by omega) rfl rfl (Nat.le_of_ble_eq_true rfl) ?_
  refine sr_if_neN (tgt := 12) hA si_172_7 (by decide) (by omega) (fun c1 => absurd c1 (by omega)) (fun c1 => ?_)
  refine sr_iconst (v := (-1)) hA si_172_10 (by decide) ?_
  exact sr_iretF hA si_172_11 sq_r_172 rfl rfl
set_option maxRecDepth 20000 in
theorem mc_spade_c (X : sp_X) (g : sp_G) {v : Nat} (hv : 10 ≤ v) (hvb : v < 2 ^ 31) : sp_Ct X 9 172 [.ref 64, .int (nI v)] g (sp_Fi (-1) g) := by
  refine sp_walkN (n := 3) sq_p_172 sq_l_172 (Nat.le_of_ble_eq_true rfl) (fun a hA => ?_)
  show sp_Ev X a 172 0 [.ref 64, .int (nI v), .null] [] g
  refine sr_iload_n hA si_172_0 rfl ?_
  refine sr_iconst (v := nI 1) hA si_172_1 (by decide) ?_
  refine sr_bipush (v := nI 9) hA si_172_2 (by decide) ?_
  refine sr_SFi (as := [.int (nI v), .int (nI 1), .int (nI 9)]) (st := []) hA si_172_4 ss_135 sk_172_83 (mc_inH X g (by omega) (by omega)) (by omega) rfl rfl (Nat.le_of_ble_eq_true rfl) ?_
  refine sr_if_neN (tgt := 12) hA si_172_7 (by decide) (by omega) (fun c1 => absurd c1 (by omega)) (fun c1 => ?_)
  refine sr_iconst (v := (-1)) hA si_172_10 (by decide) ?_
  exact sr_iretF hA si_172_11 sq_r_172 rfl rfl
set_option maxRecDepth 20000 in
theorem mc_spade_d (X : sp_X) (g : sp_G) {v : Nat} (hv : v < 10) (hv1 : 1 ≤ v) (hn : g.1 64 11 = nI 0) : sp_Ct X 9 172 [.ref 64, .int (nI v)] g (sp_Fi (-4) g) := by
  refine sp_walkN (n := 3) sq_p_172 sq_l_172 (Nat.le_of_ble_eq_true rfl) (fun a hA => ?_)
  show sp_Ev X a 172 0 [.ref 64, .int (nI v), .null] [] g
  refine sr_iload_n hA si_172_0 rfl ?_
  refine sr_iconst (v := nI 1) hA si_172_1 (by decide) ?_
  refine sr_bipush (v := nI 9) hA si_172_2 (by decide) ?_
  refine sr_SFi (as := [.int (nI v), .int (nI 1), .int (nI 9)]) (st := []) hA si_172_4 ss_135 sk_172_83 (mc_inN X g (by omega) (by omega) (by omega)) (by omega) rfl rfl (Nat.le_of_ble_eq_true rfl) ?_
  refine sr_if_neN (tgt := 12) hA si_172_7 (by decide) (by omega) (fun c1 => ?_) (fun c1 => absurd c1 (by omega))
  refine sr_aload_n hA si_172_12 rfl ?_
  refine sr_getIv (v := nI 0) hA si_172_13 sf_172_142 (by decide) (by decide) rfl (by decide) hn ?_
  refine sr_if_neN (tgt := 22) hA si_172_16 (by decide) (by omega) (fun c2 => absurd c2 (by omega)) (fun c2 => ?_)
  refine sr_bipush (v := (-4)) hA si_172_19 (by decide) ?_
  exact sr_iretF hA si_172_21 sq_r_172 rfl rfl
set_option maxRecDepth 20000 in
theorem mc_spade_e (X : sp_X) (g : sp_G) {v : Nat} (hv : v < 10) (hv1 : 1 ≤ v) {n : Nat} (hn : g.1 64 11 = nI n) (hb : n ≤ 6) (hn0 : 0 < n) : sp_Ct X 9 172 [.ref 64, .int (nI v)] g (sp_Fi (g.1 64 10) (sp_wI g 64 10 (nI v))) := by
  refine sp_walkN (n := 3) sq_p_172 sq_l_172 (Nat.le_of_ble_eq_true rfl) (fun a hA => ?_)
  show sp_Ev X a 172 0 [.ref 64, .int (nI v), .null] [] g
  refine sr_iload_n hA si_172_0 rfl ?_
  refine sr_iconst (v := nI 1) hA si_172_1 (by decide) ?_
  refine sr_bipush (v := nI 9) hA si_172_2 (by decide) ?_
  refine sr_SFi (as := [.int (nI v), .int (nI 1), .int (nI 9)]) (st := []) hA si_172_4 ss_135 sk_172_83 (mc_inN X g (by omega) (by omega) (by omega)) (by omega) rfl rfl (Nat.le_of_ble_eq_true rfl) ?_
  refine sr_if_neN (tgt := 12) hA si_172_7 (by decide) (by omega) (fun c1 => ?_) (fun c1 => absurd c1 (by omega))
  refine sr_aload_n hA si_172_12 rfl ?_
  refine sr_getIv (v := nI n) hA si_172_13 sf_172_142 (by decide) (by decide) rfl (by decide) hn ?_
  refine sr_if_neN (tgt := 22) hA si_172_16 (by decide) (by omega) (fun c2 => ?_) (fun c2 => absurd c2 (by omega))
  refine sr_aload_n hA si_172_22 rfl ?_
  refine sr_getIv (v := g.1 64 10) hA si_172_23 sf_172_76 (by decide) (by decide) rfl (by decide) rfl ?_
  refine sr_istore_n (ls1 := [.ref 64, .int (nI v), .int (g.1 64 10)]) hA si_172_26 rfl (by rw [sq_l_172]; decide) rfl ?_
  refine sr_aload_n hA si_172_27 rfl ?_
  refine sr_iload_n hA si_172_28 rfl ?_
  refine sr_putI hA si_172_29 sf_172_76 rfl rfl (by decide) (by decide) rfl rfl ?_
  refine sr_iload_n hA si_172_32 rfl ?_
  exact sr_iretF hA si_172_33 sq_r_172 rfl rfl
set_option maxRecDepth 20000 in
theorem xc_can (X : sp_X) (g : sp_G) {n : Nat} (hn : g.1 18 3 = nI n) (hb : n ≤ 6) (hK : sp_kk g 19 n) : sp_Ct X 9 68 [.ref 0] g (sp_Fi (nI (sp_st (fun i => sp_cb (g.1 19 i) (g.1 20 i) (g.1 42 i)) n)) g) := by
  refine sp_walkN (n := 1) sq_p_68 sq_l_68 (Nat.le_of_ble_eq_true rfl) (fun a hA => ?_)
  show sp_Ev X a 68 0 [.ref 0] [] g
  refine sr_aload_n hA si_68_0 rfl ?_
  refine sr_getR (r := 18) hA si_68_1 sf_68_32 (by decide) (by decide) rfl rfl rfl ?_
  refine sr_aload_n hA si_68_4 rfl ?_
  refine sr_getR (r := 41) hA si_68_5 sf_68_36 (by decide) (by decide) rfl rfl rfl ?_
  refine sr_VFi (c := 18) (ci := 0) (as := [.ref 41]) (st := []) hA si_68_8 sv_50 sk_68_175 (xc_playable X g sp_sd41 (n := n) hn (by omega) hK) (by omega) rfl (by decide) (by decide) rfl sq_c_50 rfl (Nat.le_of_ble_eq_true rfl) ?_
  exact sr_iretF hA si_68_11 sq_r_68 rfl rfl
set_option maxRecDepth 20000 in
theorem mc_can (X : sp_X) (g : sp_G) {n : Nat} (hn : g.1 64 11 = nI n) (hb : n ≤ 6) (hK : sp_kk g 71 n) : sp_Ct X 9 186 [.ref 64] g (sp_Fi (nI (sp_st (fun i => sp_cb (g.1 71 i) (g.1 72 i) (g.1 75 (9 * 0 + i))) n)) g) := by
  refine sp_walkN (n := 1) sq_p_186 sq_l_186 (Nat.le_of_ble_eq_true rfl) (fun a hA => ?_)
  show sp_Ev X a 186 0 [.ref 64] [] g
  refine sr_aload_n hA si_186_0 rfl ?_
  refine sr_iconst (v := nI 0) hA si_186_1 (by decide) ?_
  refine sr_VFi (c := 64) (ci := 8) (as := [.int (nI 0)]) (st := []) hA si_186_2 sv_170 sk_186_183 (mc_canSet X g (f := 0) (n := n) hn (by omega) (by omega) hK) (by omega) rfl (by decide) (by decide) rfl sq_c_170 rfl (Nat.le_of_ble_eq_true rfl) ?_
  exact sr_iretF hA si_186_5 sq_r_186 rfl rfl
set_option maxRecDepth 20000 in
theorem xc_kt0 (X : sp_X) (g : sp_G) {i : Nat} (hi : i < 6) : sp_Ct X 2 44 [.ref 0, .int (nI i), .int (nI 0)] g (sp_Fi (g.1 19 i) g) := by
  refine sp_walkN (n := 3) sq_p_44 sq_l_44 (Nat.le_of_ble_eq_true rfl) (fun a hA => ?_)
  show sp_Ev X a 44 0 [.ref 0, .int (nI i), .int (nI 0)] [] g
  refine sr_iload_n hA si_44_0 rfl ?_
  refine sr_tswI (c := nI 0) (tgt := 32) hA si_44_1 rfl (by decide) (by decide) rfl (by decide) ?_
  refine sr_aload_n hA si_44_32 rfl ?_
  refine sr_getR (r := 18) hA si_44_33 sf_44_32 (by decide) (by decide) rfl rfl rfl ?_
  refine sr_getR (r := 19) hA si_44_36 sf_44_313 (by decide) (by decide) rfl rfl rfl ?_
  refine sr_iload_n hA si_44_39 rfl ?_
  refine sr_ialdNv (v := g.1 19 i) (n := 6) hA si_44_40 (by decide) rfl rfl (by omega) (by decide) rfl ?_
  exact sr_iretF hA si_44_41 sq_r_44 rfl rfl
set_option maxRecDepth 20000 in
theorem xc_kt1 (X : sp_X) (g : sp_G) {i : Nat} (hi : i < 6) : sp_Ct X 2 44 [.ref 0, .int (nI i), .int (nI 1)] g (sp_Fi (g.1 20 i) g) := by
  refine sp_walkN (n := 3) sq_p_44 sq_l_44 (Nat.le_of_ble_eq_true rfl) (fun a hA => ?_)
  show sp_Ev X a 44 0 [.ref 0, .int (nI i), .int (nI 1)] [] g
  refine sr_iload_n hA si_44_0 rfl ?_
  refine sr_tswI (c := nI 1) (tgt := 42) hA si_44_1 rfl (by decide) (by decide) rfl (by decide) ?_
  refine sr_aload_n hA si_44_42 rfl ?_
  refine sr_getR (r := 18) hA si_44_43 sf_44_32 (by decide) (by decide) rfl rfl rfl ?_
  refine sr_getR (r := 20) hA si_44_46 sf_44_166 (by decide) (by decide) rfl rfl rfl ?_
  refine sr_iload_n hA si_44_49 rfl ?_
  refine sr_ialdNv (v := g.1 20 i) (n := 6) hA si_44_50 (by decide) rfl rfl (by omega) (by decide) rfl ?_
  exact sr_iretF hA si_44_51 sq_r_44 rfl rfl
set_option maxRecDepth 20000 in
theorem xc_kt2 (X : sp_X) (g : sp_G) {i : Nat} (hi : i < 6) : sp_Ct X 2 44 [.ref 0, .int (nI i), .int (nI 2)] g (sp_Fi (g.1 42 i) g) := by
  refine sp_walkN (n := 3) sq_p_44 sq_l_44 (Nat.le_of_ble_eq_true rfl) (fun a hA => ?_)
  show sp_Ev X a 44 0 [.ref 0, .int (nI i), .int (nI 2)] [] g
  refine sr_iload_n hA si_44_0 rfl ?_
  refine sr_tswI (c := nI 2) (tgt := 52) hA si_44_1 rfl (by decide) (by decide) rfl (by decide) ?_
  refine sr_aload_n hA si_44_52 rfl ?_
  refine sr_getR (r := 41) hA si_44_53 sf_44_36 (by decide) (by decide) rfl rfl rfl ?_
  refine sr_getR (r := 42) hA si_44_56 sf_44_158 (by decide) (by decide) rfl rfl rfl ?_
  refine sr_iload_n hA si_44_59 rfl ?_
  refine sr_ialdNv (v := g.1 42 i) (n := 6) hA si_44_60 (by decide) rfl rfl (by omega) (by decide) rfl ?_
  exact sr_iretF hA si_44_61 sq_r_44 rfl rfl
set_option maxRecDepth 20000 in
theorem xc_kt3 (X : sp_X) (g : sp_G) {i : Nat} (hi : i < 6) : sp_Ct X 2 44 [.ref 0, .int (nI i), .int (nI 3)] g (sp_Fi (g.1 21 i) g) := by
  refine sp_walkN (n := 3) sq_p_44 sq_l_44 (Nat.le_of_ble_eq_true rfl) (fun a hA => ?_)
  show sp_Ev X a 44 0 [.ref 0, .int (nI i), .int (nI 3)] [] g
  refine sr_iload_n hA si_44_0 rfl ?_
  refine sr_tswI (c := nI 3) (tgt := 62) hA si_44_1 rfl (by decide) (by decide) rfl (by decide) ?_
  refine sr_aload_n hA si_44_62 rfl ?_
  refine sr_getR (r := 18) hA si_44_63 sf_44_32 (by decide) (by decide) rfl rfl rfl ?_
  refine sr_getR (r := 21) hA si_44_66 sf_44_199 (by decide) (by decide) rfl rfl rfl ?_
  refine sr_iload_n hA si_44_69 rfl ?_
  refine sr_ialdNv (v := g.1 21 i) (n := 6) hA si_44_70 (by decide) rfl rfl (by omega) (by decide) rfl ?_
  exact sr_iretF hA si_44_71 sq_r_44 rfl rfl
set_option maxRecDepth 20000 in
theorem xc_kt4F (X : sp_X) (g : sp_G) {i : Nat} (hi : i < 6)  {k : Nat} (hk : g.1 19 i = nI k) (hkb : k ≤ 5) (hcb : ¬ sp_cb (g.1 19 i) (g.1 20 i) (g.1 42 i) = true) : sp_Ct X 2 44 [.ref 0, .int (nI i), .int (nI 4)] g (sp_Fi (nI 0) g) := by
  refine sp_walkN (n := 3) sq_p_44 sq_l_44 (Nat.le_of_ble_eq_true rfl) (fun a hA => ?_)
  show sp_Ev X a 44 0 [.ref 0, .int (nI i), .int (nI 4)] [] g
  refine sr_iload_n hA si_44_0 rfl ?_
  refine sr_tswO (tgt := 72) hA si_44_1 (by decide) (by decide) ?_
  refine sr_aload_n hA si_44_72 rfl ?_
  refine sr_getR (r := 18) hA si_44_73 sf_44_32 (by decide) (by decide) rfl rfl rfl ?_
  refine sr_iload_n hA si_44_76 rfl ?_
  refine sr_aload_n hA si_44_77 rfl ?_
  refine sr_getR (r := 41) hA si_44_78 sf_44_36 (by decide) (by decide) rfl rfl rfl ?_
  refine sr_VFi (c := 18) (ci := 0) (as := [.int (nI i), .ref 41]) (st := []) hA si_44_81 sv_45 sk_44_185 (xc_bears0 X g sp_sd41 (i := i) (by omega) hk hkb hcb) (by omega) rfl (by decide) (by decide) rfl sq_c_45 rfl (Nat.le_of_ble_eq_true rfl) ?_
  refine sr_if_eqN (tgt := 91) hA si_44_84 (by decide) (by omega) (fun c1 => ?_) (fun c1 => absurd c1 (by omega))
  refine sr_iconst (v := nI 0) hA si_44_91 (by decide) ?_
  exact sr_iretF hA si_44_92 sq_r_44 rfl rfl
set_option maxRecDepth 20000 in
theorem xc_kt4T (X : sp_X) (g : sp_G) {i : Nat} (hi : i < 6)  {k : Nat} (hk : g.1 19 i = nI k) (hkb : k ≤ 5) (hcb : sp_cb (g.1 19 i) (g.1 20 i) (g.1 42 i) = true) : sp_Ct X 2 44 [.ref 0, .int (nI i), .int (nI 4)] g (sp_Fi (nI 1) g) := by
  refine sp_walkN (n := 3) sq_p_44 sq_l_44 (Nat.le_of_ble_eq_true rfl) (fun a hA => ?_)
  show sp_Ev X a 44 0 [.ref 0, .int (nI i), .int (nI 4)] [] g
  refine sr_iload_n hA si_44_0 rfl ?_
  refine sr_tswO (tgt := 72) hA si_44_1 (by decide) (by decide) ?_
  refine sr_aload_n hA si_44_72 rfl ?_
  refine sr_getR (r := 18) hA si_44_73 sf_44_32 (by decide) (by decide) rfl rfl rfl ?_
  refine sr_iload_n hA si_44_76 rfl ?_
  refine sr_aload_n hA si_44_77 rfl ?_
  refine sr_getR (r := 41) hA si_44_78 sf_44_36 (by decide) (by decide) rfl rfl rfl ?_
  refine sr_VFi (c := 18) (ci := 0) (as := [.int (nI i), .ref 41]) (st := []) hA si_44_81 sv_45 sk_44_185 (xc_bears1 X g sp_sd41 (i := i) (by omega) hk hkb hcb) (by omega) rfl (by decide) (by decide) rfl sq_c_45 rfl (Nat.le_of_ble_eq_true rfl) ?_
  refine sr_if_eqN (tgt := 91) hA si_44_84 (by decide) (by omega) (fun c1 => absurd c1 (by omega)) (fun c1 => ?_)
  refine sr_iconst (v := nI 1) hA si_44_87 (by decide) ?_
  refine sr_goto (tgt := 92) hA si_44_88 (by decide) ?_
  exact sr_iretF hA si_44_92 sq_r_44 rfl rfl
set_option maxRecDepth 20000 in
theorem mc_kt0 (X : sp_X) (g : sp_G) {i : Nat} (hi : i < 6) : sp_Ct X 2 163 [.ref 64, .int (nI i), .int (nI 0)] g (sp_Fi (g.1 71 i) g) := by
  refine sp_walkN (n := 3) sq_p_163 sq_l_163 (Nat.le_of_ble_eq_true rfl) (fun a hA => ?_)
  show sp_Ev X a 163 0 [.ref 64, .int (nI i), .int (nI 0)] [] g
  refine sr_iload_n hA si_163_0 rfl ?_
  refine sr_tswI (c := nI 0) (tgt := 32) hA si_163_1 rfl (by decide) (by decide) rfl (by decide) ?_
  refine sr_aload_n hA si_163_32 rfl ?_
  refine sr_getR (r := 71) hA si_163_33 sf_163_33 (by decide) (by decide) rfl rfl rfl ?_
  refine sr_iload_n hA si_163_36 rfl ?_
  refine sr_ialdNv (v := g.1 71 i) (n := 6) hA si_163_37 (by decide) rfl rfl (by omega) (by decide) rfl ?_
  exact sr_iretF hA si_163_38 sq_r_163 rfl rfl
set_option maxRecDepth 20000 in
theorem mc_kt1 (X : sp_X) (g : sp_G) {i : Nat} (hi : i < 6) : sp_Ct X 2 163 [.ref 64, .int (nI i), .int (nI 1)] g (sp_Fi (g.1 72 i) g) := by
  refine sp_walkN (n := 3) sq_p_163 sq_l_163 (Nat.le_of_ble_eq_true rfl) (fun a hA => ?_)
  show sp_Ev X a 163 0 [.ref 64, .int (nI i), .int (nI 1)] [] g
  refine sr_iload_n hA si_163_0 rfl ?_
  refine sr_tswI (c := nI 1) (tgt := 39) hA si_163_1 rfl (by decide) (by decide) rfl (by decide) ?_
  refine sr_aload_n hA si_163_39 rfl ?_
  refine sr_getR (r := 72) hA si_163_40 sf_163_36 (by decide) (by decide) rfl rfl rfl ?_
  refine sr_iload_n hA si_163_43 rfl ?_
  refine sr_ialdNv (v := g.1 72 i) (n := 6) hA si_163_44 (by decide) rfl rfl (by omega) (by decide) rfl ?_
  exact sr_iretF hA si_163_45 sq_r_163 rfl rfl
set_option maxRecDepth 20000 in
theorem mc_kt2 (X : sp_X) (g : sp_G) {i : Nat} (hi : i < 6) : sp_Ct X 2 163 [.ref 64, .int (nI i), .int (nI 2)] g (sp_Fi (g.1 75 (9 * 0 + i)) g) := by
  refine sp_walkN (n := 3) sq_p_163 sq_l_163 (Nat.le_of_ble_eq_true rfl) (fun a hA => ?_)
  show sp_Ev X a 163 0 [.ref 64, .int (nI i), .int (nI 2)] [] g
  refine sr_iload_n hA si_163_0 rfl ?_
  refine sr_tswI (c := nI 2) (tgt := 46) hA si_163_1 rfl (by decide) (by decide) rfl (by decide) ?_
  refine sr_aload_n hA si_163_46 rfl ?_
  refine sr_iconst (v := nI 0) hA si_163_47 (by decide) ?_
  refine sr_iload_n hA si_163_48 rfl ?_
  refine sr_VFi (c := 64) (ci := 8) (as := [.int (nI 0), .int (nI i)]) (st := []) hA si_163_49 sv_164 sk_163_152 (mc_v X g (f := 0) (i := i) (by omega)) (by omega) rfl (by decide) (by decide) rfl sq_c_164 rfl (Nat.le_of_ble_eq_true rfl) ?_
  exact sr_iretF hA si_163_52 sq_r_163 rfl rfl
set_option maxRecDepth 20000 in
theorem mc_kt3 (X : sp_X) (g : sp_G) {i : Nat} (hi : i < 6) : sp_Ct X 2 163 [.ref 64, .int (nI i), .int (nI 3)] g (sp_Fi (g.1 73 i) g) := by
  refine sp_walkN (n := 3) sq_p_163 sq_l_163 (Nat.le_of_ble_eq_true rfl) (fun a hA => ?_)
  show sp_Ev X a 163 0 [.ref 64, .int (nI i), .int (nI 3)] [] g
  refine sr_iload_n hA si_163_0 rfl ?_
  refine sr_tswI (c := nI 3) (tgt := 53) hA si_163_1 rfl (by decide) (by decide) rfl (by decide) ?_
  refine sr_aload_n hA si_163_53 rfl ?_
  refine sr_getR (r := 73) hA si_163_54 sf_163_39 (by decide) (by decide) rfl rfl rfl ?_
  refine sr_iload_n hA si_163_57 rfl ?_
  refine sr_ialdNv (v := g.1 73 i) (n := 6) hA si_163_58 (by decide) rfl rfl (by omega) (by decide) rfl ?_
  exact sr_iretF hA si_163_59 sq_r_163 rfl rfl
set_option maxRecDepth 20000 in
theorem mc_kt4F (X : sp_X) (g : sp_G) {i : Nat} (hi : i < 6)  {k : Nat} (hk : g.1 71 i = nI k) (hkb : k ≤ 5) (hcb : ¬ sp_cb (g.1 71 i) (g.1 72 i) (g.1 75 (9 * 0 + i)) = true) : sp_Ct X 2 163 [.ref 64, .int (nI i), .int (nI 4)] g (sp_Fi (nI 0) g) := by
  refine sp_walkN (n := 3) sq_p_163 sq_l_163 (Nat.le_of_ble_eq_true rfl) (fun a hA => ?_)
  show sp_Ev X a 163 0 [.ref 64, .int (nI i), .int (nI 4)] [] g
  refine sr_iload_n hA si_163_0 rfl ?_
  refine sr_tswO (tgt := 60) hA si_163_1 (by decide) (by decide) ?_
  refine sr_aload_n hA si_163_60 rfl ?_
  refine sr_iconst (v := nI 0) hA si_163_61 (by decide) ?_
  refine sr_iload_n hA si_163_62 rfl ?_
  refine sr_VFi (c := 64) (ci := 8) (as := [.int (nI 0), .int (nI i)]) (st := []) hA si_163_63 sv_165 sk_163_155 (mc_canPlay0 X g (f := 0) (i := i) (by omega) (by omega) hk hkb hcb) (by omega) rfl (by decide) (by decide) rfl sq_c_165 rfl (Nat.le_of_ble_eq_true rfl) ?_
  refine sr_if_eqN (tgt := 73) hA si_163_66 (by decide) (by omega) (fun c1 => ?_) (fun c1 => absurd c1 (by omega))
  refine sr_iconst (v := nI 0) hA si_163_73 (by decide) ?_
  exact sr_iretF hA si_163_74 sq_r_163 rfl rfl
set_option maxRecDepth 20000 in
theorem mc_kt4T (X : sp_X) (g : sp_G) {i : Nat} (hi : i < 6)  {k : Nat} (hk : g.1 71 i = nI k) (hkb : k ≤ 5) (hcb : sp_cb (g.1 71 i) (g.1 72 i) (g.1 75 (9 * 0 + i)) = true) : sp_Ct X 2 163 [.ref 64, .int (nI i), .int (nI 4)] g (sp_Fi (nI 1) g) := by
  refine sp_walkN (n := 3) sq_p_163 sq_l_163 (Nat.le_of_ble_eq_true rfl) (fun a hA => ?_)
  show sp_Ev X a 163 0 [.ref 64, .int (nI i), .int (nI 4)] [] g
  refine sr_iload_n hA si_163_0 rfl ?_
  refine sr_tswO (tgt := 60) hA si_163_1 (by decide) (by decide) ?_
  refine sr_aload_n hA si_163_60 rfl ?_
  refine sr_iconst (v := nI 0) hA si_163_61 (by decide) ?_
  refine sr_iload_n hA si_163_62 rfl ?_
  refine sr_VFi (c := 64) (ci := 8) (as := [.int (nI 0), .int (nI i)]) (st := []) hA si_163_63 sv_165 sk_163_155 (mc_canPlay1 X g (f := 0) (i := i) (by omega) (by omega) hk hkb hcb) (by omega) rfl (by decide) (by decide) rfl sq_c_165 rfl (Nat.le_of_ble_eq_true rfl) ?_
  refine sr_if_eqN (tgt := 73) hA si_163_66 (by decide) (by omega) (fun c1 => absurd c1 (by omega)) (fun c1 => ?_)
  refine sr_iconst (v := nI 1) hA si_163_69 (by decide) ?_
  refine sr_goto (tgt := 74) hA si_163_70 (by decide) ?_
  exact sr_iretF hA si_163_74 sq_r_163 rfl rfl
set_option maxRecDepth 20000 in
theorem xc_key_a (X : sp_X) (g : sp_G) {i : Int32} (hi : i < 0) (w : Int32) {n : Nat} (hn : g.1 18 3 = nI n) : sp_Ct X 9 42 [.ref 0, .int i, .int w] g (sp_Fi (-1) g) := by
  refine sp_walkN (n := 3) sq_p_42 sq_l_42 (Nat.le_of_ble_eq_true rfl) (fun a hA => ?_)
  show sp_Ev X a 42 0 [.ref 0, .int i, .int w] [] g
  refine sr_aload_n hA si_42_0 rfl ?_
  refine sr_getR (r := 18) hA si_42_1 sf_42_32 (by decide) (by decide) rfl rfl rfl ?_
  refine sr_iload_n hA si_42_4 rfl ?_
  refine sr_VFi (c := 18) (ci := 0) (as := [.int i]) (st := []) hA si_42_5 sv_43 sk_42_148 (xc_isKeyM X g hi) (by omega) rfl (by decide) (by decide) rfl sq_c_43 rfl (Nat.le_of_ble_eq_true rfl) ?_
  refine sr_if_eqN (tgt := 20) hA si_42_8 (by decide) (by omega) (fun c1 => ?_) (fun c1 => absurd c1 (by omega))
  refine sr_iconst (v := (-1)) hA si_42_20 (by decide) ?_
  exact sr_iretF hA si_42_21 sq_r_42 rfl rfl
set_option maxRecDepth 20000 in
theorem xc_key_b (X : sp_X) (g : sp_G) {i : Nat} (hib : i < 2 ^ 31) (w : Int32) {n : Nat} (hn : g.1 18 3 = nI n) (hb : n ≤ 6) (hi : n ≤ i) : sp_Ct X 9 42 [.ref 0, .int (nI i), .int w] g (sp_Fi (-1) g) := by
  refine sp_walkN (n := 3) sq_p_42 sq_l_42 (Nat.le_of_ble_eq_true rfl) (fun a hA => ?_)
  show sp_Ev X a 42 0 [.ref 0, .int (nI i), .int w] [] g
  refine sr_aload_n hA si_42_0 rfl ?_
  refine sr_getR (r := 18) hA si_42_1 sf_42_32 (by decide) (by decide) rfl rfl rfl ?_
  refine sr_iload_n hA si_42_4 rfl ?_
  refine sr_VFi (c := 18) (ci := 0) (as := [.int (nI i)]) (st := []) hA si_42_5 sv_43 sk_42_148 (xc_isKeyH X g (n := n) hn (by omega) (by omega)) (by omega) rfl (by decide) (by decide) rfl sq_c_43 rfl (Nat.le_of_ble_eq_true rfl) ?_
  refine sr_if_eqN (tgt := 20) hA si_42_8 (by decide) (by omega) (fun c1 => ?_) (fun c1 => absurd c1 (by omega))
  refine sr_iconst (v := (-1)) hA si_42_20 (by decide) ?_
  exact sr_iretF hA si_42_21 sq_r_42 rfl rfl
set_option maxRecDepth 20000 in
theorem xc_key_c (X : sp_X) (g : sp_G) {i : Nat} (hi : i < 6) {w : Int32} (hw : w < 0) {n : Nat} (hn : g.1 18 3 = nI n) (hb : n ≤ 6) (hin : i < n) : sp_Ct X 9 42 [.ref 0, .int (nI i), .int w] g (sp_Fi (-1) g) := by
  refine sp_walkN (n := 3) sq_p_42 sq_l_42 (Nat.le_of_ble_eq_true rfl) (fun a hA => ?_)
  show sp_Ev X a 42 0 [.ref 0, .int (nI i), .int w] [] g
  refine sr_aload_n hA si_42_0 rfl ?_
  refine sr_getR (r := 18) hA si_42_1 sf_42_32 (by decide) (by decide) rfl rfl rfl ?_
  refine sr_iload_n hA si_42_4 rfl ?_
  refine sr_VFi (c := 18) (ci := 0) (as := [.int (nI i)]) (st := []) hA si_42_5 sv_43 sk_42_148 (xc_isKey1 X g (n := n) hn (by omega) (by omega)) (by omega) rfl (by decide) (by decide) rfl sq_c_43 rfl (Nat.le_of_ble_eq_true rfl) ?_
  refine sr_if_eqN (tgt := 20) hA si_42_8 (by decide) (by omega) (fun c1 => absurd c1 (by omega)) (fun c1 => ?_)
  refine sr_iload_n hA si_42_11 rfl ?_
  refine sr_if_lt (tgt := 20) hA si_42_12 (by decide) (fun c2 => ?_) (fun c2 => absurd hw c2)
  refine sr_iconst (v := (-1)) hA si_42_20 (by decide) ?_
  exact sr_iretF hA si_42_21 sq_r_42 rfl rfl
set_option maxRecDepth 20000 in
theorem xc_key_d (X : sp_X) (g : sp_G) {i : Nat} (hi : i < 6) {w : Nat} (hw : 5 ≤ w) (hwb : w < 2 ^ 31) {n : Nat} (hn : g.1 18 3 = nI n) (hb : n ≤ 6) (hin : i < n) : sp_Ct X 9 42 [.ref 0, .int (nI i), .int (nI w)] g (sp_Fi (-1) g) := by
  refine sp_walkN (n := 3) sq_p_42 sq_l_42 (Nat.le_of_ble_eq_true rfl) (fun a hA => ?_)
  show sp_Ev X a 42 0 [.ref 0, .int (nI i), .int (nI w)] [] g
  refine sr_aload_n hA si_42_0 rfl ?_
  refine sr_getR (r := 18) hA si_42_1 sf_42_32 (by decide) (by decide) rfl rfl rfl ?_
  refine sr_iload_n hA si_42_4 rfl ?_
  refine sr_VFi (c := 18) (ci := 0) (as := [.int (nI i)]) (st := []) hA si_42_5 sv_43 sk_42_148 (xc_isKey1 X g (n := n) hn (by omega) (by omega)) (by omega) rfl (by decide) (by decide) rfl sq_c_43 rfl (Nat.le_of_ble_eq_true rfl) ?_
  refine sr_if_eqN (tgt := 20) hA si_42_8 (by decide) (by omega) (fun c1 => absurd c1 (by omega)) (fun c1 => ?_)
  refine sr_iload_n hA si_42_11 rfl ?_
  refine sr_if_ltN (tgt := 20) hA si_42_12 (by decide) (by omega) ?_
  refine sr_iload_n hA si_42_15 rfl ?_
  refine sr_iconst (v := nI 5) hA si_42_16 (by decide) ?_
  refine sr_icmp_ltN (tgt := 22) hA si_42_17 (by decide) (by omega) (by omega) (fun c3 => absurd c3 (by omega)) (fun c3 => ?_)
  refine sr_iconst (v := (-1)) hA si_42_20 (by decide) ?_
  exact sr_iretF hA si_42_21 sq_r_42 rfl rfl
set_option maxRecDepth 20000 in
theorem xc_key_e0 (X : sp_X) (g : sp_G) {i : Nat} (hi : i < 6)  {n : Nat} (hn : g.1 18 3 = nI n) (hb : n ≤ 6) (hin : i < n) : sp_Ct X 9 42 [.ref 0, .int (nI i), .int (nI 0)] g (sp_Fi (nI 1) (sp_wI g 0 12 (g.1 19 i))) := by
  refine sp_walkN (n := 3) sq_p_42 sq_l_42 (Nat.le_of_ble_eq_true rfl) (fun a hA => ?_)
  show sp_Ev X a 42 0 [.ref 0, .int (nI i), .int (nI 0)] [] g
  refine sr_aload_n hA si_42_0 rfl ?_
  refine sr_getR (r := 18) hA si_42_1 sf_42_32 (by decide) (by decide) rfl rfl rfl ?_
  refine sr_iload_n hA si_42_4 rfl ?_
  refine sr_VFi (c := 18) (ci := 0) (as := [.int (nI i)]) (st := []) hA si_42_5 sv_43 sk_42_148 (xc_isKey1 X g (n := n) hn (by omega) (by omega)) (by omega) rfl (by decide) (by decide) rfl sq_c_43 rfl (Nat.le_of_ble_eq_true rfl) ?_
  refine sr_if_eqN (tgt := 20) hA si_42_8 (by decide) (by omega) (fun c1 => absurd c1 (by omega)) (fun c1 => ?_)
  refine sr_iload_n hA si_42_11 rfl ?_
  refine sr_if_ltN (tgt := 20) hA si_42_12 (by decide) (by omega) ?_
  refine sr_iload_n hA si_42_15 rfl ?_
  refine sr_iconst (v := nI 5) hA si_42_16 (by decide) ?_
  refine sr_icmp_ltN (tgt := 22) hA si_42_17 (by decide) (by omega) (by omega) (fun c3 => ?_) (fun c3 => absurd c3 (by omega))
  refine sr_aload_n hA si_42_22 rfl ?_
  refine sr_aload_n hA si_42_23 rfl ?_
  refine sr_iload_n hA si_42_24 rfl ?_
  refine sr_iload_n hA si_42_25 rfl ?_
  refine sr_VFi (c := 0) (ci := 7) (as := [.int (nI i), .int (nI 0)]) (st := [.ref 0]) hA si_42_26 sv_44 sk_42_151 (xc_kt0 X g (i := i) (by omega)) (by omega) rfl (by decide) (by decide) rfl sq_c_44 rfl (Nat.le_of_ble_eq_true rfl) ?_
  refine sr_putI hA si_42_29 sf_42_92 rfl rfl (by decide) (by decide) rfl rfl ?_
  refine sr_iconst (v := nI 1) hA si_42_32 (by decide) ?_
  exact sr_iretF hA si_42_33 sq_r_42 rfl rfl
set_option maxRecDepth 20000 in
theorem xc_key_e1 (X : sp_X) (g : sp_G) {i : Nat} (hi : i < 6)  {n : Nat} (hn : g.1 18 3 = nI n) (hb : n ≤ 6) (hin : i < n) : sp_Ct X 9 42 [.ref 0, .int (nI i), .int (nI 1)] g (sp_Fi (nI 1) (sp_wI g 0 12 (g.1 20 i))) := by
  refine sp_walkN (n := 3) sq_p_42 sq_l_42 (Nat.le_of_ble_eq_true rfl) (fun a hA => ?_)
  show sp_Ev X a 42 0 [.ref 0, .int (nI i), .int (nI 1)] [] g
  refine sr_aload_n hA si_42_0 rfl ?_
  refine sr_getR (r := 18) hA si_42_1 sf_42_32 (by decide) (by decide) rfl rfl rfl ?_
  refine sr_iload_n hA si_42_4 rfl ?_
  refine sr_VFi (c := 18) (ci := 0) (as := [.int (nI i)]) (st := []) hA si_42_5 sv_43 sk_42_148 (xc_isKey1 X g (n := n) hn (by omega) (by omega)) (by omega) rfl (by decide) (by decide) rfl sq_c_43 rfl (Nat.le_of_ble_eq_true rfl) ?_
  refine sr_if_eqN (tgt := 20) hA si_42_8 (by decide) (by omega) (fun c1 => absurd c1 (by omega)) (fun c1 => ?_)
  refine sr_iload_n hA si_42_11 rfl ?_
  refine sr_if_ltN (tgt := 20) hA si_42_12 (by decide) (by omega) ?_
  refine sr_iload_n hA si_42_15 rfl ?_
  refine sr_iconst (v := nI 5) hA si_42_16 (by decide) ?_
  refine sr_icmp_ltN (tgt := 22) hA si_42_17 (by decide) (by omega) (by omega) (fun c3 => ?_) (fun c3 => absurd c3 (by omega))
  refine sr_aload_n hA si_42_22 rfl ?_
  refine sr_aload_n hA si_42_23 rfl ?_
  refine sr_iload_n hA si_42_24 rfl ?_
  refine sr_iload_n hA si_42_25 rfl ?_
  refine sr_VFi (c := 0) (ci := 7) (as := [.int (nI i), .int (nI 1)]) (st := [.ref 0]) hA si_42_26 sv_44 sk_42_151 (xc_kt1 X g (i := i) (by omega)) (by omega) rfl (by decide) (by decide) rfl sq_c_44 rfl (Nat.le_of_ble_eq_true rfl) ?_
  refine sr_putI hA si_42_29 sf_42_92 rfl rfl (by decide) (by decide) rfl rfl ?_
  refine sr_iconst (v := nI 1) hA si_42_32 (by decide) ?_
  exact sr_iretF hA si_42_33 sq_r_42 rfl rfl
set_option maxRecDepth 20000 in
theorem xc_key_e2 (X : sp_X) (g : sp_G) {i : Nat} (hi : i < 6)  {n : Nat} (hn : g.1 18 3 = nI n) (hb : n ≤ 6) (hin : i < n) : sp_Ct X 9 42 [.ref 0, .int (nI i), .int (nI 2)] g (sp_Fi (nI 1) (sp_wI g 0 12 (g.1 42 i))) := by
  refine sp_walkN (n := 3) sq_p_42 sq_l_42 (Nat.le_of_ble_eq_true rfl) (fun a hA => ?_)
  show sp_Ev X a 42 0 [.ref 0, .int (nI i), .int (nI 2)] [] g
  refine sr_aload_n hA si_42_0 rfl ?_
  refine sr_getR (r := 18) hA si_42_1 sf_42_32 (by decide) (by decide) rfl rfl rfl ?_
  refine sr_iload_n hA si_42_4 rfl ?_
  refine sr_VFi (c := 18) (ci := 0) (as := [.int (nI i)]) (st := []) hA si_42_5 sv_43 sk_42_148 (xc_isKey1 X g (n := n) hn (by omega) (by omega)) (by omega) rfl (by decide) (by decide) rfl sq_c_43 rfl (Nat.le_of_ble_eq_true rfl) ?_
  refine sr_if_eqN (tgt := 20) hA si_42_8 (by decide) (by omega) (fun c1 => absurd c1 (by omega)) (fun c1 => ?_)
  refine sr_iload_n hA si_42_11 rfl ?_
  refine sr_if_ltN (tgt := 20) hA si_42_12 (by decide) (by omega) ?_
  refine sr_iload_n hA si_42_15 rfl ?_
  refine sr_iconst (v := nI 5) hA si_42_16 (by decide) ?_
  refine sr_icmp_ltN (tgt := 22) hA si_42_17 (by decide) (by omega) (by omega) (fun c3 => ?_) (fun c3 => absurd c3 (by omega))
  refine sr_aload_n hA si_42_22 rfl ?_
  refine sr_aload_n hA si_42_23 rfl ?_
  refine sr_iload_n hA si_42_24 rfl ?_
  refine sr_iload_n hA si_42_25 rfl ?_
  refine sr_VFi (c := 0) (ci := 7) (as := [.int (nI i), .int (nI 2)]) (st := [.ref 0]) hA si_42_26 sv_44 sk_42_151 (xc_kt2 X g (i := i) (by omega)) (by omega) rfl (by decide) (by decide) rfl sq_c_44 rfl (Nat.le_of_ble_eq_true rfl) ?_
  refine sr_putI hA si_42_29 sf_42_92 rfl rfl (by decide) (by decide) rfl rfl ?_
  refine sr_iconst (v := nI 1) hA si_42_32 (by decide) ?_
  exact sr_iretF hA si_42_33 sq_r_42 rfl rfl
set_option maxRecDepth 20000 in
theorem xc_key_e3 (X : sp_X) (g : sp_G) {i : Nat} (hi : i < 6)  {n : Nat} (hn : g.1 18 3 = nI n) (hb : n ≤ 6) (hin : i < n) : sp_Ct X 9 42 [.ref 0, .int (nI i), .int (nI 3)] g (sp_Fi (nI 1) (sp_wI g 0 12 (g.1 21 i))) := by
  refine sp_walkN (n := 3) sq_p_42 sq_l_42 (Nat.le_of_ble_eq_true rfl) (fun a hA => ?_)
  show sp_Ev X a 42 0 [.ref 0, .int (nI i), .int (nI 3)] [] g
  refine sr_aload_n hA si_42_0 rfl ?_
  refine sr_getR (r := 18) hA si_42_1 sf_42_32 (by decide) (by decide) rfl rfl rfl ?_
  refine sr_iload_n hA si_42_4 rfl ?_
  refine sr_VFi (c := 18) (ci := 0) (as := [.int (nI i)]) (st := []) hA si_42_5 sv_43 sk_42_148 (xc_isKey1 X g (n := n) hn (by omega) (by omega)) (by omega) rfl (by decide) (by decide) rfl sq_c_43 rfl (Nat.le_of_ble_eq_true rfl) ?_
  refine sr_if_eqN (tgt := 20) hA si_42_8 (by decide) (by omega) (fun c1 => absurd c1 (by omega)) (fun c1 => ?_)
  refine sr_iload_n hA si_42_11 rfl ?_
  refine sr_if_ltN (tgt := 20) hA si_42_12 (by decide) (by omega) ?_
  refine sr_iload_n hA si_42_15 rfl ?_
  refine sr_iconst (v := nI 5) hA si_42_16 (by decide) ?_
  refine sr_icmp_ltN (tgt := 22) hA si_42_17 (by decide) (by omega) (by omega) (fun c3 => ?_) (fun c3 => absurd c3 (by omega))
  refine sr_aload_n hA si_42_22 rfl ?_
  refine sr_aload_n hA si_42_23 rfl ?_
  refine sr_iload_n hA si_42_24 rfl ?_
  refine sr_iload_n hA si_42_25 rfl ?_
  refine sr_VFi (c := 0) (ci := 7) (as := [.int (nI i), .int (nI 3)]) (st := [.ref 0]) hA si_42_26 sv_44 sk_42_151 (xc_kt3 X g (i := i) (by omega)) (by omega) rfl (by decide) (by decide) rfl sq_c_44 rfl (Nat.le_of_ble_eq_true rfl) ?_
  refine sr_putI hA si_42_29 sf_42_92 rfl rfl (by decide) (by decide) rfl rfl ?_
  refine sr_iconst (v := nI 1) hA si_42_32 (by decide) ?_
  exact sr_iretF hA si_42_33 sq_r_42 rfl rfl
set_option maxRecDepth 20000 in
theorem xc_key_e4F (X : sp_X) (g : sp_G) {i : Nat} (hi : i < 6)  {n : Nat} (hn : g.1 18 3 = nI n) (hb : n ≤ 6) (hin : i < n) {k : Nat} (hk : g.1 19 i = nI k) (hkb : k ≤ 5) (hcb : ¬ sp_cb (g.1 19 i) (g.1 20 i) (g.1 42 i) = true) : sp_Ct X 9 42 [.ref 0, .int (nI i), .int (nI 4)] g (sp_Fi (nI 1) (sp_wI g 0 12 (nI 0))) := by
  refine sp_walkN (n := 3) sq_p_42 sq_l_42 (Nat.le_of_ble_eq_true rfl) (fun a hA => ?_)
  show sp_Ev X a 42 0 [.ref 0, .int (nI i), .int (nI 4)] [] g
  refine sr_aload_n hA si_42_0 rfl ?_
  refine sr_getR (r := 18) hA si_42_1 sf_42_32 (by decide) (by decide) rfl rfl rfl ?_
  refine sr_iload_n hA si_42_4 rfl ?_
  refine sr_VFi (c := 18) (ci := 0) (as := [.int (nI i)]) (st := []) hA si_42_5 sv_43 sk_42_148 (xc_isKey1 X g (n := n) hn (by omega) (by omega)) (by omega) rfl (by decide) (by decide) rfl sq_c_43 rfl (Nat.le_of_ble_eq_true rfl) ?_
  refine sr_if_eqN (tgt := 20) hA si_42_8 (by decide) (by omega) (fun c1 => absurd c1 (by omega)) (fun c1 => ?_)
  refine sr_iload_n hA si_42_11 rfl ?_
  refine sr_if_ltN (tgt := 20) hA si_42_12 (by decide) (by omega) ?_
  refine sr_iload_n hA si_42_15 rfl ?_
  refine sr_iconst (v := nI 5) hA si_42_16 (by decide) ?_
  refine sr_icmp_ltN (tgt := 22) hA si_42_17 (by decide) (by omega) (by omega) (fun c3 => ?_) (fun c3 => absurd c3 (by omega))
  refine sr_aload_n hA si_42_22 rfl ?_
  refine sr_aload_n hA si_42_23 rfl ?_
  refine sr_iload_n hA si_42_24 rfl ?_
  refine sr_iload_n hA si_42_25 rfl ?_
  refine sr_VFi (c := 0) (ci := 7) (as := [.int (nI i), .int (nI 4)]) (st := [.ref 0]) hA si_42_26 sv_44 sk_42_151 (xc_kt4F X g (i := i) (by omega) hk hkb hcb) (by omega) rfl (by decide) (by decide) rfl sq_c_44 rfl (Nat.le_of_ble_eq_true rfl) ?_
  refine sr_putI hA si_42_29 sf_42_92 rfl rfl (by decide) (by decide) rfl rfl ?_
  refine sr_iconst (v := nI 1) hA si_42_32 (by decide) ?_
  exact sr_iretF hA si_42_33 sq_r_42 rfl rfl
set_option maxRecDepth 20000 in
theorem xc_key_e4T (X : sp_X) (g : sp_G) {i : Nat} (hi : i < 6)  {n : Nat} (hn : g.1 18 3 = nI n) (hb : n ≤ 6) (hin : i < n) {k : Nat} (hk : g.1 19 i = nI k) (hkb : k ≤ 5) (hcb : sp_cb (g.1 19 i) (g.1 20 i) (g.1 42 i) = true) : sp_Ct X 9 42 [.ref 0, .int (nI i), .int (nI 4)] g (sp_Fi (nI 1) (sp_wI g 0 12 (nI 1))) := by
  refine sp_walkN (n := 3) sq_p_42 sq_l_42 (Nat.le_of_ble_eq_true rfl) (fun a hA => ?_)
  show sp_Ev X a 42 0 [.ref 0, .int (nI i), .int (nI 4)] [] g
  refine sr_aload_n hA si_42_0 rfl ?_
  refine sr_getR (r := 18) hA si_42_1 sf_42_32 (by decide) (by decide) rfl rfl rfl ?_
  refine sr_iload_n hA si_42_4 rfl ?_
  refine sr_VFi (c := 18) (ci := 0) (as := [.int (nI i)]) (st := []) hA si_42_5 sv_43 sk_42_148 (xc_isKey1 X g (n := n) hn (by omega) (by omega)) (by omega) rfl (by decide) (by decide) rfl sq_c_43 rfl (Nat.le_of_ble_eq_true rfl) ?_
  refine sr_if_eqN (tgt := 20) hA si_42_8 (by decide) (by omega) (fun c1 => absurd c1 (by omega)) (fun c1 => ?_)
  refine sr_iload_n hA si_42_11 rfl ?_
  refine sr_if_ltN (tgt := 20) hA si_42_12 (by decide) (by omega) ?_
  refine sr_iload_n hA si_42_15 rfl ?_
  refine sr_iconst (v := nI 5) hA si_42_16 (by decide) ?_
  refine sr_icmp_ltN (tgt := 22) hA si_42_17 (by decide) (by omega) (by omega) (fun c3 => ?_) (fun c3 => absurd c3 (by omega))
  refine sr_aload_n hA si_42_22 rfl ?_
  refine sr_aload_n hA si_42_23 rfl ?_
  refine sr_iload_n hA si_42_24 rfl ?_
  refine sr_iload_n hA si_42_25 rfl ?_
  refine sr_VFi (c := 0) (ci := 7) (as := [.int (nI i), .int (nI 4)]) (st := [.ref 0]) hA si_42_26 sv_44 sk_42_151 (xc_kt4T X g (i := i) (by omega) hk hkb hcb) (by omega) rfl (by decide) (by decide) rfl sq_c_44 rfl (Nat.le_of_ble_eq_true rfl) ?_
  refine sr_putI hA si_42_29 sf_42_92 rfl rfl (by decide) (by decide) rfl rfl ?_
  refine sr_iconst (v := nI 1) hA si_42_32 (by decide) ?_
  exact sr_iretF hA si_42_33 sq_r_42 rfl rfl
set_option maxRecDepth 20000 in
theorem mc_key_a (X : sp_X) (g : sp_G) {i : Int32} (hi : i < 0) (w : Int32) {n : Nat} (hn : g.1 64 11 = nI n) : sp_Ct X 9 161 [.ref 64, .int i, .int w] g (sp_Fi (-1) g) := by
  refine sp_walkN (n := 3) sq_p_161 sq_l_161 (Nat.le_of_ble_eq_true rfl) (fun a hA => ?_)
  show sp_Ev X a 161 0 [.ref 64, .int i, .int w] [] g
  refine sr_aload_n hA si_161_0 rfl ?_
  refine sr_iload_n hA si_161_1 rfl ?_
  refine sr_VFi (c := 64) (ci := 8) (as := [.int i]) (st := []) hA si_161_2 sv_162 sk_161_174 (mc_isKeyM X g (n := n) hn hi) (by omega) rfl (by decide) (by decide) rfl sq_c_162 rfl (Nat.le_of_ble_eq_true rfl) ?_
  refine sr_if_eqN (tgt := 31) hA si_161_5 (by decide) (by omega) (fun c1 => ?_) (fun c1 => absurd c1 (by omega))
  refine sr_iconst (v := (-1)) hA si_161_31 (by decide) ?_
  exact sr_iretF hA si_161_32 sq_r_161 rfl rfl
set_option maxRecDepth 20000 in
theorem mc_key_b (X : sp_X) (g : sp_G) {i : Nat} (hib : i < 2 ^ 31) (w : Int32) {n : Nat} (hn : g.1 64 11 = nI n) (hb : n ≤ 6) (hi : n ≤ i) : sp_Ct X 9 161 [.ref 64, .int (nI i), .int w] g (sp_Fi (-1) g) := by
  refine sp_walkN (n := 3) sq_p_161 sq_l_161 (Nat.le_of_ble_eq_true rfl) (fun a hA => ?_)
  show sp_Ev X a 161 0 [.ref 64, .int (nI i), .int w] [] g
  refine sr_aload_n hA si_161_0 rfl ?_
  refine sr_iload_n hA si_161_1 rfl ?_
  refine sr_VFi (c := 64) (ci := 8) (as := [.int (nI i)]) (st := []) hA si_161_2 sv_162 sk_161_174 (mc_isKeyH X g (n := n) hn (by omega) (by omega)) (by omega) rfl (by decide) (by decide) rfl sq_c_162 rfl (Nat.le_of_ble_eq_true rfl) ?_
  refine sr_if_eqN (tgt := 31) hA si_161_5 (by decide) (by omega) (fun c1 => ?_) (fun c1 => absurd c1 (by omega))
  refine sr_iconst (v := (-1)) hA si_161_31 (by decide) ?_
  exact sr_iretF hA si_161_32 sq_r_161 rfl rfl
set_option maxRecDepth 20000 in
theorem mc_key_c (X : sp_X) (g : sp_G) {i : Nat} (hi : i < 6) {w : Int32} (hw : w < 0) {n : Nat} (hn : g.1 64 11 = nI n) (hb : n ≤ 6) (hin : i < n) : sp_Ct X 9 161 [.ref 64, .int (nI i), .int w] g (sp_Fi (-1) g) := by
  refine sp_walkN (n := 3) sq_p_161 sq_l_161 (Nat.le_of_ble_eq_true rfl) (fun a hA => ?_)
  show sp_Ev X a 161 0 [.ref 64, .int (nI i), .int w] [] g
  refine sr_aload_n hA si_161_0 rfl ?_
  refine sr_iload_n hA si_161_1 rfl ?_
  refine sr_VFi (c := 64) (ci := 8) (as := [.int (nI i)]) (st := []) hA si_161_2 sv_162 sk_161_174 (mc_isKey1 X g (n := n) hn (by omega) (by omega)) (by omega) rfl (by decide) (by decide) rfl sq_c_162 rfl (Nat.le_of_ble_eq_true rfl) ?_
  refine sr_if_eqN (tgt := 31) hA si_161_5 (by decide) (by omega) (fun c1 => absurd c1 (by omega)) (fun c1 => ?_)
  refine sr_iload_n hA si_161_8 rfl ?_
  refine sr_iconst (v := nI 0) hA si_161_9 (by decide) ?_
  refine sr_iconst (v := nI 4) hA si_161_10 (by decide) ?_
  refine sr_SFi (as := [.int w, .int (nI 0), .int (nI 4)]) (st := []) hA si_161_11 ss_135 sk_161_83 (mc_inM X g hw (by omega)) (by omega) rfl rfl (Nat.le_of_ble_eq_true rfl) ?_
  refine sr_if_eqN (tgt := 31) hA si_161_14 (by decide) (by omega) (fun c2 => ?_) (fun c2 => absurd c2 (by omega))
  refine sr_iconst (v := (-1)) hA si_161_31 (by decide) ?_
  exact sr_iretF hA si_161_32 sq_r_161 rfl rfl
set_option maxRecDepth 20000 in
theorem mc_key_d (X : sp_X) (g : sp_G) {i : Nat} (hi : i < 6) {w : Nat} (hw : 5 ≤ w) (hwb : w < 2 ^ 31) {n : Nat} (hn : g.1 64 11 = nI n) (hb : n ≤ 6) (hin : i < n) : sp_Ct X 9 161 [.ref 64, .int (nI i), .int (nI w)] g (sp_Fi (-1) g) := by
  refine sp_walkN (n := 3) sq_p_161 sq_l_161 (Nat.le_of_ble_eq_true rfl) (fun a hA => ?_)
  show sp_Ev X a 161 0 [.ref 64, .int (nI i), .int (nI w)] [] g
  refine sr_aload_n hA si_161_0 rfl ?_
  refine sr_iload_n hA si_161_1 rfl ?_
  refine sr_VFi (c := 64) (ci := 8) (as := [.int (nI i)]) (st := []) hA si_161_2 sv_162 sk_161_174 (mc_isKey1 X g (n := n) hn (by omega) (by omega)) (by omega) rfl (by decide) (by decide) rfl sq_c_162 rfl (Nat.le_of_ble_eq_true rfl) ?_
  refine sr_if_eqN (tgt := 31) hA si_161_5 (by decide) (by omega) (fun c1 => absurd c1 (by omega)) (fun c1 => ?_)
  refine sr_iload_n hA si_161_8 rfl ?_
  refine sr_iconst (v := nI 0) hA si_161_9 (by decide) ?_
  refine sr_iconst (v := nI 4) hA si_161_10 (by decide) ?_
  refine sr_SFi (as := [.int (nI w), .int (nI 0), .int (nI 4)]) (st := []) hA si_161_11 ss_135 sk_161_83 (mc_inH X g (by omega) (by omega)) (by omega) rfl rfl (Nat.le_of_ble_eq_true rfl) ?_
  refine sr_if_eqN (tgt := 31) hA si_161_14 (by decide) (by omega) (fun c2 => ?_) (fun c2 => absurd c2 (by omega))
  refine sr_iconst (v := (-1)) hA si_161_31 (by decide) ?_
  exact sr_iretF hA si_161_32 sq_r_161 rfl rfl
set_option maxRecDepth 20000 in
theorem mc_key_e0 (X : sp_X) (g : sp_G) {i : Nat} (hi : i < 6)  {n : Nat} (hn : g.1 64 11 = nI n) (hb : n ≤ 6) (hin : i < n) : sp_Ct X 9 161 [.ref 64, .int (nI i), .int (nI 0)] g (sp_Fi (nI 1) (sp_wI g 64 2 (g.1 71 i))) := by
  refine sp_walkN (n := 3) sq_p_161 sq_l_161 (Nat.le_of_ble_eq_true rfl) (fun a hA => ?_)
  show sp_Ev X a 161 0 [.ref 64, .int (nI i), .int (nI 0)] [] g
  refine sr_aload_n hA si_161_0 rfl ?_
  refine sr_iload_n hA si_161_1 rfl ?_
  refine sr_VFi (c := 64) (ci := 8) (as := [.int (nI i)]) (st := []) hA si_161_2 sv_162 sk_161_174 (mc_isKey1 X g (n := n) hn (by omega) (by omega)) (by omega) rfl (by decide) (by decide) rfl sq_c_162 rfl (Nat.le_of_ble_eq_true rfl) ?_
  refine sr_if_eqN (tgt := 31) hA si_161_5 (by decide) (by omega) (fun c1 => absurd c1 (by omega)) (fun c1 => ?_)
  refine sr_iload_n hA si_161_8 rfl ?_
  refine sr_iconst (v := nI 0) hA si_161_9 (by decide) ?_
  refine sr_iconst (v := nI 4) hA si_161_10 (by decide) ?_
  refine sr_SFi (as := [.int (nI 0), .int (nI 0), .int (nI 4)]) (st := []) hA si_161_11 ss_135 sk_161_83 (mc_inN X g (by omega) (by omega) (by omega)) (by omega) rfl rfl (Nat.le_of_ble_eq_true rfl) ?_
  refine sr_if_eqN (tgt := 31) hA si_161_14 (by decide) (by omega) (fun c2 => absurd c2 (by omega)) (fun c2 => ?_)
  refine sr_aload_n hA si_161_17 rfl ?_
  refine sr_aload_n hA si_161_18 rfl ?_
  refine sr_iload_n hA si_161_19 rfl ?_
  refine sr_iload_n hA si_161_20 rfl ?_
  refine sr_VFi (c := 64) (ci := 8) (as := [.int (nI i), .int (nI 0)]) (st := [.ref 64]) hA si_161_21 sv_163 sk_161_177 (mc_kt0 X g (i := i) (by omega)) (by omega) rfl (by decide) (by decide) rfl sq_c_163 rfl (Nat.le_of_ble_eq_true rfl) ?_
  refine sr_iconst (v := nI 1) hA si_161_24 (by decide) ?_
  refine sr_VFi (c := 64) (ci := 8) (as := [.int (g.1 71 i), .int (nI 1)]) (st := []) hA si_161_25 sv_144 sk_161_105 (mc_tells X g (g.1 71 i) (nI 1)) (by omega) rfl (by decide) (by decide) rfl sq_c_144 rfl (Nat.le_of_ble_eq_true rfl) ?_
  refine sr_goto (tgt := 32) hA si_161_28 (by decide) ?_
  exact sr_iretF hA si_161_32 sq_r_161 rfl rfl
set_option maxRecDepth 20000 in
theorem mc_key_e1 (X : sp_X) (g : sp_G) {i : Nat} (hi : i < 6)  {n : Nat} (hn : g.1 64 11 = nI n) (hb : n ≤ 6) (hin : i < n) : sp_Ct X 9 161 [.ref 64, .int (nI i), .int (nI 1)] g (sp_Fi (nI 1) (sp_wI g 64 2 (g.1 72 i))) := by
  refine sp_walkN (n := 3) sq_p_161 sq_l_161 (Nat.le_of_ble_eq_true rfl) (fun a hA => ?_)
  show sp_Ev X a 161 0 [.ref 64, .int (nI i), .int (nI 1)] [] g
  refine sr_aload_n hA si_161_0 rfl ?_
  refine sr_iload_n hA si_161_1 rfl ?_
  refine sr_VFi (c := 64) (ci := 8) (as := [.int (nI i)]) (st := []) hA si_161_2 sv_162 sk_161_174 (mc_isKey1 X g (n := n) hn (by omega) (by omega)) (by omega) rfl (by decide) (by decide) rfl sq_c_162 rfl (Nat.le_of_ble_eq_true rfl) ?_
  refine sr_if_eqN (tgt := 31) hA si_161_5 (by decide) (by omega) (fun c1 => absurd c1 (by omega)) (fun c1 => ?_)
  refine sr_iload_n hA si_161_8 rfl ?_
  refine sr_iconst (v := nI 0) hA si_161_9 (by decide) ?_
  refine sr_iconst (v := nI 4) hA si_161_10 (by decide) ?_
  refine sr_SFi (as := [.int (nI 1), .int (nI 0), .int (nI 4)]) (st := []) hA si_161_11 ss_135 sk_161_83 (mc_inN X g (by omega) (by omega) (by omega)) (by omega) rfl rfl (Nat.le_of_ble_eq_true rfl) ?_
  refine sr_if_eqN (tgt := 31) hA si_161_14 (by decide) (by omega) (fun c2 => absurd c2 (by omega)) (fun c2 => ?_)
  refine sr_aload_n hA si_161_17 rfl ?_
  refine sr_aload_n hA si_161_18 rfl ?_
  refine sr_iload_n hA si_161_19 rfl ?_
  refine sr_iload_n hA si_161_20 rfl ?_
  refine sr_VFi (c := 64) (ci := 8) (as := [.int (nI i), .int (nI 1)]) (st := [.ref 64]) hA si_161_21 sv_163 sk_161_177 (mc_kt1 X g (i := i) (by omega)) (by omega) rfl (by decide) (by decide) rfl sq_c_163 rfl (Nat.le_of_ble_eq_true rfl) ?_
  refine sr_iconst (v := nI 1) hA si_161_24 (by decide) ?_
  refine sr_VFi (c := 64) (ci := 8) (as := [.int (g.1 72 i), .int (nI 1)]) (st := []) hA si_161_25 sv_144 sk_161_105 (mc_tells X g (g.1 72 i) (nI 1)) (by omega) rfl (by decide) (by decide) rfl sq_c_144 rfl (Nat.le_of_ble_eq_true rfl) ?_
  refine sr_goto (tgt := 32) hA si_161_28 (by decide) ?_
  exact sr_iretF hA si_161_32 sq_r_161 rfl rfl
set_option maxRecDepth 20000 in
theorem mc_key_e2 (X : sp_X) (g : sp_G) {i : Nat} (hi : i < 6)  {n : Nat} (hn : g.1 64 11 = nI n) (hb : n ≤ 6) (hin : i < n) : sp_Ct X 9 161 [.ref 64, .int (nI i), .int (nI 2)] g (sp_Fi (nI 1) (sp_wI g 64 2 (g.1 75 (9 * 0 + i)))) := by
  refine sp_walkN (n := 3) sq_p_161 sq_l_161 (Nat.le_of_ble_eq_true rfl) (fun a hA => ?_)
  show sp_Ev X a 161 0 [.ref 64, .int (nI i), .int (nI 2)] [] g
  refine sr_aload_n hA si_161_0 rfl ?_
  refine sr_iload_n hA si_161_1 rfl ?_
  refine sr_VFi (c := 64) (ci := 8) (as := [.int (nI i)]) (st := []) hA si_161_2 sv_162 sk_161_174 (mc_isKey1 X g (n := n) hn (by omega) (by omega)) (by omega) rfl (by decide) (by decide) rfl sq_c_162 rfl (Nat.le_of_ble_eq_true rfl) ?_
  refine sr_if_eqN (tgt := 31) hA si_161_5 (by decide) (by omega) (fun c1 => absurd c1 (by omega)) (fun c1 => ?_)
  refine sr_iload_n hA si_161_8 rfl ?_
  refine sr_iconst (v := nI 0) hA si_161_9 (by decide) ?_
  refine sr_iconst (v := nI 4) hA si_161_10 (by decide) ?_
  refine sr_SFi (as := [.int (nI 2), .int (nI 0), .int (nI 4)]) (st := []) hA si_161_11 ss_135 sk_161_83 (mc_inN X g (by omega) (by omega) (by omega)) (by omega) rfl rfl (Nat.le_of_ble_eq_true rfl) ?_
  refine sr_if_eqN (tgt := 31) hA si_161_14 (by decide) (by omega) (fun c2 => absurd c2 (by omega)) (fun c2 => ?_)
  refine sr_aload_n hA si_161_17 rfl ?_
  refine sr_aload_n hA si_161_18 rfl ?_
  refine sr_iload_n hA si_161_19 rfl ?_
  refine sr_iload_n hA si_161_20 rfl ?_
  refine sr_VFi (c := 64) (ci := 8) (as := [.int (nI i), .int (nI 2)]) (st := [.ref 64]) hA si_161_21 sv_163 sk_161_177 (mc_kt2 X g (i := i) (by omega)) (by omega) rfl (by decide) (by decide) rfl sq_c_163 rfl (Nat.le_of_ble_eq_true rfl) ?_
  refine sr_iconst (v := nI 1) hA si_161_24 (by decide) ?_
  refine sr_VFi (c := 64) (ci := 8) (as := [.int (g.1 75 (9 * 0 + i)), .int (nI 1)]) (st := []) hA si_161_25 sv_144 sk_161_105 (mc_tells X g (g.1 75 (9 * 0 + i)) (nI 1)) (by omega) rfl (by decide) (by decide) rfl sq_c_144 rfl (Nat.le_of_ble_eq_true rfl) ?_
  refine sr_goto (tgt := 32) hA si_161_28 (by decide) ?_
  exact sr_iretF hA si_161_32 sq_r_161 rfl rfl
set_option maxRecDepth 20000 in
theorem mc_key_e3 (X : sp_X) (g : sp_G) {i : Nat} (hi : i < 6)  {n : Nat} (hn : g.1 64 11 = nI n) (hb : n ≤ 6) (hin : i < n) : sp_Ct X 9 161 [.ref 64, .int (nI i), .int (nI 3)] g (sp_Fi (nI 1) (sp_wI g 64 2 (g.1 73 i))) := by
  refine sp_walkN (n := 3) sq_p_161 sq_l_161 (Nat.le_of_ble_eq_true rfl) (fun a hA => ?_)
  show sp_Ev X a 161 0 [.ref 64, .int (nI i), .int (nI 3)] [] g
  refine sr_aload_n hA si_161_0 rfl ?_
  refine sr_iload_n hA si_161_1 rfl ?_
  refine sr_VFi (c := 64) (ci := 8) (as := [.int (nI i)]) (st := []) hA si_161_2 sv_162 sk_161_174 (mc_isKey1 X g (n := n) hn (by omega) (by omega)) (by omega) rfl (by decide) (by decide) rfl sq_c_162 rfl (Nat.le_of_ble_eq_true rfl) ?_
  refine sr_if_eqN (tgt := 31) hA si_161_5 (by decide) (by omega) (fun c1 => absurd c1 (by omega)) (fun c1 => ?_)
  refine sr_iload_n hA si_161_8 rfl ?_
  refine sr_iconst (v := nI 0) hA si_161_9 (by decide) ?_
  refine sr_iconst (v := nI 4) hA si_161_10 (by decide) ?_
  refine sr_SFi (as := [.int (nI 3), .int (nI 0), .int (nI 4)]) (st := []) hA si_161_11 ss_135 sk_161_83 (mc_inN X g (by omega) (by omega) (by omega)) (by omega) rfl rfl (Nat.le_of_ble_eq_true rfl) ?_
  refine sr_if_eqN (tgt := 31) hA si_161_14 (by decide) (by omega) (fun c2 => absurd c2 (by omega)) (fun c2 => ?_)
  refine sr_aload_n hA si_161_17 rfl ?_
  refine sr_aload_n hA si_161_18 rfl ?_
  refine sr_iload_n hA si_161_19 rfl ?_
  refine sr_iload_n hA si_161_20 rfl ?_
  refine sr_VFi (c := 64) (ci := 8) (as := [.int (nI i), .int (nI 3)]) (st := [.ref 64]) hA si_161_21 sv_163 sk_161_177 (mc_kt3 X g (i := i) (by omega)) (by omega) rfl (by decide) (by decide) rfl sq_c_163 rfl (Nat.le_of_ble_eq_true rfl) ?_
  refine sr_iconst (v := nI 1) hA si_161_24 (by decide) ?_
  refine sr_VFi (c := 64) (ci := 8) (as := [.int (g.1 73 i), .int (nI 1)]) (st := []) hA si_161_25 sv_144 sk_161_105 (mc_tells X g (g.1 73 i) (nI 1)) (by omega) rfl (by decide) (by decide) rfl sq_c_144 rfl (Nat.le_of_ble_eq_true rfl) ?_
  refine sr_goto (tgt := 32) hA si_161_28 (by decide) ?_
  exact sr_iretF hA si_161_32 sq_r_161 rfl rfl
set_option maxRecDepth 20000 in
theorem mc_key_e4F (X : sp_X) (g : sp_G) {i : Nat} (hi : i < 6)  {n : Nat} (hn : g.1 64 11 = nI n) (hb : n ≤ 6) (hin : i < n) {k : Nat} (hk : g.1 71 i = nI k) (hkb : k ≤ 5) (hcb : ¬ sp_cb (g.1 71 i) (g.1 72 i) (g.1 75 (9 * 0 + i)) = true) : sp_Ct X 9 161 [.ref 64, .int (nI i), .int (nI 4)] g (sp_Fi (nI 1) (sp_wI g 64 2 (nI 0))) := by
  refine sp_walkN (n := 3) sq_p_161 sq_l_161 (Nat.le_of_ble_eq_true rfl) (fun a hA => ?_)
  show sp_Ev X a 161 0 [.ref 64, .int (nI i), .int (nI 4)] [] g
  refine sr_aload_n hA si_161_0 rfl ?_
  refine sr_iload_n hA si_161_1 rfl ?_
  refine sr_VFi (c := 64) (ci := 8) (as := [.int (nI i)]) (st := []) hA si_161_2 sv_162 sk_161_174 (mc_isKey1 X g (n := n) hn (by omega) (by omega)) (by omega) rfl (by decide) (by decide) rfl sq_c_162 rfl (Nat.le_of_ble_eq_true rfl) ?_
  refine sr_if_eqN (tgt := 31) hA si_161_5 (by decide) (by omega) (fun c1 => absurd c1 (by omega)) (fun c1 => ?_)
  refine sr_iload_n hA si_161_8 rfl ?_
  refine sr_iconst (v := nI 0) hA si_161_9 (by decide) ?_
  refine sr_iconst (v := nI 4) hA si_161_10 (by decide) ?_
  refine sr_SFi (as := [.int (nI 4), .int (nI 0), .int (nI 4)]) (st := []) hA si_161_11 ss_135 sk_161_83 (mc_inN X g (by omega) (by omega) (by omega)) (by omega) rfl rfl (Nat.le_of_ble_eq_true rfl) ?_
  refine sr_if_eqN (tgt := 31) hA si_161_14 (by decide) (by omega) (fun c2 => absurd c2 (by omega)) (fun c2 => ?_)
  refine sr_aload_n hA si_161_17 rfl ?_
  refine sr_aload_n hA si_161_18 rfl ?_
  refine sr_iload_n hA si_161_19 rfl ?_
  refine sr_iload_n hA si_161_20 rfl ?_
  refine sr_VFi (c := 64) (ci := 8) (as := [.int (nI i), .int (nI 4)]) (st := [.ref 64]) hA si_161_21 sv_163 sk_161_177 (mc_kt4F X g (i := i) (by omega) hk hkb hcb) (by omega) rfl (by decide) (by decide) rfl sq_c_163 rfl (Nat.le_of_ble_eq_true rfl) ?_
  refine sr_iconst (v := nI 1) hA si_161_24 (by decide) ?_
  refine sr_VFi (c := 64) (ci := 8) (as := [.int (nI 0), .int (nI 1)]) (st := []) hA si_161_25 sv_144 sk_161_105 (mc_tells X g (nI 0) (nI 1)) (by omega) rfl (by decide) (by decide) rfl sq_c_144 rfl (Nat.le_of_ble_eq_true rfl) ?_
  refine sr_goto (tgt := 32) hA si_161_28 (by decide) ?_
  exact sr_iretF hA si_161_32 sq_r_161 rfl rfl
set_option maxRecDepth 20000 in
theorem mc_key_e4T (X : sp_X) (g : sp_G) {i : Nat} (hi : i < 6)  {n : Nat} (hn : g.1 64 11 = nI n) (hb : n ≤ 6) (hin : i < n) {k : Nat} (hk : g.1 71 i = nI k) (hkb : k ≤ 5) (hcb : sp_cb (g.1 71 i) (g.1 72 i) (g.1 75 (9 * 0 + i)) = true) : sp_Ct X 9 161 [.ref 64, .int (nI i), .int (nI 4)] g (sp_Fi (nI 1) (sp_wI g 64 2 (nI 1))) := by
  refine sp_walkN (n := 3) sq_p_161 sq_l_161 (Nat.le_of_ble_eq_true rfl) (fun a hA => ?_)
  show sp_Ev X a 161 0 [.ref 64, .int (nI i), .int (nI 4)] [] g
  refine sr_aload_n hA si_161_0 rfl ?_
  refine sr_iload_n hA si_161_1 rfl ?_
  refine sr_VFi (c := 64) (ci := 8) (as := [.int (nI i)]) (st := []) hA si_161_2 sv_162 sk_161_174 (mc_isKey1 X g (n := n) hn (by omega) (by omega)) (by omega) rfl (by decide) (by decide) rfl sq_c_162 rfl (Nat.le_of_ble_eq_true rfl) ?_
  refine sr_if_eqN (tgt := 31) hA si_161_5 (by decide) (by omega) (fun c1 => absurd c1 (by omega)) (fun c1 => ?_)
  refine sr_iload_n hA si_161_8 rfl ?_
  refine sr_iconst (v := nI 0) hA si_161_9 (by decide) ?_
  refine sr_iconst (v := nI 4) hA si_161_10 (by decide) ?_
  refine sr_SFi (as := [.int (nI 4), .int (nI 0), .int (nI 4)]) (st := []) hA si_161_11 ss_135 sk_161_83 (mc_inN X g (by omega) (by omega) (by omega)) (by omega) rfl rfl (Nat.le_of_ble_eq_true rfl) ?_
  refine sr_if_eqN (tgt := 31) hA si_161_14 (by decide) (by omega) (fun c2 => absurd c2 (by omega)) (fun c2 => ?_)
  refine sr_aload_n hA si_161_17 rfl ?_
  refine sr_aload_n hA si_161_18 rfl ?_
  refine sr_iload_n hA si_161_19 rfl ?_
  refine sr_iload_n hA si_161_20 rfl ?_
  refine sr_VFi (c := 64) (ci := 8) (as := [.int (nI i), .int (nI 4)]) (st := [.ref 64]) hA si_161_21 sv_163 sk_161_177 (mc_kt4T X g (i := i) (by omega) hk hkb hcb) (by omega) rfl (by decide) (by decide) rfl sq_c_163 rfl (Nat.le_of_ble_eq_true rfl) ?_
  refine sr_iconst (v := nI 1) hA si_161_24 (by decide) ?_
  refine sr_VFi (c := 64) (ci := 8) (as := [.int (nI 1), .int (nI 1)]) (st := []) hA si_161_25 sv_144 sk_161_105 (mc_tells X g (nI 1) (nI 1)) (by omega) rfl (by decide) (by decide) rfl sq_c_144 rfl (Nat.le_of_ble_eq_true rfl) ?_
  refine sr_goto (tgt := 32) hA si_161_28 (by decide) ?_
  exact sr_iretF hA si_161_32 sq_r_161 rfl rfl
set_option maxRecDepth 20000 in
theorem xc_isOf01 (X : sp_X) (g : sp_G) {i : Nat} (hi : i < 6) (hk : g.1 19 i = nI 0) : sp_Ct X 0 47 [.ref 18, .int (nI i), .int (nI 1)] g (sp_Fi (nI 0) g) := by
  refine sp_walkN (n := 3) sq_p_47 sq_l_47 (Nat.le_of_ble_eq_true rfl) (fun a hA => ?_)
  show sp_Ev X a 47 0 [.ref 18, .int (nI i), .int (nI 1)] [] g
  refine sr_aload_n hA si_47_0 rfl ?_
  refine sr_getR (r := 19) hA si_47_1 sf_47_9 (by decide) (by decide) rfl rfl rfl ?_
  refine sr_iload_n hA si_47_4 rfl ?_
  refine sr_ialdNv (v := nI 0) (n := 6) hA si_47_5 (by decide) rfl rfl (by omega) (by decide) hk ?_
  refine sr_iload_n hA si_47_6 rfl ?_
  refine sr_icmp_eqN (tgt := 24) hA si_47_7 (by decide) (by omega) (by omega) (fun c1 => absurd c1 (by omega)) (fun c1 => ?_)
  refine sr_getsP hA si_47_10 rfl ?_
  refine sr_aload_n hA si_47_13 rfl ?_
  refine sr_getR (r := 19) hA si_47_14 sf_47_9 (by decide) (by decide) rfl rfl rfl ?_
  refine sr_iload_n hA si_47_17 rfl ?_
  refine sr_ialdNv (v := nI 0) (n := 6) hA si_47_18 (by decide) rfl rfl (by omega) (by decide) hk ?_
  refine sr_taldNv (v := nI 0) hA si_47_19 (by decide) (by omega) rfl ?_
  refine sr_iload_n hA si_47_20 rfl ?_
  refine sr_icmp_neN (tgt := 28) hA si_47_21 (by decide) (by omega) (by omega) (fun c2 => ?_) (fun c2 => absurd c2 (by omega))
  refine sr_iconst (v := nI 0) hA si_47_28 (by decide) ?_
  exact sr_zretF hA si_47_29 sq_r_47 (by decide) rfl rfl
set_option maxRecDepth 20000 in
theorem xc_isOf02 (X : sp_X) (g : sp_G) {i : Nat} (hi : i < 6) (hk : g.1 19 i = nI 0) : sp_Ct X 0 47 [.ref 18, .int (nI i), .int (nI 2)] g (sp_Fi (nI 0) g) := by
  refine sp_walkN (n := 3) sq_p_47 sq_l_47 (Nat.le_of_ble_eq_true rfl) (fun a hA => ?_)
  show sp_Ev X a 47 0 [.ref 18, .int (nI i), .int (nI 2)] [] g
  refine sr_aload_n hA si_47_0 rfl ?_
  refine sr_getR (r := 19) hA si_47_1 sf_47_9 (by decide) (by decide) rfl rfl rfl ?_
  refine sr_iload_n hA si_47_4 rfl ?_
  refine sr_ialdNv (v := nI 0) (n := 6) hA si_47_5 (by decide) rfl rfl (by omega) (by decide) hk ?_
  refine sr_iload_n hA si_47_6 rfl ?_
  refine sr_icmp_eqN (tgt := 24) hA si_47_7 (by decide) (by omega) (by omega) (fun c1 => absurd c1 (by omega)) (fun c1 => ?_)
  refine sr_getsP hA si_47_10 rfl ?_
  refine sr_aload_n hA si_47_13 rfl ?_
  refine sr_getR (r := 19) hA si_47_14 sf_47_9 (by decide) (by decide) rfl rfl rfl ?_
  refine sr_iload_n hA si_47_17 rfl ?_
  refine sr_ialdNv (v := nI 0) (n := 6) hA si_47_18 (by decide) rfl rfl (by omega) (by decide) hk ?_
  refine sr_taldNv (v := nI 0) hA si_47_19 (by decide) (by omega) rfl ?_
  refine sr_iload_n hA si_47_20 rfl ?_
  refine sr_icmp_neN (tgt := 28) hA si_47_21 (by decide) (by omega) (by omega) (fun c2 => ?_) (fun c2 => absurd c2 (by omega))
  refine sr_iconst (v := nI 0) hA si_47_28 (by decide) ?_
  exact sr_zretF hA si_47_29 sq_r_47 (by decide) rfl rfl
set_option maxRecDepth 20000 in
theorem xc_isOf03 (X : sp_X) (g : sp_G) {i : Nat} (hi : i < 6) (hk : g.1 19 i = nI 0) : sp_Ct X 0 47 [.ref 18, .int (nI i), .int (nI 3)] g (sp_Fi (nI 0) g) := by
  refine sp_walkN (n := 3) sq_p_47 sq_l_47 (Nat.le_of_ble_eq_true rfl) (fun a hA => ?_)
  show sp_Ev X a 47 0 [.ref 18, .int (nI i), .int (nI 3)] [] g
  refine sr_aload_n hA si_47_0 rfl ?_
  refine sr_getR (r := 19) hA si_47_1 sf_47_9 (by decide) (by decide) rfl rfl rfl ?_
  refine sr_iload_n hA si_47_4 rfl ?_
  refine sr_ialdNv (v := nI 0) (n := 6) hA si_47_5 (by decide) rfl rfl (by omega) (by decide) hk ?_
  refine sr_iload_n hA si_47_6 rfl ?_
  refine sr_icmp_eqN (tgt := 24) hA si_47_7 (by decide) (by omega) (by omega) (fun c1 => absurd c1 (by omega)) (fun c1 => ?_)
  refine sr_getsP hA si_47_10 rfl ?_
  refine sr_aload_n hA si_47_13 rfl ?_
  refine sr_getR (r := 19) hA si_47_14 sf_47_9 (by decide) (by decide) rfl rfl rfl ?_
  refine sr_iload_n hA si_47_17 rfl ?_
  refine sr_ialdNv (v := nI 0) (n := 6) hA si_47_18 (by decide) rfl rfl (by omega) (by decide) hk ?_
  refine sr_taldNv (v := nI 0) hA si_47_19 (by decide) (by omega) rfl ?_
  refine sr_iload_n hA si_47_20 rfl ?_
  refine sr_icmp_neN (tgt := 28) hA si_47_21 (by decide) (by omega) (by omega) (fun c2 => ?_) (fun c2 => absurd c2 (by omega))
  refine sr_iconst (v := nI 0) hA si_47_28 (by decide) ?_
  exact sr_zretF hA si_47_29 sq_r_47 (by decide) rfl rfl
set_option maxRecDepth 20000 in
theorem xc_isOf04 (X : sp_X) (g : sp_G) {i : Nat} (hi : i < 6) (hk : g.1 19 i = nI 0) : sp_Ct X 0 47 [.ref 18, .int (nI i), .int (nI 4)] g (sp_Fi (nI 0) g) := by
  refine sp_walkN (n := 3) sq_p_47 sq_l_47 (Nat.le_of_ble_eq_true rfl) (fun a hA => ?_)
  show sp_Ev X a 47 0 [.ref 18, .int (nI i), .int (nI 4)] [] g
  refine sr_aload_n hA si_47_0 rfl ?_
  refine sr_getR (r := 19) hA si_47_1 sf_47_9 (by decide) (by decide) rfl rfl rfl ?_
  refine sr_iload_n hA si_47_4 rfl ?_
  refine sr_ialdNv (v := nI 0) (n := 6) hA si_47_5 (by decide) rfl rfl (by omega) (by decide) hk ?_
  refine sr_iload_n hA si_47_6 rfl ?_
  refine sr_icmp_eqN (tgt := 24) hA si_47_7 (by decide) (by omega) (by omega) (fun c1 => absurd c1 (by omega)) (fun c1 => ?_)
  refine sr_getsP hA si_47_10 rfl ?_
  refine sr_aload_n hA si_47_13 rfl ?_
  refine sr_getR (r := 19) hA si_47_14 sf_47_9 (by decide) (by decide) rfl rfl rfl ?_
  refine sr_iload_n hA si_47_17 rfl ?_
  refine sr_ialdNv (v := nI 0) (n := 6) hA si_47_18 (by decide) rfl rfl (by omega) (by decide) hk ?_
  refine sr_taldNv (v := nI 0) hA si_47_19 (by decide) (by omega) rfl ?_
  refine sr_iload_n hA si_47_20 rfl ?_
  refine sr_icmp_neN (tgt := 28) hA si_47_21 (by decide) (by omega) (by omega) (fun c2 => ?_) (fun c2 => absurd c2 (by omega))
  refine sr_iconst (v := nI 0) hA si_47_28 (by decide) ?_
  exact sr_zretF hA si_47_29 sq_r_47 (by decide) rfl rfl
set_option maxRecDepth 20000 in
theorem xc_isOf05 (X : sp_X) (g : sp_G) {i : Nat} (hi : i < 6) (hk : g.1 19 i = nI 0) : sp_Ct X 0 47 [.ref 18, .int (nI i), .int (nI 5)] g (sp_Fi (nI 0) g) := by
  refine sp_walkN (n := 3) sq_p_47 sq_l_47 (Nat.le_of_ble_eq_true rfl) (fun a hA => ?_)
  show sp_Ev X a 47 0 [.ref 18, .int (nI i), .int (nI 5)] [] g
  refine sr_aload_n hA si_47_0 rfl ?_
  refine sr_getR (r := 19) hA si_47_1 sf_47_9 (by decide) (by decide) rfl rfl rfl ?_
  refine sr_iload_n hA si_47_4 rfl ?_
  refine sr_ialdNv (v := nI 0) (n := 6) hA si_47_5 (by decide) rfl rfl (by omega) (by decide) hk ?_
  refine sr_iload_n hA si_47_6 rfl ?_
  refine sr_icmp_eqN (tgt := 24) hA si_47_7 (by decide) (by omega) (by omega) (fun c1 => absurd c1 (by omega)) (fun c1 => ?_)
  refine sr_getsP hA si_47_10 rfl ?_
  refine sr_aload_n hA si_47_13 rfl ?_
  refine sr_getR (r := 19) hA si_47_14 sf_47_9 (by decide) (by decide) rfl rfl rfl ?_
  refine sr_iload_n hA si_47_17 rfl ?_
  refine sr_ialdNv (v := nI 0) (n := 6) hA si_47_18 (by decide) rfl rfl (by omega) (by decide) hk ?_
  refine sr_taldNv (v := nI 0) hA si_47_19 (by decide) (by omega) rfl ?_
  refine sr_iload_n hA si_47_20 rfl ?_
  refine sr_icmp_neN (tgt := 28) hA si_47_21 (by decide) (by omega) (by omega) (fun c2 => ?_) (fun c2 => absurd c2 (by omega))
  refine sr_iconst (v := nI 0) hA si_47_28 (by decide) ?_
  exact sr_zretF hA si_47_29 sq_r_47 (by decide) rfl rfl
set_option maxRecDepth 20000 in
theorem xc_isOf11 (X : sp_X) (g : sp_G) {i : Nat} (hi : i < 6) (hk : g.1 19 i = nI 1) : sp_Ct X 0 47 [.ref 18, .int (nI i), .int (nI 1)] g (sp_Fi (nI 1) g) := by
  refine sp_walkN (n := 3) sq_p_47 sq_l_47 (Nat.le_of_ble_eq_true rfl) (fun a hA => ?_)
  show sp_Ev X a 47 0 [.ref 18, .int (nI i), .int (nI 1)] [] g
  refine sr_aload_n hA si_47_0 rfl ?_
  refine sr_getR (r := 19) hA si_47_1 sf_47_9 (by decide) (by decide) rfl rfl rfl ?_
  refine sr_iload_n hA si_47_4 rfl ?_
  refine sr_ialdNv (v := nI 1) (n := 6) hA si_47_5 (by decide) rfl rfl (by omega) (by decide) hk ?_
  refine sr_iload_n hA si_47_6 rfl ?_
  refine sr_icmp_eqN (tgt := 24) hA si_47_7 (by decide) (by omega) (by omega) (fun c1 => ?_) (fun c1 => absurd c1 (by omega))
  refine sr_iconst (v := nI 1) hA si_47_24 (by decide) ?_
  refine sr_goto (tgt := 29) hA si_47_25 (by decide) ?_
  exact sr_zretF hA si_47_29 sq_r_47 (by decide) rfl rfl
set_option maxRecDepth 20000 in
theorem xc_isOf12 (X : sp_X) (g : sp_G) {i : Nat} (hi : i < 6) (hk : g.1 19 i = nI 1) : sp_Ct X 0 47 [.ref 18, .int (nI i), .int (nI 2)] g (sp_Fi (nI 0) g) := by
  refine sp_walkN (n := 3) sq_p_47 sq_l_47 (Nat.le_of_ble_eq_true rfl) (fun a hA => ?_)
  show sp_Ev X a 47 0 [.ref 18, .int (nI i), .int (nI 2)] [] g
  refine sr_aload_n hA si_47_0 rfl ?_
  refine sr_getR (r := 19) hA si_47_1 sf_47_9 (by decide) (by decide) rfl rfl rfl ?_
  refine sr_iload_n hA si_47_4 rfl ?_
  refine sr_ialdNv (v := nI 1) (n := 6) hA si_47_5 (by decide) rfl rfl (by omega) (by decide) hk ?_
  refine sr_iload_n hA si_47_6 rfl ?_
  refine sr_icmp_eqN (tgt := 24) hA si_47_7 (by decide) (by omega) (by omega) (fun c1 => absurd c1 (by omega)) (fun c1 => ?_)
  refine sr_getsP hA si_47_10 rfl ?_
  refine sr_aload_n hA si_47_13 rfl ?_
  refine sr_getR (r := 19) hA si_47_14 sf_47_9 (by decide) (by decide) rfl rfl rfl ?_
  refine sr_iload_n hA si_47_17 rfl ?_
  refine sr_ialdNv (v := nI 1) (n := 6) hA si_47_18 (by decide) rfl rfl (by omega) (by decide) hk ?_
  refine sr_taldNv (v := nI 0) hA si_47_19 (by decide) (by omega) rfl ?_
  refine sr_iload_n hA si_47_20 rfl ?_
  refine sr_icmp_neN (tgt := 28) hA si_47_21 (by decide) (by omega) (by omega) (fun c2 => ?_) (fun c2 => absurd c2 (by omega))
  refine sr_iconst (v := nI 0) hA si_47_28 (by decide) ?_
  exact sr_zretF hA si_47_29 sq_r_47 (by decide) rfl rfl
set_option maxRecDepth 20000 in
theorem xc_isOf13 (X : sp_X) (g : sp_G) {i : Nat} (hi : i < 6) (hk : g.1 19 i = nI 1) : sp_Ct X 0 47 [.ref 18, .int (nI i), .int (nI 3)] g (sp_Fi (nI 0) g) := by
  refine sp_walkN (n := 3) sq_p_47 sq_l_47 (Nat.le_of_ble_eq_true rfl) (fun a hA => ?_)
  show sp_Ev X a 47 0 [.ref 18, .int (nI i), .int (nI 3)] [] g
  refine sr_aload_n hA si_47_0 rfl ?_
  refine sr_getR (r := 19) hA si_47_1 sf_47_9 (by decide) (by decide) rfl rfl rfl ?_
  refine sr_iload_n hA si_47_4 rfl ?_
  refine sr_ialdNv (v := nI 1) (n := 6) hA si_47_5 (by decide) rfl rfl (by omega) (by decide) hk ?_
  refine sr_iload_n hA si_47_6 rfl ?_
  refine sr_icmp_eqN (tgt := 24) hA si_47_7 (by decide) (by omega) (by omega) (fun c1 => absurd c1 (by omega)) (fun c1 => ?_)
  refine sr_getsP hA si_47_10 rfl ?_
  refine sr_aload_n hA si_47_13 rfl ?_
  refine sr_getR (r := 19) hA si_47_14 sf_47_9 (by decide) (by decide) rfl rfl rfl ?_
  refine sr_iload_n hA si_47_17 rfl ?_
  refine sr_ialdNv (v := nI 1) (n := 6) hA si_47_18 (by decide) rfl rfl (by omega) (by decide) hk ?_
  refine sr_taldNv (v := nI 0) hA si_47_19 (by decide) (by omega) rfl ?_
  refine sr_iload_n hA si_47_20 rfl ?_
  refine sr_icmp_neN (tgt := 28) hA si_47_21 (by decide) (by omega) (by omega) (fun c2 => ?_) (fun c2 => absurd c2 (by omega))
  refine sr_iconst (v := nI 0) hA si_47_28 (by decide) ?_
  exact sr_zretF hA si_47_29 sq_r_47 (by decide) rfl rfl
set_option maxRecDepth 20000 in
theorem xc_isOf14 (X : sp_X) (g : sp_G) {i : Nat} (hi : i < 6) (hk : g.1 19 i = nI 1) : sp_Ct X 0 47 [.ref 18, .int (nI i), .int (nI 4)] g (sp_Fi (nI 0) g) := by
  refine sp_walkN (n := 3) sq_p_47 sq_l_47 (Nat.le_of_ble_eq_true rfl) (fun a hA => ?_)
  show sp_Ev X a 47 0 [.ref 18, .int (nI i), .int (nI 4)] [] g
  refine sr_aload_n hA si_47_0 rfl ?_
  refine sr_getR (r := 19) hA si_47_1 sf_47_9 (by decide) (by decide) rfl rfl rfl ?_
  refine sr_iload_n hA si_47_4 rfl ?_
  refine sr_ialdNv (v := nI 1) (n := 6) hA si_47_5 (by decide) rfl rfl (by omega) (by decide) hk ?_
  refine sr_iload_n hA si_47_6 rfl ?_
  refine sr_icmp_eqN (tgt := 24) hA si_47_7 (by decide) (by omega) (by omega) (fun c1 => absurd c1 (by omega)) (fun c1 => ?_)
  refine sr_getsP hA si_47_10 rfl ?_
  refine sr_aload_n hA si_47_13 rfl ?_
  refine sr_getR (r := 19) hA si_47_14 sf_47_9 (by decide) (by decide) rfl rfl rfl ?_
  refine sr_iload_n hA si_47_17 rfl ?_
  refine sr_ialdNv (v := nI 1) (n := 6) hA si_47_18 (by decide) rfl rfl (by omega) (by decide) hk ?_
  refine sr_taldNv (v := nI 0) hA si_47_19 (by decide) (by omega) rfl ?_
  refine sr_iload_n hA si_47_20 rfl ?_
  refine sr_icmp_neN (tgt := 28) hA si_47_21 (by decide) (by omega) (by omega) (fun c2 => ?_) (fun c2 => absurd c2 (by omega))
  refine sr_iconst (v := nI 0) hA si_47_28 (by decide) ?_
  exact sr_zretF hA si_47_29 sq_r_47 (by decide) rfl rfl
set_option maxRecDepth 20000 in
theorem xc_isOf15 (X : sp_X) (g : sp_G) {i : Nat} (hi : i < 6) (hk : g.1 19 i = nI 1) : sp_Ct X 0 47 [.ref 18, .int (nI i), .int (nI 5)] g (sp_Fi (nI 0) g) := by
  refine sp_walkN (n := 3) sq_p_47 sq_l_47 (Nat.le_of_ble_eq_true rfl) (fun a hA => ?_)
  show sp_Ev X a 47 0 [.ref 18, .int (nI i), .int (nI 5)] [] g
  refine sr_aload_n hA si_47_0 rfl ?_
  refine sr_getR (r := 19) hA si_47_1 sf_47_9 (by decide) (by decide) rfl rfl rfl ?_
  refine sr_iload_n hA si_47_4 rfl ?_
  refine sr_ialdNv (v := nI 1) (n := 6) hA si_47_5 (by decide) rfl rfl (by omega) (by decide) hk ?_
  refine sr_iload_n hA si_47_6 rfl ?_
  refine sr_icmp_eqN (tgt := 24) hA si_47_7 (by decide) (by omega) (by omega) (fun c1 => absurd c1 (by omega)) (fun c1 => ?_)
  refine sr_getsP hA si_47_10 rfl ?_
  refine sr_aload_n hA si_47_13 rfl ?_
  refine sr_getR (r := 19) hA si_47_14 sf_47_9 (by decide) (by decide) rfl rfl rfl ?_
  refine sr_iload_n hA si_47_17 rfl ?_
  refine sr_ialdNv (v := nI 1) (n := 6) hA si_47_18 (by decide) rfl rfl (by omega) (by decide) hk ?_
  refine sr_taldNv (v := nI 0) hA si_47_19 (by decide) (by omega) rfl ?_
  refine sr_iload_n hA si_47_20 rfl ?_
  refine sr_icmp_neN (tgt := 28) hA si_47_21 (by decide) (by omega) (by omega) (fun c2 => ?_) (fun c2 => absurd c2 (by omega))
  refine sr_iconst (v := nI 0) hA si_47_28 (by decide) ?_
  exact sr_zretF hA si_47_29 sq_r_47 (by decide) rfl rfl
set_option maxRecDepth 20000 in
theorem xc_isOf21 (X : sp_X) (g : sp_G) {i : Nat} (hi : i < 6) (hk : g.1 19 i = nI 2) : sp_Ct X 0 47 [.ref 18, .int (nI i), .int (nI 1)] g (sp_Fi (nI 0) g) := by
  refine sp_walkN (n := 3) sq_p_47 sq_l_47 (Nat.le_of_ble_eq_true rfl) (fun a hA => ?_)
  show sp_Ev X a 47 0 [.ref 18, .int (nI i), .int (nI 1)] [] g
  refine sr_aload_n hA si_47_0 rfl ?_
  refine sr_getR (r := 19) hA si_47_1 sf_47_9 (by decide) (by decide) rfl rfl rfl ?_
  refine sr_iload_n hA si_47_4 rfl ?_
  refine sr_ialdNv (v := nI 2) (n := 6) hA si_47_5 (by decide) rfl rfl (by omega) (by decide) hk ?_
  refine sr_iload_n hA si_47_6 rfl ?_
  refine sr_icmp_eqN (tgt := 24) hA si_47_7 (by decide) (by omega) (by omega) (fun c1 => absurd c1 (by omega)) (fun c1 => ?_)
  refine sr_getsP hA si_47_10 rfl ?_
  refine sr_aload_n hA si_47_13 rfl ?_
  refine sr_getR (r := 19) hA si_47_14 sf_47_9 (by decide) (by decide) rfl rfl rfl ?_
  refine sr_iload_n hA si_47_17 rfl ?_
  refine sr_ialdNv (v := nI 2) (n := 6) hA si_47_18 (by decide) rfl rfl (by omega) (by decide) hk ?_
  refine sr_taldNv (v := nI 0) hA si_47_19 (by decide) (by omega) rfl ?_
  refine sr_iload_n hA si_47_20 rfl ?_
  refine sr_icmp_neN (tgt := 28) hA si_47_21 (by decide) (by omega) (by omega) (fun c2 => ?_) (fun c2 => absurd c2 (by omega))
  refine sr_iconst (v := nI 0) hA si_47_28 (by decide) ?_
  exact sr_zretF hA si_47_29 sq_r_47 (by decide) rfl rfl
set_option maxRecDepth 20000 in
theorem xc_isOf22 (X : sp_X) (g : sp_G) {i : Nat} (hi : i < 6) (hk : g.1 19 i = nI 2) : sp_Ct X 0 47 [.ref 18, .int (nI i), .int (nI 2)] g (sp_Fi (nI 1) g) := by
  refine sp_walkN (n := 3) sq_p_47 sq_l_47 (Nat.le_of_ble_eq_true rfl) (fun a hA => ?_)
  show sp_Ev X a 47 0 [.ref 18, .int (nI i), .int (nI 2)] [] g
  refine sr_aload_n hA si_47_0 rfl ?_
  refine sr_getR (r := 19) hA si_47_1 sf_47_9 (by decide) (by decide) rfl rfl rfl ?_
  refine sr_iload_n hA si_47_4 rfl ?_
  refine sr_ialdNv (v := nI 2) (n := 6) hA si_47_5 (by decide) rfl rfl (by omega) (by decide) hk ?_
  refine sr_iload_n hA si_47_6 rfl ?_
  refine sr_icmp_eqN (tgt := 24) hA si_47_7 (by decide) (by omega) (by omega) (fun c1 => ?_) (fun c1 => absurd c1 (by omega))
  refine sr_iconst (v := nI 1) hA si_47_24 (by decide) ?_
  refine sr_goto (tgt := 29) hA si_47_25 (by decide) ?_
  exact sr_zretF hA si_47_29 sq_r_47 (by decide) rfl rfl
set_option maxRecDepth 20000 in
theorem xc_isOf23 (X : sp_X) (g : sp_G) {i : Nat} (hi : i < 6) (hk : g.1 19 i = nI 2) : sp_Ct X 0 47 [.ref 18, .int (nI i), .int (nI 3)] g (sp_Fi (nI 0) g) := by
  refine sp_walkN (n := 3) sq_p_47 sq_l_47 (Nat.le_of_ble_eq_true rfl) (fun a hA => ?_)
  show sp_Ev X a 47 0 [.ref 18, .int (nI i), .int (nI 3)] [] g
  refine sr_aload_n hA si_47_0 rfl ?_
  refine sr_getR (r := 19) hA si_47_1 sf_47_9 (by decide) (by decide) rfl rfl rfl ?_
  refine sr_iload_n hA si_47_4 rfl ?_
  refine sr_ialdNv (v := nI 2) (n := 6) hA si_47_5 (by decide) rfl rfl (by omega) (by decide) hk ?_
  refine sr_iload_n hA si_47_6 rfl ?_
  refine sr_icmp_eqN (tgt := 24) hA si_47_7 (by decide) (by omega) (by omega) (fun c1 => absurd c1 (by omega)) (fun c1 => ?_)
  refine sr_getsP hA si_47_10 rfl ?_
  refine sr_aload_n hA si_47_13 rfl ?_
  refine sr_getR (r := 19) hA si_47_14 sf_47_9 (by decide) (by decide) rfl rfl rfl ?_
  refine sr_iload_n hA si_47_17 rfl ?_
  refine sr_ialdNv (v := nI 2) (n := 6) hA si_47_18 (by decide) rfl rfl (by omega) (by decide) hk ?_
  refine sr_taldNv (v := nI 0) hA si_47_19 (by decide) (by omega) rfl ?_
  refine sr_iload_n hA si_47_20 rfl ?_
  refine sr_icmp_neN (tgt := 28) hA si_47_21 (by decide) (by omega) (by omega) (fun c2 => ?_) (fun c2 => absurd c2 (by omega))
  refine sr_iconst (v := nI 0) hA si_47_28 (by decide) ?_
  exact sr_zretF hA si_47_29 sq_r_47 (by decide) rfl rfl
set_option maxRecDepth 20000 in
theorem xc_isOf24 (X : sp_X) (g : sp_G) {i : Nat} (hi : i < 6) (hk : g.1 19 i = nI 2) : sp_Ct X 0 47 [.ref 18, .int (nI i), .int (nI 4)] g (sp_Fi (nI 0) g) := by
  refine sp_walkN (n := 3) sq_p_47 sq_l_47 (Nat.le_of_ble_eq_true rfl) (fun a hA => ?_)
  show sp_Ev X a 47 0 [.ref 18, .int (nI i), .int (nI 4)] [] g
  refine sr_aload_n hA si_47_0 rfl ?_
  refine sr_getR (r := 19) hA si_47_1 sf_47_9 (by decide) (by decide) rfl rfl rfl ?_
  refine sr_iload_n hA si_47_4 rfl ?_
  refine sr_ialdNv (v := nI 2) (n := 6) hA si_47_5 (by decide) rfl rfl (by omega) (by decide) hk ?_
  refine sr_iload_n hA si_47_6 rfl ?_
  refine sr_icmp_eqN (tgt := 24) hA si_47_7 (by decide) (by omega) (by omega) (fun c1 => absurd c1 (by omega)) (fun c1 => ?_)
  refine sr_getsP hA si_47_10 rfl ?_
  refine sr_aload_n hA si_47_13 rfl ?_
  refine sr_getR (r := 19) hA si_47_14 sf_47_9 (by decide) (by decide) rfl rfl rfl ?_
  refine sr_iload_n hA si_47_17 rfl ?_
  refine sr_ialdNv (v := nI 2) (n := 6) hA si_47_18 (by decide) rfl rfl (by omega) (by decide) hk ?_
  refine sr_taldNv (v := nI 0) hA si_47_19 (by decide) (by omega) rfl ?_
  refine sr_iload_n hA si_47_20 rfl ?_
  refine sr_icmp_neN (tgt := 28) hA si_47_21 (by decide) (by omega) (by omega) (fun c2 => ?_) (fun c2 => absurd c2 (by omega))
  refine sr_iconst (v := nI 0) hA si_47_28 (by decide) ?_
  exact sr_zretF hA si_47_29 sq_r_47 (by decide) rfl rfl
set_option maxRecDepth 20000 in
theorem xc_isOf25 (X : sp_X) (g : sp_G) {i : Nat} (hi : i < 6) (hk : g.1 19 i = nI 2) : sp_Ct X 0 47 [.ref 18, .int (nI i), .int (nI 5)] g (sp_Fi (nI 0) g) := by
  refine sp_walkN (n := 3) sq_p_47 sq_l_47 (Nat.le_of_ble_eq_true rfl) (fun a hA => ?_)
  show sp_Ev X a 47 0 [.ref 18, .int (nI i), .int (nI 5)] [] g
  refine sr_aload_n hA si_47_0 rfl ?_
  refine sr_getR (r := 19) hA si_47_1 sf_47_9 (by decide) (by decide) rfl rfl rfl ?_
  refine sr_iload_n hA si_47_4 rfl ?_
  refine sr_ialdNv (v := nI 2) (n := 6) hA si_47_5 (by decide) rfl rfl (by omega) (by decide) hk ?_
  refine sr_iload_n hA si_47_6 rfl ?_
  refine sr_icmp_eqN (tgt := 24) hA si_47_7 (by decide) (by omega) (by omega) (fun c1 => absurd c1 (by omega)) (fun c1 => ?_)
  refine sr_getsP hA si_47_10 rfl ?_
  refine sr_aload_n hA si_47_13 rfl ?_
  refine sr_getR (r := 19) hA si_47_14 sf_47_9 (by decide) (by decide) rfl rfl rfl ?_
  refine sr_iload_n hA si_47_17 rfl ?_
  refine sr_ialdNv (v := nI 2) (n := 6) hA si_47_18 (by decide) rfl rfl (by omega) (by decide) hk ?_
  refine sr_taldNv (v := nI 0) hA si_47_19 (by decide) (by omega) rfl ?_
  refine sr_iload_n hA si_47_20 rfl ?_
  refine sr_icmp_neN (tgt := 28) hA si_47_21 (by decide) (by omega) (by omega) (fun c2 => ?_) (fun c2 => absurd c2 (by omega))
  refine sr_iconst (v := nI 0) hA si_47_28 (by decide) ?_
  exact sr_zretF hA si_47_29 sq_r_47 (by decide) rfl rfl
set_option maxRecDepth 20000 in
theorem xc_isOf31 (X : sp_X) (g : sp_G) {i : Nat} (hi : i < 6) (hk : g.1 19 i = nI 3) : sp_Ct X 0 47 [.ref 18, .int (nI i), .int (nI 1)] g (sp_Fi (nI 0) g) := by
  refine sp_walkN (n := 3) sq_p_47 sq_l_47 (Nat.le_of_ble_eq_true rfl) (fun a hA => ?_)
  show sp_Ev X a 47 0 [.ref 18, .int (nI i), .int (nI 1)] [] g
  refine sr_aload_n hA si_47_0 rfl ?_
  refine sr_getR (r := 19) hA si_47_1 sf_47_9 (by decide) (by decide) rfl rfl rfl ?_
  refine sr_iload_n hA si_47_4 rfl ?_
  refine sr_ialdNv (v := nI 3) (n := 6) hA si_47_5 (by decide) rfl rfl (by omega) (by decide) hk ?_
  refine sr_iload_n hA si_47_6 rfl ?_
  refine sr_icmp_eqN (tgt := 24) hA si_47_7 (by decide) (by omega) (by omega) (fun c1 => absurd c1 (by omega)) (fun c1 => ?_)
  refine sr_getsP hA si_47_10 rfl ?_
  refine sr_aload_n hA si_47_13 rfl ?_
  refine sr_getR (r := 19) hA si_47_14 sf_47_9 (by decide) (by decide) rfl rfl rfl ?_
  refine sr_iload_n hA si_47_17 rfl ?_
  refine sr_ialdNv (v := nI 3) (n := 6) hA si_47_18 (by decide) rfl rfl (by omega) (by decide) hk ?_
  refine sr_taldNv (v := nI 0) hA si_47_19 (by decide) (by omega) rfl ?_
  refine sr_iload_n hA si_47_20 rfl ?_
  refine sr_icmp_neN (tgt := 28) hA si_47_21 (by decide) (by omega) (by omega) (fun c2 => ?_) (fun c2 => absurd c2 (by omega))
  refine sr_iconst (v := nI 0) hA si_47_28 (by decide) ?_
  exact sr_zretF hA si_47_29 sq_r_47 (by decide) rfl rfl
set_option maxRecDepth 20000 in
theorem xc_isOf32 (X : sp_X) (g : sp_G) {i : Nat} (hi : i < 6) (hk : g.1 19 i = nI 3) : sp_Ct X 0 47 [.ref 18, .int (nI i), .int (nI 2)] g (sp_Fi (nI 0) g) := by
  refine sp_walkN (n := 3) sq_p_47 sq_l_47 (Nat.le_of_ble_eq_true rfl) (fun a hA => ?_)
  show sp_Ev X a 47 0 [.ref 18, .int (nI i), .int (nI 2)] [] g
  refine sr_aload_n hA si_47_0 rfl ?_
  refine sr_getR (r := 19) hA si_47_1 sf_47_9 (by decide) (by decide) rfl rfl rfl ?_
  refine sr_iload_n hA si_47_4 rfl ?_
  refine sr_ialdNv (v := nI 3) (n := 6) hA si_47_5 (by decide) rfl rfl (by omega) (by decide) hk ?_
  refine sr_iload_n hA si_47_6 rfl ?_
  refine sr_icmp_eqN (tgt := 24) hA si_47_7 (by decide) (by omega) (by omega) (fun c1 => absurd c1 (by omega)) (fun c1 => ?_)
  refine sr_getsP hA si_47_10 rfl ?_
  refine sr_aload_n hA si_47_13 rfl ?_
  refine sr_getR (r := 19) hA si_47_14 sf_47_9 (by decide) (by decide) rfl rfl rfl ?_
  refine sr_iload_n hA si_47_17 rfl ?_
  refine sr_ialdNv (v := nI 3) (n := 6) hA si_47_18 (by decide) rfl rfl (by omega) (by decide) hk ?_
  refine sr_taldNv (v := nI 0) hA si_47_19 (by decide) (by omega) rfl ?_
  refine sr_iload_n hA si_47_20 rfl ?_
  refine sr_icmp_neN (tgt := 28) hA si_47_21 (by decide) (by omega) (by omega) (fun c2 => ?_) (fun c2 => absurd c2 (by omega))
  refine sr_iconst (v := nI 0) hA si_47_28 (by decide) ?_
  exact sr_zretF hA si_47_29 sq_r_47 (by decide) rfl rfl
set_option maxRecDepth 20000 in
theorem xc_isOf33 (X : sp_X) (g : sp_G) {i : Nat} (hi : i < 6) (hk : g.1 19 i = nI 3) : sp_Ct X 0 47 [.ref 18, .int (nI i), .int (nI 3)] g (sp_Fi (nI 1) g) := by
  refine sp_walkN (n := 3) sq_p_47 sq_l_47 (Nat.le_of_ble_eq_true rfl) (fun a hA => ?_)
  show sp_Ev X a 47 0 [.ref 18, .int (nI i), .int (nI 3)] [] g
  refine sr_aload_n hA si_47_0 rfl ?_
  refine sr_getR (r := 19) hA si_47_1 sf_47_9 (by decide) (by decide) rfl rfl rfl ?_
  refine sr_iload_n hA si_47_4 rfl ?_
  refine sr_ialdNv (v := nI 3) (n := 6) hA si_47_5 (by decide) rfl rfl (by omega) (by decide) hk ?_
  refine sr_iload_n hA si_47_6 rfl ?_
  refine sr_icmp_eqN (tgt := 24) hA si_47_7 (by decide) (by omega) (by omega) (fun c1 => ?_) (fun c1 => absurd c1 (by omega))
  refine sr_iconst (v := nI 1) hA si_47_24 (by decide) ?_
  refine sr_goto (tgt := 29) hA si_47_25 (by decide) ?_
  exact sr_zretF hA si_47_29 sq_r_47 (by decide) rfl rfl
set_option maxRecDepth 20000 in
theorem xc_isOf34 (X : sp_X) (g : sp_G) {i : Nat} (hi : i < 6) (hk : g.1 19 i = nI 3) : sp_Ct X 0 47 [.ref 18, .int (nI i), .int (nI 4)] g (sp_Fi (nI 0) g) := by
  refine sp_walkN (n := 3) sq_p_47 sq_l_47 (Nat.le_of_ble_eq_true rfl) (fun a hA => ?_)
  show sp_Ev X a 47 0 [.ref 18, .int (nI i), .int (nI 4)] [] g
  refine sr_aload_n hA si_47_0 rfl ?_
  refine sr_getR (r := 19) hA si_47_1 sf_47_9 (by decide) (by decide) rfl rfl rfl ?_
  refine sr_iload_n hA si_47_4 rfl ?_
  refine sr_ialdNv (v := nI 3) (n := 6) hA si_47_5 (by decide) rfl rfl (by omega) (by decide) hk ?_
  refine sr_iload_n hA si_47_6 rfl ?_
  refine sr_icmp_eqN (tgt := 24) hA si_47_7 (by decide) (by omega) (by omega) (fun c1 => absurd c1 (by omega)) (fun c1 => ?_)
  refine sr_getsP hA si_47_10 rfl ?_
  refine sr_aload_n hA si_47_13 rfl ?_
  refine sr_getR (r := 19) hA si_47_14 sf_47_9 (by decide) (by decide) rfl rfl rfl ?_
  refine sr_iload_n hA si_47_17 rfl ?_
  refine sr_ialdNv (v := nI 3) (n := 6) hA si_47_18 (by decide) rfl rfl (by omega) (by decide) hk ?_
  refine sr_taldNv (v := nI 0) hA si_47_19 (by decide) (by omega) rfl ?_
  refine sr_iload_n hA si_47_20 rfl ?_
  refine sr_icmp_neN (tgt := 28) hA si_47_21 (by decide) (by omega) (by omega) (fun c2 => ?_) (fun c2 => absurd c2 (by omega))
  refine sr_iconst (v := nI 0) hA si_47_28 (by decide) ?_
  exact sr_zretF hA si_47_29 sq_r_47 (by decide) rfl rfl
set_option maxRecDepth 20000 in
theorem xc_isOf35 (X : sp_X) (g : sp_G) {i : Nat} (hi : i < 6) (hk : g.1 19 i = nI 3) : sp_Ct X 0 47 [.ref 18, .int (nI i), .int (nI 5)] g (sp_Fi (nI 0) g) := by
  refine sp_walkN (n := 3) sq_p_47 sq_l_47 (Nat.le_of_ble_eq_true rfl) (fun a hA => ?_)
  show sp_Ev X a 47 0 [.ref 18, .int (nI i), .int (nI 5)] [] g
  refine sr_aload_n hA si_47_0 rfl ?_
  refine sr_getR (r := 19) hA si_47_1 sf_47_9 (by decide) (by decide) rfl rfl rfl ?_
  refine sr_iload_n hA si_47_4 rfl ?_
  refine sr_ialdNv (v := nI 3) (n := 6) hA si_47_5 (by decide) rfl rfl (by omega) (by decide) hk ?_
  refine sr_iload_n hA si_47_6 rfl ?_
  refine sr_icmp_eqN (tgt := 24) hA si_47_7 (by decide) (by omega) (by omega) (fun c1 => absurd c1 (by omega)) (fun c1 => ?_)
  refine sr_getsP hA si_47_10 rfl ?_
  refine sr_aload_n hA si_47_13 rfl ?_
  refine sr_getR (r := 19) hA si_47_14 sf_47_9 (by decide) (by decide) rfl rfl rfl ?_
  refine sr_iload_n hA si_47_17 rfl ?_
  refine sr_ialdNv (v := nI 3) (n := 6) hA si_47_18 (by decide) rfl rfl (by omega) (by decide) hk ?_
  refine sr_taldNv (v := nI 0) hA si_47_19 (by decide) (by omega) rfl ?_
  refine sr_iload_n hA si_47_20 rfl ?_
  refine sr_icmp_neN (tgt := 28) hA si_47_21 (by decide) (by omega) (by omega) (fun c2 => ?_) (fun c2 => absurd c2 (by omega))
  refine sr_iconst (v := nI 0) hA si_47_28 (by decide) ?_
  exact sr_zretF hA si_47_29 sq_r_47 (by decide) rfl rfl
set_option maxRecDepth 20000 in
theorem xc_isOf41 (X : sp_X) (g : sp_G) {i : Nat} (hi : i < 6) (hk : g.1 19 i = nI 4) : sp_Ct X 0 47 [.ref 18, .int (nI i), .int (nI 1)] g (sp_Fi (nI 1) g) := by
  refine sp_walkN (n := 3) sq_p_47 sq_l_47 (Nat.le_of_ble_eq_true rfl) (fun a hA => ?_)
  show sp_Ev X a 47 0 [.ref 18, .int (nI i), .int (nI 1)] [] g
  refine sr_aload_n hA si_47_0 rfl ?_
  refine sr_getR (r := 19) hA si_47_1 sf_47_9 (by decide) (by decide) rfl rfl rfl ?_
  refine sr_iload_n hA si_47_4 rfl ?_
  refine sr_ialdNv (v := nI 4) (n := 6) hA si_47_5 (by decide) rfl rfl (by omega) (by decide) hk ?_
  refine sr_iload_n hA si_47_6 rfl ?_
  refine sr_icmp_eqN (tgt := 24) hA si_47_7 (by decide) (by omega) (by omega) (fun c1 => absurd c1 (by omega)) (fun c1 => ?_)
  refine sr_getsP hA si_47_10 rfl ?_
  refine sr_aload_n hA si_47_13 rfl ?_
  refine sr_getR (r := 19) hA si_47_14 sf_47_9 (by decide) (by decide) rfl rfl rfl ?_
  refine sr_iload_n hA si_47_17 rfl ?_
  refine sr_ialdNv (v := nI 4) (n := 6) hA si_47_18 (by decide) rfl rfl (by omega) (by decide) hk ?_
  refine sr_taldNv (v := nI 1) hA si_47_19 (by decide) (by omega) rfl ?_
  refine sr_iload_n hA si_47_20 rfl ?_
  refine sr_icmp_neN (tgt := 28) hA si_47_21 (by decide) (by omega) (by omega) (fun c2 => absurd c2 (by omega)) (fun c2 => ?_)
  refine sr_iconst (v := nI 1) hA si_47_24 (by decide) ?_
  refine sr_goto (tgt := 29) hA si_47_25 (by decide) ?_
  exact sr_zretF hA si_47_29 sq_r_47 (by decide) rfl rfl
set_option maxRecDepth 20000 in
theorem xc_isOf42 (X : sp_X) (g : sp_G) {i : Nat} (hi : i < 6) (hk : g.1 19 i = nI 4) : sp_Ct X 0 47 [.ref 18, .int (nI i), .int (nI 2)] g (sp_Fi (nI 0) g) := by
  refine sp_walkN (n := 3) sq_p_47 sq_l_47 (Nat.le_of_ble_eq_true rfl) (fun a hA => ?_)
  show sp_Ev X a 47 0 [.ref 18, .int (nI i), .int (nI 2)] [] g
  refine sr_aload_n hA si_47_0 rfl ?_
  refine sr_getR (r := 19) hA si_47_1 sf_47_9 (by decide) (by decide) rfl rfl rfl ?_
  refine sr_iload_n hA si_47_4 rfl ?_
  refine sr_ialdNv (v := nI 4) (n := 6) hA si_47_5 (by decide) rfl rfl (by omega) (by decide) hk ?_
  refine sr_iload_n hA si_47_6 rfl ?_
  refine sr_icmp_eqN (tgt := 24) hA si_47_7 (by decide) (by omega) (by omega) (fun c1 => absurd c1 (by omega)) (fun c1 => ?_)
  refine sr_getsP hA si_47_10 rfl ?_
  refine sr_aload_n hA si_47_13 rfl ?_
  refine sr_getR (r := 19) hA si_47_14 sf_47_9 (by decide) (by decide) rfl rfl rfl ?_
  refine sr_iload_n hA si_47_17 rfl ?_
  refine sr_ialdNv (v := nI 4) (n := 6) hA si_47_18 (by decide) rfl rfl (by omega) (by decide) hk ?_
  refine sr_taldNv (v := nI 1) hA si_47_19 (by decide) (by omega) rfl ?_
  refine sr_iload_n hA si_47_20 rfl ?_
  refine sr_icmp_neN (tgt := 28) hA si_47_21 (by decide) (by omega) (by omega) (fun c2 => ?_) (fun c2 => absurd c2 (by omega))
  refine sr_iconst (v := nI 0) hA si_47_28 (by decide) ?_
  exact sr_zretF hA si_47_29 sq_r_47 (by decide) rfl rfl
set_option maxRecDepth 20000 in
theorem xc_isOf43 (X : sp_X) (g : sp_G) {i : Nat} (hi : i < 6) (hk : g.1 19 i = nI 4) : sp_Ct X 0 47 [.ref 18, .int (nI i), .int (nI 3)] g (sp_Fi (nI 0) g) := by
  refine sp_walkN (n := 3) sq_p_47 sq_l_47 (Nat.le_of_ble_eq_true rfl) (fun a hA => ?_)
  show sp_Ev X a 47 0 [.ref 18, .int (nI i), .int (nI 3)] [] g
  refine sr_aload_n hA si_47_0 rfl ?_
  refine sr_getR (r := 19) hA si_47_1 sf_47_9 (by decide) (by decide) rfl rfl rfl ?_
  refine sr_iload_n hA si_47_4 rfl ?_
  refine sr_ialdNv (v := nI 4) (n := 6) hA si_47_5 (by decide) rfl rfl (by omega) (by decide) hk ?_
  refine sr_iload_n hA si_47_6 rfl ?_
  refine sr_icmp_eqN (tgt := 24) hA si_47_7 (by decide) (by omega) (by omega) (fun c1 => absurd c1 (by omega)) (fun c1 => ?_)
  refine sr_getsP hA si_47_10 rfl ?_
  refine sr_aload_n hA si_47_13 rfl ?_
  refine sr_getR (r := 19) hA si_47_14 sf_47_9 (by decide) (by decide) rfl rfl rfl ?_
  refine sr_iload_n hA si_47_17 rfl ?_
  refine sr_ialdNv (v := nI 4) (n := 6) hA si_47_18 (by decide) rfl rfl (by omega) (by decide) hk ?_
  refine sr_taldNv (v := nI 1) hA si_47_19 (by decide) (by omega) rfl ?_
  refine sr_iload_n hA si_47_20 rfl ?_
  refine sr_icmp_neN (tgt := 28) hA si_47_21 (by decide) (by omega) (by omega) (fun c2 => ?_) (fun c2 => absurd c2 (by omega))
  refine sr_iconst (v := nI 0) hA si_47_28 (by decide) ?_
  exact sr_zretF hA si_47_29 sq_r_47 (by decide) rfl rfl
set_option maxRecDepth 20000 in
theorem xc_isOf44 (X : sp_X) (g : sp_G) {i : Nat} (hi : i < 6) (hk : g.1 19 i = nI 4) : sp_Ct X 0 47 [.ref 18, .int (nI i), .int (nI 4)] g (sp_Fi (nI 1) g) := by
  refine sp_walkN (n := 3) sq_p_47 sq_l_47 (Nat.le_of_ble_eq_true rfl) (fun a hA => ?_)
  show sp_Ev X a 47 0 [.ref 18, .int (nI i), .int (nI 4)] [] g
  refine sr_aload_n hA si_47_0 rfl ?_
  refine sr_getR (r := 19) hA si_47_1 sf_47_9 (by decide) (by decide) rfl rfl rfl ?_
  refine sr_iload_n hA si_47_4 rfl ?_
  refine sr_ialdNv (v := nI 4) (n := 6) hA si_47_5 (by decide) rfl rfl (by omega) (by decide) hk ?_
  refine sr_iload_n hA si_47_6 rfl ?_
  refine sr_icmp_eqN (tgt := 24) hA si_47_7 (by decide) (by omega) (by omega) (fun c1 => ?_) (fun c1 => absurd c1 (by omega))
  refine sr_iconst (v := nI 1) hA si_47_24 (by decide) ?_
  refine sr_goto (tgt := 29) hA si_47_25 (by decide) ?_
  exact sr_zretF hA si_47_29 sq_r_47 (by decide) rfl rfl
set_option maxRecDepth 20000 in
theorem xc_isOf45 (X : sp_X) (g : sp_G) {i : Nat} (hi : i < 6) (hk : g.1 19 i = nI 4) : sp_Ct X 0 47 [.ref 18, .int (nI i), .int (nI 5)] g (sp_Fi (nI 0) g) := by
  refine sp_walkN (n := 3) sq_p_47 sq_l_47 (Nat.le_of_ble_eq_true rfl) (fun a hA => ?_)
  show sp_Ev X a 47 0 [.ref 18, .int (nI i), .int (nI 5)] [] g
  refine sr_aload_n hA si_47_0 rfl ?_
  refine sr_getR (r := 19) hA si_47_1 sf_47_9 (by decide) (by decide) rfl rfl rfl ?_
  refine sr_iload_n hA si_47_4 rfl ?_
  refine sr_ialdNv (v := nI 4) (n := 6) hA si_47_5 (by decide) rfl rfl (by omega) (by decide) hk ?_
  refine sr_iload_n hA si_47_6 rfl ?_
  refine sr_icmp_eqN (tgt := 24) hA si_47_7 (by decide) (by omega) (by omega) (fun c1 => absurd c1 (by omega)) (fun c1 => ?_)
  refine sr_getsP hA si_47_10 rfl ?_
  refine sr_aload_n hA si_47_13 rfl ?_
  refine sr_getR (r := 19) hA si_47_14 sf_47_9 (by decide) (by decide) rfl rfl rfl ?_
  refine sr_iload_n hA si_47_17 rfl ?_
  refine sr_ialdNv (v := nI 4) (n := 6) hA si_47_18 (by decide) rfl rfl (by omega) (by decide) hk ?_
  refine sr_taldNv (v := nI 1) hA si_47_19 (by decide) (by omega) rfl ?_
  refine sr_iload_n hA si_47_20 rfl ?_
  refine sr_icmp_neN (tgt := 28) hA si_47_21 (by decide) (by omega) (by omega) (fun c2 => ?_) (fun c2 => absurd c2 (by omega))
  refine sr_iconst (v := nI 0) hA si_47_28 (by decide) ?_
  exact sr_zretF hA si_47_29 sq_r_47 (by decide) rfl rfl
set_option maxRecDepth 20000 in
theorem xc_isOf51 (X : sp_X) (g : sp_G) {i : Nat} (hi : i < 6) (hk : g.1 19 i = nI 5) : sp_Ct X 0 47 [.ref 18, .int (nI i), .int (nI 1)] g (sp_Fi (nI 0) g) := by
  refine sp_walkN (n := 3) sq_p_47 sq_l_47 (Nat.le_of_ble_eq_true rfl) (fun a hA => ?_)
  show sp_Ev X a 47 0 [.ref 18, .int (nI i), .int (nI 1)] [] g
  refine sr_aload_n hA si_47_0 rfl ?_
  refine sr_getR (r := 19) hA si_47_1 sf_47_9 (by decide) (by decide) rfl rfl rfl ?_
  refine sr_iload_n hA si_47_4 rfl ?_
  refine sr_ialdNv (v := nI 5) (n := 6) hA si_47_5 (by decide) rfl rfl (by omega) (by decide) hk ?_
  refine sr_iload_n hA si_47_6 rfl ?_
  refine sr_icmp_eqN (tgt := 24) hA si_47_7 (by decide) (by omega) (by omega) (fun c1 => absurd c1 (by omega)) (fun c1 => ?_)
  refine sr_getsP hA si_47_10 rfl ?_
  refine sr_aload_n hA si_47_13 rfl ?_
  refine sr_getR (r := 19) hA si_47_14 sf_47_9 (by decide) (by decide) rfl rfl rfl ?_
  refine sr_iload_n hA si_47_17 rfl ?_
  refine sr_ialdNv (v := nI 5) (n := 6) hA si_47_18 (by decide) rfl rfl (by omega) (by decide) hk ?_
  refine sr_taldNv (v := nI 2) hA si_47_19 (by decide) (by omega) rfl ?_
  refine sr_iload_n hA si_47_20 rfl ?_
  refine sr_icmp_neN (tgt := 28) hA si_47_21 (by decide) (by omega) (by omega) (fun c2 => ?_) (fun c2 => absurd c2 (by omega))
  refine sr_iconst (v := nI 0) hA si_47_28 (by decide) ?_
  exact sr_zretF hA si_47_29 sq_r_47 (by decide) rfl rfl
set_option maxRecDepth 20000 in
theorem xc_isOf52 (X : sp_X) (g : sp_G) {i : Nat} (hi : i < 6) (hk : g.1 19 i = nI 5) : sp_Ct X 0 47 [.ref 18, .int (nI i), .int (nI 2)] g (sp_Fi (nI 1) g) := by
  refine sp_walkN (n := 3) sq_p_47 sq_l_47 (Nat.le_of_ble_eq_true rfl) (fun a hA => ?_)
  show sp_Ev X a 47 0 [.ref 18, .int (nI i), .int (nI 2)] [] g
  refine sr_aload_n hA si_47_0 rfl ?_
  refine sr_getR (r := 19) hA si_47_1 sf_47_9 (by decide) (by decide) rfl rfl rfl ?_
  refine sr_iload_n hA si_47_4 rfl ?_
  refine sr_ialdNv (v := nI 5) (n := 6) hA si_47_5 (by decide) rfl rfl (by omega) (by decide) hk ?_
  refine sr_iload_n hA si_47_6 rfl ?_
  refine sr_icmp_eqN (tgt := 24) hA si_47_7 (by decide) (by omega) (by omega) (fun c1 => absurd c1 (by omega)) (fun c1 => ?_)
  refine sr_getsP hA si_47_10 rfl ?_
  refine sr_aload_n hA si_47_13 rfl ?_
  refine sr_getR (r := 19) hA si_47_14 sf_47_9 (by decide) (by decide) rfl rfl rfl ?_
  refine sr_iload_n hA si_47_17 rfl ?_
  refine sr_ialdNv (v := nI 5) (n := 6) hA si_47_18 (by decide) rfl rfl (by omega) (by decide) hk ?_
  refine sr_taldNv (v := nI 2) hA si_47_19 (by decide) (by omega) rfl ?_
  refine sr_iload_n hA si_47_20 rfl ?_
  refine sr_icmp_neN (tgt := 28) hA si_47_21 (by decide) (by omega) (by omega) (fun c2 => absurd c2 (by omega)) (fun c2 => ?_)
  refine sr_iconst (v := nI 1) hA si_47_24 (by decide) ?_
  refine sr_goto (tgt := 29) hA si_47_25 (by decide) ?_
  exact sr_zretF hA si_47_29 sq_r_47 (by decide) rfl rfl
set_option maxRecDepth 20000 in
theorem xc_isOf53 (X : sp_X) (g : sp_G) {i : Nat} (hi : i < 6) (hk : g.1 19 i = nI 5) : sp_Ct X 0 47 [.ref 18, .int (nI i), .int (nI 3)] g (sp_Fi (nI 0) g) := by
  refine sp_walkN (n := 3) sq_p_47 sq_l_47 (Nat.le_of_ble_eq_true rfl) (fun a hA => ?_)
  show sp_Ev X a 47 0 [.ref 18, .int (nI i), .int (nI 3)] [] g
  refine sr_aload_n hA si_47_0 rfl ?_
  refine sr_getR (r := 19) hA si_47_1 sf_47_9 (by decide) (by decide) rfl rfl rfl ?_
  refine sr_iload_n hA si_47_4 rfl ?_
  refine sr_ialdNv (v := nI 5) (n := 6) hA si_47_5 (by decide) rfl rfl (by omega) (by decide) hk ?_
  refine sr_iload_n hA si_47_6 rfl ?_
  refine sr_icmp_eqN (tgt := 24) hA si_47_7 (by decide) (by omega) (by omega) (fun c1 => absurd c1 (by omega)) (fun c1 => ?_)
  refine sr_getsP hA si_47_10 rfl ?_
  refine sr_aload_n hA si_47_13 rfl ?_
  refine sr_getR (r := 19) hA si_47_14 sf_47_9 (by decide) (by decide) rfl rfl rfl ?_
  refine sr_iload_n hA si_47_17 rfl ?_
  refine sr_ialdNv (v := nI 5) (n := 6) hA si_47_18 (by decide) rfl rfl (by omega) (by decide) hk ?_
  refine sr_taldNv (v := nI 2) hA si_47_19 (by decide) (by omega) rfl ?_
  refine sr_iload_n hA si_47_20 rfl ?_
  refine sr_icmp_neN (tgt := 28) hA si_47_21 (by decide) (by omega) (by omega) (fun c2 => ?_) (fun c2 => absurd c2 (by omega))
  refine sr_iconst (v := nI 0) hA si_47_28 (by decide) ?_
  exact sr_zretF hA si_47_29 sq_r_47 (by decide) rfl rfl
set_option maxRecDepth 20000 in
theorem xc_isOf54 (X : sp_X) (g : sp_G) {i : Nat} (hi : i < 6) (hk : g.1 19 i = nI 5) : sp_Ct X 0 47 [.ref 18, .int (nI i), .int (nI 4)] g (sp_Fi (nI 0) g) := by
  refine sp_walkN (n := 3) sq_p_47 sq_l_47 (Nat.le_of_ble_eq_true rfl) (fun a hA => ?_)
  show sp_Ev X a 47 0 [.ref 18, .int (nI i), .int (nI 4)] [] g
  refine sr_aload_n hA si_47_0 rfl ?_
  refine sr_getR (r := 19) hA si_47_1 sf_47_9 (by decide) (by decide) rfl rfl rfl ?_
  refine sr_iload_n hA si_47_4 rfl ?_
  refine sr_ialdNv (v := nI 5) (n := 6) hA si_47_5 (by decide) rfl rfl (by omega) (by decide) hk ?_
  refine sr_iload_n hA si_47_6 rfl ?_
  refine sr_icmp_eqN (tgt := 24) hA si_47_7 (by decide) (by omega) (by omega) (fun c1 => absurd c1 (by omega)) (fun c1 => ?_)
  refine sr_getsP hA si_47_10 rfl ?_
  refine sr_aload_n hA si_47_13 rfl ?_
  refine sr_getR (r := 19) hA si_47_14 sf_47_9 (by decide) (by decide) rfl rfl rfl ?_
  refine sr_iload_n hA si_47_17 rfl ?_
  refine sr_ialdNv (v := nI 5) (n := 6) hA si_47_18 (by decide) rfl rfl (by omega) (by decide) hk ?_
  refine sr_taldNv (v := nI 2) hA si_47_19 (by decide) (by omega) rfl ?_
  refine sr_iload_n hA si_47_20 rfl ?_
  refine sr_icmp_neN (tgt := 28) hA si_47_21 (by decide) (by omega) (by omega) (fun c2 => ?_) (fun c2 => absurd c2 (by omega))
  refine sr_iconst (v := nI 0) hA si_47_28 (by decide) ?_
  exact sr_zretF hA si_47_29 sq_r_47 (by decide) rfl rfl
set_option maxRecDepth 20000 in
theorem xc_isOf55 (X : sp_X) (g : sp_G) {i : Nat} (hi : i < 6) (hk : g.1 19 i = nI 5) : sp_Ct X 0 47 [.ref 18, .int (nI i), .int (nI 5)] g (sp_Fi (nI 1) g) := by
  refine sp_walkN (n := 3) sq_p_47 sq_l_47 (Nat.le_of_ble_eq_true rfl) (fun a hA => ?_)
  show sp_Ev X a 47 0 [.ref 18, .int (nI i), .int (nI 5)] [] g
  refine sr_aload_n hA si_47_0 rfl ?_
  refine sr_getR (r := 19) hA si_47_1 sf_47_9 (by decide) (by decide) rfl rfl rfl ?_
  refine sr_iload_n hA si_47_4 rfl ?_
  refine sr_ialdNv (v := nI 5) (n := 6) hA si_47_5 (by decide) rfl rfl (by omega) (by decide) hk ?_
  refine sr_iload_n hA si_47_6 rfl ?_
  refine sr_icmp_eqN (tgt := 24) hA si_47_7 (by decide) (by omega) (by omega) (fun c1 => ?_) (fun c1 => absurd c1 (by omega))
  refine sr_iconst (v := nI 1) hA si_47_24 (by decide) ?_
  refine sr_goto (tgt := 29) hA si_47_25 (by decide) ?_
  exact sr_zretF hA si_47_29 sq_r_47 (by decide) rfl rfl
set_option maxRecDepth 20000 in
theorem xc_mark_a (X : sp_X) (g : sp_G) {i : Int32} (hi : i < 0) (w : Int32) {n : Nat} (hn : g.1 18 3 = nI n) : sp_Ct X 9 46 [.ref 0, .int i, .int w] g (sp_Fi (-1) g) := by
  refine sp_walkN (n := 3) sq_p_46 sq_l_46 (Nat.le_of_ble_eq_true rfl) (fun a hA => ?_)
  show sp_Ev X a 46 0 [.ref 0, .int i, .int w] [] g
  refine sr_aload_n hA si_46_0 rfl ?_
  refine sr_getR (r := 18) hA si_46_1 sf_46_32 (by decide) (by decide) rfl rfl rfl ?_
  refine sr_iload_n hA si_46_4 rfl ?_
  refine sr_VFi (c := 18) (ci := 0) (as := [.int i]) (st := []) hA si_46_5 sv_43 sk_46_148 (xc_isKeyM X g hi) (by omega) rfl (by decide) (by decide) rfl sq_c_43 rfl (Nat.le_of_ble_eq_true rfl) ?_
  refine sr_if_eqN (tgt := 21) hA si_46_8 (by decide) (by omega) (fun c1 => ?_) (fun c1 => absurd c1 (by omega))
  refine sr_iconst (v := (-1)) hA si_46_21 (by decide) ?_
  exact sr_iretF hA si_46_22 sq_r_46 rfl rfl
set_option maxRecDepth 20000 in
theorem xc_mark_b (X : sp_X) (g : sp_G) {i : Nat} (hib : i < 2 ^ 31) (w : Int32) {n : Nat} (hn : g.1 18 3 = nI n) (hb : n ≤ 6) (hi : n ≤ i) : sp_Ct X 9 46 [.ref 0, .int (nI i), .int w] g (sp_Fi (-1) g) := by
  refine sp_walkN (n := 3) sq_p_46 sq_l_46 (Nat.le_of_ble_eq_true rfl) (fun a hA => ?_)
  show sp_Ev X a 46 0 [.ref 0, .int (nI i), .int w] [] g
  refine sr_aload_n hA si_46_0 rfl ?_
  refine sr_getR (r := 18) hA si_46_1 sf_46_32 (by decide) (by decide) rfl rfl rfl ?_
  refine sr_iload_n hA si_46_4 rfl ?_
  refine sr_VFi (c := 18) (ci := 0) (as := [.int (nI i)]) (st := []) hA si_46_5 sv_43 sk_46_148 (xc_isKeyH X g (n := n) hn (by omega) (by omega)) (by omega) rfl (by decide) (by decide) rfl sq_c_43 rfl (Nat.le_of_ble_eq_true rfl) ?_
  refine sr_if_eqN (tgt := 21) hA si_46_8 (by decide) (by omega) (fun c1 => ?_) (fun c1 => absurd c1 (by omega))
  refine sr_iconst (v := (-1)) hA si_46_21 (by decide) ?_
  exact sr_iretF hA si_46_22 sq_r_46 rfl rfl
set_option maxRecDepth 20000 in
theorem xc_mark_c (X : sp_X) (g : sp_G) {i : Nat} (hi : i < 6) {w : Int32} (hw : w < 0) {n : Nat} (hn : g.1 18 3 = nI n) (hb : n ≤ 6) (hin : i < n) : sp_Ct X 9 46 [.ref 0, .int (nI i), .int w] g (sp_Fi (-1) g) := by
  refine sp_walkN (n := 3) sq_p_46 sq_l_46 (Nat.le_of_ble_eq_true rfl) (fun a hA => ?_)
  show sp_Ev X a 46 0 [.ref 0, .int (nI i), .int w] [] g
  refine sr_aload_n hA si_46_0 rfl ?_
  refine sr_getR (r := 18) hA si_46_1 sf_46_32 (by decide) (by decide) rfl rfl rfl ?_
  refine sr_iload_n hA si_46_4 rfl ?_
  refine sr_VFi (c := 18) (ci := 0) (as := [.int (nI i)]) (st := []) hA si_46_5 sv_43 sk_46_148 (xc_isKey1 X g (n := n) hn (by omega) (by omega)) (by omega) rfl (by decide) (by decide) rfl sq_c_43 rfl (Nat.le_of_ble_eq_true rfl) ?_
  refine sr_if_eqN (tgt := 21) hA si_46_8 (by decide) (by omega) (fun c1 => absurd c1 (by omega)) (fun c1 => ?_)
  refine sr_iload_n hA si_46_11 rfl ?_
  refine sr_iconst (v := nI 1) hA si_46_12 (by decide) ?_
  refine sr_icmp_lt (tgt := 21) hA si_46_13 (by decide) (fun c2 => ?_) (fun c2 => absurd (sp_n1 hw (by omega)) c2)
  refine sr_iconst (v := (-1)) hA si_46_21 (by decide) ?_
  exact sr_iretF hA si_46_22 sq_r_46 rfl rfl
set_option maxRecDepth 20000 in
theorem xc_mark_c0 (X : sp_X) (g : sp_G) {i : Nat} (hi : i < 6)  {n : Nat} (hn : g.1 18 3 = nI n) (hb : n ≤ 6) (hin : i < n) : sp_Ct X 9 46 [.ref 0, .int (nI i), .int (nI 0)] g (sp_Fi (-1) g) := by
  refine sp_walkN (n := 3) sq_p_46 sq_l_46 (Nat.le_of_ble_eq_true rfl) (fun a hA => ?_)
  show sp_Ev X a 46 0 [.ref 0, .int (nI i), .int (nI 0)] [] g
  refine sr_aload_n hA si_46_0 rfl ?_
  refine sr_getR (r := 18) hA si_46_1 sf_46_32 (by decide) (by decide) rfl rfl rfl ?_
  refine sr_iload_n hA si_46_4 rfl ?_
  refine sr_VFi (c := 18) (ci := 0) (as := [.int (nI i)]) (st := []) hA si_46_5 sv_43 sk_46_148 (xc_isKey1 X g (n := n) hn (by omega) (by omega)) (by omega) rfl (by decide) (by decide) rfl sq_c_43 rfl (Nat.le_of_ble_eq_true rfl) ?_
  refine sr_if_eqN (tgt := 21) hA si_46_8 (by decide) (by omega) (fun c1 => absurd c1 (by omega)) (fun c1 => ?_)
  refine sr_iload_n hA si_46_11 rfl ?_
  refine sr_iconst (v := nI 1) hA si_46_12 (by decide) ?_
  refine sr_icmp_ltN (tgt := 21) hA si_46_13 (by decide) (by omega) (by omega) (fun c2 => ?_) (fun c2 => absurd c2 (by omega))
  refine sr_iconst (v := (-1)) hA si_46_21 (by decide) ?_
  exact sr_iretF hA si_46_22 sq_r_46 rfl rfl
set_option maxRecDepth 20000 in
theorem xc_mark_d (X : sp_X) (g : sp_G) {i : Nat} (hi : i < 6) {w : Nat} (hw : 6 ≤ w) (hwb : w < 2 ^ 31) {n : Nat} (hn : g.1 18 3 = nI n) (hb : n ≤ 6) (hin : i < n) : sp_Ct X 9 46 [.ref 0, .int (nI i), .int (nI w)] g (sp_Fi (-1) g) := by
  refine sp_walkN (n := 3) sq_p_46 sq_l_46 (Nat.le_of_ble_eq_true rfl) (fun a hA => ?_)
  show sp_Ev X a 46 0 [.ref 0, .int (nI i), .int (nI w)] [] g
  refine sr_aload_n hA si_46_0 rfl ?_
  refine sr_getR (r := 18) hA si_46_1 sf_46_32 (by decide) (by decide) rfl rfl rfl ?_
  refine sr_iload_n hA si_46_4 rfl ?_
  refine sr_VFi (c := 18) (ci := 0) (as := [.int (nI i)]) (st := []) hA si_46_5 sv_43 sk_46_148 (xc_isKey1 X g (n := n) hn (by omega) (by omega)) (by omega) rfl (by decide) (by decide) rfl sq_c_43 rfl (Nat.le_of_ble_eq_true rfl) ?_
  refine sr_if_eqN (tgt := 21) hA si_46_8 (by decide) (by omega) (fun c1 => absurd c1 (by omega)) (fun c1 => ?_)
  refine sr_iload_n hA si_46_11 rfl ?_
  refine sr_iconst (v := nI 1) hA si_46_12 (by decide) ?_
  refine sr_icmp_ltN (tgt := 21) hA si_46_13 (by decide) (by omega) (by omega) (fun c2 => absurd c2 (by omega)) (fun c2 => ?_)
  refine sr_iload_n hA si_46_16 rfl ?_
  refine sr_iconst (v := nI 5) hA si_46_17 (by decide) ?_
  refine sr_icmp_leN (tgt := 23) hA si_46_18 (by decide) (by omega) (by omega) (fun c3 => absurd c3 (by omega)) (fun c3 => ?_)
  refine sr_iconst (v := (-1)) hA si_46_21 (by decide) ?_
  exact sr_iretF hA si_46_22 sq_r_46 rfl rfl
set_option maxRecDepth 20000 in
theorem xc_mark_r01 (X : sp_X) (g : sp_G) {i : Nat} (hi : i < 6)  {n : Nat} (hn : g.1 18 3 = nI n) (hb : n ≤ 6) (hin : i < n) (hk : g.1 19 i = nI 0) : sp_Ct X 9 46 [.ref 0, .int (nI i), .int (nI 1)] g (sp_Fi (-3) (sp_rx g 3)) := by
  refine sp_walkN (n := 3) sq_p_46 sq_l_46 (Nat.le_of_ble_eq_true rfl) (fun a hA => ?_)
  show sp_Ev X a 46 0 [.ref 0, .int (nI i), .int (nI 1)] [] g
  refine sr_aload_n hA si_46_0 rfl ?_
  refine sr_getR (r := 18) hA si_46_1 sf_46_32 (by decide) (by decide) rfl rfl rfl ?_
  refine sr_iload_n hA si_46_4 rfl ?_
  refine sr_VFi (c := 18) (ci := 0) (as := [.int (nI i)]) (st := []) hA si_46_5 sv_43 sk_46_148 (xc_isKey1 X g (n := n) hn (by omega) (by omega)) (by omega) rfl (by decide) (by decide) rfl sq_c_43 rfl (Nat.le_of_ble_eq_true rfl) ?_
  refine sr_if_eqN (tgt := 21) hA si_46_8 (by decide) (by omega) (fun c1 => absurd c1 (by omega)) (fun c1 => ?_)
  refine sr_iload_n hA si_46_11 rfl ?_
  refine sr_iconst (v := nI 1) hA si_46_12 (by decide) ?_
  refine sr_icmp_ltN (tgt := 21) hA si_46_13 (by decide) (by omega) (by omega) (fun c2 => absurd c2 (by omega)) (fun c2 => ?_)
  refine sr_iload_n hA si_46_16 rfl ?_
  refine sr_iconst (v := nI 5) hA si_46_17 (by decide) ?_
  refine sr_icmp_leN (tgt := 23) hA si_46_18 (by decide) (by omega) (by omega) (fun c3 => ?_) (fun c3 => absurd c3 (by omega))
  refine sr_aload_n hA si_46_23 rfl ?_
  refine sr_getR (r := 18) hA si_46_24 sf_46_32 (by decide) (by decide) rfl rfl rfl ?_
  refine sr_iload_n hA si_46_27 rfl ?_
  refine sr_iload_n hA si_46_28 rfl ?_
  refine sr_VFi (c := 18) (ci := 0) (as := [.int (nI i), .int (nI 1)]) (st := []) hA si_46_29 sv_47 sk_46_154 (xc_isOf01 X g (i := i) (by omega) hk) (by omega) rfl (by decide) (by decide) rfl sq_c_47 rfl (Nat.le_of_ble_eq_true rfl) ?_
  refine sr_if_neN (tgt := 41) hA si_46_32 (by decide) (by omega) (fun c4 => absurd c4 (by omega)) (fun c4 => ?_)
  refine sr_aload_n hA si_46_35 rfl ?_
  refine sr_iconst (v := nI 3) hA si_46_36 (by decide) ?_
  refine sr_VFi (c := 0) (ci := 7) (as := [.int (nI 3)]) (st := []) hA si_46_37 sv_12 sk_46_76 (xc_refuse X g (by omega)) (by omega) rfl (by decide) (by decide) rfl sq_c_12 rfl (Nat.le_of_ble_eq_true rfl) ?_
  exact sr_iretF hA si_46_40 sq_r_46 rfl rfl
set_option maxRecDepth 20000 in
theorem xc_mark_r02 (X : sp_X) (g : sp_G) {i : Nat} (hi : i < 6)  {n : Nat} (hn : g.1 18 3 = nI n) (hb : n ≤ 6) (hin : i < n) (hk : g.1 19 i = nI 0) : sp_Ct X 9 46 [.ref 0, .int (nI i), .int (nI 2)] g (sp_Fi (-3) (sp_rx g 3)) := by
  refine sp_walkN (n := 3) sq_p_46 sq_l_46 (Nat.le_of_ble_eq_true rfl) (fun a hA => ?_)
  show sp_Ev X a 46 0 [.ref 0, .int (nI i), .int (nI 2)] [] g
  refine sr_aload_n hA si_46_0 rfl ?_
  refine sr_getR (r := 18) hA si_46_1 sf_46_32 (by decide) (by decide) rfl rfl rfl ?_
  refine sr_iload_n hA si_46_4 rfl ?_
  refine sr_VFi (c := 18) (ci := 0) (as := [.int (nI i)]) (st := []) hA si_46_5 sv_43 sk_46_148 (xc_isKey1 X g (n := n) hn (by omega) (by omega)) (by omega) rfl (by decide) (by decide) rfl sq_c_43 rfl (Nat.le_of_ble_eq_true rfl) ?_
  refine sr_if_eqN (tgt := 21) hA si_46_8 (by decide) (by omega) (fun c1 => absurd c1 (by omega)) (fun c1 => ?_)
  refine sr_iload_n hA si_46_11 rfl ?_
  refine sr_iconst (v := nI 1) hA si_46_12 (by decide) ?_
  refine sr_icmp_ltN (tgt := 21) hA si_46_13 (by decide) (by omega) (by omega) (fun c2 => absurd c2 (by omega)) (fun c2 => ?_)
  refine sr_iload_n hA si_46_16 rfl ?_
  refine sr_iconst (v := nI 5) hA si_46_17 (by decide) ?_
  refine sr_icmp_leN (tgt := 23) hA si_46_18 (by decide) (by omega) (by omega) (fun c3 => ?_) (fun c3 => absurd c3 (by omega))
  refine sr_aload_n hA si_46_23 rfl ?_
  refine sr_getR (r := 18) hA si_46_24 sf_46_32 (by decide) (by decide) rfl rfl rfl ?_
  refine sr_iload_n hA si_46_27 rfl ?_
  refine sr_iload_n hA si_46_28 rfl ?_
  refine sr_VFi (c := 18) (ci := 0) (as := [.int (nI i), .int (nI 2)]) (st := []) hA si_46_29 sv_47 sk_46_154 (xc_isOf02 X g (i := i) (by omega) hk) (by omega) rfl (by decide) (by decide) rfl sq_c_47 rfl (Nat.le_of_ble_eq_true rfl) ?_
  refine sr_if_neN (tgt := 41) hA si_46_32 (by decide) (by omega) (fun c4 => absurd c4 (by omega)) (fun c4 => ?_)
  refine sr_aload_n hA si_46_35 rfl ?_
  refine sr_iconst (v := nI 3) hA si_46_36 (by decide) ?_
  refine sr_VFi (c := 0) (ci := 7) (as := [.int (nI 3)]) (st := []) hA si_46_37 sv_12 sk_46_76 (xc_refuse X g (by omega)) (by omega) rfl (by decide) (by decide) rfl sq_c_12 rfl (Nat.le_of_ble_eq_true rfl) ?_
  exact sr_iretF hA si_46_40 sq_r_46 rfl rfl
set_option maxRecDepth 20000 in
theorem xc_mark_r03 (X : sp_X) (g : sp_G) {i : Nat} (hi : i < 6)  {n : Nat} (hn : g.1 18 3 = nI n) (hb : n ≤ 6) (hin : i < n) (hk : g.1 19 i = nI 0) : sp_Ct X 9 46 [.ref 0, .int (nI i), .int (nI 3)] g (sp_Fi (-3) (sp_rx g 3)) := by
  refine sp_walkN (n := 3) sq_p_46 sq_l_46 (Nat.le_of_ble_eq_true rfl) (fun a hA => ?_)
  show sp_Ev X a 46 0 [.ref 0, .int (nI i), .int (nI 3)] [] g
  refine sr_aload_n hA si_46_0 rfl ?_
  refine sr_getR (r := 18) hA si_46_1 sf_46_32 (by decide) (by decide) rfl rfl rfl ?_
  refine sr_iload_n hA si_46_4 rfl ?_
  refine sr_VFi (c := 18) (ci := 0) (as := [.int (nI i)]) (st := []) hA si_46_5 sv_43 sk_46_148 (xc_isKey1 X g (n := n) hn (by omega) (by omega)) (by omega) rfl (by decide) (by decide) rfl sq_c_43 rfl (Nat.le_of_ble_eq_true rfl) ?_
  refine sr_if_eqN (tgt := 21) hA si_46_8 (by decide) (by omega) (fun c1 => absurd c1 (by omega)) (fun c1 => ?_)
  refine sr_iload_n hA si_46_11 rfl ?_
  refine sr_iconst (v := nI 1) hA si_46_12 (by decide) ?_
  refine sr_icmp_ltN (tgt := 21) hA si_46_13 (by decide) (by omega) (by omega) (fun c2 => absurd c2 (by omega)) (fun c2 => ?_)
  refine sr_iload_n hA si_46_16 rfl ?_
  refine sr_iconst (v := nI 5) hA si_46_17 (by decide) ?_
  refine sr_icmp_leN (tgt := 23) hA si_46_18 (by decide) (by omega) (by omega) (fun c3 => ?_) (fun c3 => absurd c3 (by omega))
  refine sr_aload_n hA si_46_23 rfl ?_
  refine sr_getR (r := 18) hA si_46_24 sf_46_32 (by decide) (by decide) rfl rfl rfl ?_
  refine sr_iload_n hA si_46_27 rfl ?_
  refine sr_iload_n hA si_46_28 rfl ?_
  refine sr_VFi (c := 18) (ci := 0) (as := [.int (nI i), .int (nI 3)]) (st := []) hA si_46_29 sv_47 sk_46_154 (xc_isOf03 X g (i := i) (by omega) hk) (by omega) rfl (by decide) (by decide) rfl sq_c_47 rfl (Nat.le_of_ble_eq_true rfl) ?_
  refine sr_if_neN (tgt := 41) hA si_46_32 (by decide) (by omega) (fun c4 => absurd c4 (by omega)) (fun c4 => ?_)
  refine sr_aload_n hA si_46_35 rfl ?_
  refine sr_iconst (v := nI 3) hA si_46_36 (by decide) ?_
  refine sr_VFi (c := 0) (ci := 7) (as := [.int (nI 3)]) (st := []) hA si_46_37 sv_12 sk_46_76 (xc_refuse X g (by omega)) (by omega) rfl (by decide) (by decide) rfl sq_c_12 rfl (Nat.le_of_ble_eq_true rfl) ?_
  exact sr_iretF hA si_46_40 sq_r_46 rfl rfl
set_option maxRecDepth 20000 in
theorem xc_mark_r04 (X : sp_X) (g : sp_G) {i : Nat} (hi : i < 6)  {n : Nat} (hn : g.1 18 3 = nI n) (hb : n ≤ 6) (hin : i < n) (hk : g.1 19 i = nI 0) : sp_Ct X 9 46 [.ref 0, .int (nI i), .int (nI 4)] g (sp_Fi (-3) (sp_rx g 3)) := by
  refine sp_walkN (n := 3) sq_p_46 sq_l_46 (Nat.le_of_ble_eq_true rfl) (fun a hA => ?_)
  show sp_Ev X a 46 0 [.ref 0, .int (nI i), .int (nI 4)] [] g
  refine sr_aload_n hA si_46_0 rfl ?_
  refine sr_getR (r := 18) hA si_46_1 sf_46_32 (by decide) (by decide) rfl rfl rfl ?_
  refine sr_iload_n hA si_46_4 rfl ?_
  refine sr_VFi (c := 18) (ci := 0) (as := [.int (nI i)]) (st := []) hA si_46_5 sv_43 sk_46_148 (xc_isKey1 X g (n := n) hn (by omega) (by omega)) (by omega) rfl (by decide) (by decide) rfl sq_c_43 rfl (Nat.le_of_ble_eq_true rfl) ?_
  refine sr_if_eqN (tgt := 21) hA si_46_8 (by decide) (by omega) (fun c1 => absurd c1 (by omega)) (fun c1 => ?_)
  refine sr_iload_n hA si_46_11 rfl ?_
  refine sr_iconst (v := nI 1) hA si_46_12 (by decide) ?_
  refine sr_icmp_ltN (tgt := 21) hA si_46_13 (by decide) (by omega) (by omega) (fun c2 => absurd c2 (by omega)) (fun c2 => ?_)
  refine sr_iload_n hA si_46_16 rfl ?_
  refine sr_iconst (v := nI 5) hA si_46_17 (by decide) ?_
  refine sr_icmp_leN (tgt := 23) hA si_46_18 (by decide) (by omega) (by omega) (fun c3 => ?_) (fun c3 => absurd c3 (by omega))
  refine sr_aload_n hA si_46_23 rfl ?_
  refine sr_getR (r := 18) hA si_46_24 sf_46_32 (by decide) (by decide) rfl rfl rfl ?_
  refine sr_iload_n hA si_46_27 rfl ?_
  refine sr_iload_n hA si_46_28 rfl ?_
  refine sr_VFi (c := 18) (ci := 0) (as := [.int (nI i), .int (nI 4)]) (st := []) hA si_46_29 sv_47 sk_46_154 (xc_isOf04 X g (i := i) (by omega) hk) (by omega) rfl (by decide) (by decide) rfl sq_c_47 rfl (Nat.le_of_ble_eq_true rfl) ?_
  refine sr_if_neN (tgt := 41) hA si_46_32 (by decide) (by omega) (fun c4 => absurd c4 (by omega)) (fun c4 => ?_)
  refine sr_aload_n hA si_46_35 rfl ?_
  refine sr_iconst (v := nI 3) hA si_46_36 (by decide) ?_
  refine sr_VFi (c := 0) (ci := 7) (as := [.int (nI 3)]) (st := []) hA si_46_37 sv_12 sk_46_76 (xc_refuse X g (by omega)) (by omega) rfl (by decide) (by decide) rfl sq_c_12 rfl (Nat.le_of_ble_eq_true rfl) ?_
  exact sr_iretF hA si_46_40 sq_r_46 rfl rfl
set_option maxRecDepth 20000 in
theorem xc_mark_r05 (X : sp_X) (g : sp_G) {i : Nat} (hi : i < 6)  {n : Nat} (hn : g.1 18 3 = nI n) (hb : n ≤ 6) (hin : i < n) (hk : g.1 19 i = nI 0) : sp_Ct X 9 46 [.ref 0, .int (nI i), .int (nI 5)] g (sp_Fi (-3) (sp_rx g 3)) := by
  refine sp_walkN (n := 3) sq_p_46 sq_l_46 (Nat.le_of_ble_eq_true rfl) (fun a hA => ?_)
  show sp_Ev X a 46 0 [.ref 0, .int (nI i), .int (nI 5)] [] g
  refine sr_aload_n hA si_46_0 rfl ?_
  refine sr_getR (r := 18) hA si_46_1 sf_46_32 (by decide) (by decide) rfl rfl rfl ?_
  refine sr_iload_n hA si_46_4 rfl ?_
  refine sr_VFi (c := 18) (ci := 0) (as := [.int (nI i)]) (st := []) hA si_46_5 sv_43 sk_46_148 (xc_isKey1 X g (n := n) hn (by omega) (by omega)) (by omega) rfl (by decide) (by decide) rfl sq_c_43 rfl (Nat.le_of_ble_eq_true rfl) ?_
  refine sr_if_eqN (tgt := 21) hA si_46_8 (by decide) (by omega) (fun c1 => absurd c1 (by omega)) (fun c1 => ?_)
  refine sr_iload_n hA si_46_11 rfl ?_
  refine sr_iconst (v := nI 1) hA si_46_12 (by decide) ?_
  refine sr_icmp_ltN (tgt := 21) hA si_46_13 (by decide) (by omega) (by omega) (fun c2 => absurd c2 (by omega)) (fun c2 => ?_)
  refine sr_iload_n hA si_46_16 rfl ?_
  refine sr_iconst (v := nI 5) hA si_46_17 (by decide) ?_
  refine sr_icmp_leN (tgt := 23) hA si_46_18 (by decide) (by omega) (by omega) (fun c3 => ?_) (fun c3 => absurd c3 (by omega))
  refine sr_aload_n hA si_46_23 rfl ?_
  refine sr_getR (r := 18) hA si_46_24 sf_46_32 (by decide) (by decide) rfl rfl rfl ?_
  refine sr_iload_n hA si_46_27 rfl ?_
  refine sr_iload_n hA si_46_28 rfl ?_
  refine sr_VFi (c := 18) (ci := 0) (as := [.int (nI i), .int (nI 5)]) (st := []) hA si_46_29 sv_47 sk_46_154 (xc_isOf05 X g (i := i) (by omega) hk) (by omega) rfl (by decide) (by decide) rfl sq_c_47 rfl (Nat.le_of_ble_eq_true rfl) ?_
  refine sr_if_neN (tgt := 41) hA si_46_32 (by decide) (by omega) (fun c4 => absurd c4 (by omega)) (fun c4 => ?_)
  refine sr_aload_n hA si_46_35 rfl ?_
  refine sr_iconst (v := nI 3) hA si_46_36 (by decide) ?_
  refine sr_VFi (c := 0) (ci := 7) (as := [.int (nI 3)]) (st := []) hA si_46_37 sv_12 sk_46_76 (xc_refuse X g (by omega)) (by omega) rfl (by decide) (by decide) rfl sq_c_12 rfl (Nat.le_of_ble_eq_true rfl) ?_
  exact sr_iretF hA si_46_40 sq_r_46 rfl rfl
set_option maxRecDepth 20000 in
theorem xc_mark_11 (X : sp_X) (g : sp_G) {i : Nat} (hi : i < 6)  {n : Nat} (hn : g.1 18 3 = nI n) (hb : n ≤ 6) (hin : i < n) (hk : g.1 19 i = nI 1) : sp_Ct X 9 46 [.ref 0, .int (nI i), .int (nI 1)] g (sp_Fi (if g.1 42 i < nI 2 then g.1 42 i else nI 2) g) := by
  refine sp_walkN (n := 3) sq_p_46 sq_l_46 (Nat.le_of_ble_eq_true rfl) (fun a hA => ?_)
  show sp_Ev X a 46 0 [.ref 0, .int (nI i), .int (nI 1)] [] g
  refine sr_aload_n hA si_46_0 rfl ?_
  refine sr_getR (r := 18) hA si_46_1 sf_46_32 (by decide) (by decide) rfl rfl rfl ?_
  refine sr_iload_n hA si_46_4 rfl ?_
  refine sr_VFi (c := 18) (ci := 0) (as := [.int (nI i)]) (st := []) hA si_46_5 sv_43 sk_46_148 (xc_isKey1 X g (n := n) hn (by omega) (by omega)) (by omega) rfl (by decide) (by decide) rfl sq_c_43 rfl (Nat.le_of_ble_eq_true rfl) ?_
  refine sr_if_eqN (tgt := 21) hA si_46_8 (by decide) (by omega) (fun c1 => absurd c1 (by omega)) (fun c1 => ?_)
  refine sr_iload_n hA si_46_11 rfl ?_
  refine sr_iconst (v := nI 1) hA si_46_12 (by decide) ?_
  refine sr_icmp_ltN (tgt := 21) hA si_46_13 (by decide) (by omega) (by omega) (fun c2 => absurd c2 (by omega)) (fun c2 => ?_)
  refine sr_iload_n hA si_46_16 rfl ?_
  refine sr_iconst (v := nI 5) hA si_46_17 (by decide) ?_
  refine sr_icmp_leN (tgt := 23) hA si_46_18 (by decide) (by omega) (by omega) (fun c3 => ?_) (fun c3 => absurd c3 (by omega))
  refine sr_aload_n hA si_46_23 rfl ?_
  refine sr_getR (r := 18) hA si_46_24 sf_46_32 (by decide) (by decide) rfl rfl rfl ?_
  refine sr_iload_n hA si_46_27 rfl ?_
  refine sr_iload_n hA si_46_28 rfl ?_
  refine sr_VFi (c := 18) (ci := 0) (as := [.int (nI i), .int (nI 1)]) (st := []) hA si_46_29 sv_47 sk_46_154 (xc_isOf11 X g (i := i) (by omega) hk) (by omega) rfl (by decide) (by decide) rfl sq_c_47 rfl (Nat.le_of_ble_eq_true rfl) ?_
  refine sr_if_neN (tgt := 41) hA si_46_32 (by decide) (by omega) (fun c4 => ?_) (fun c4 => absurd c4 (by omega))
  refine sr_iload_n hA si_46_41 rfl ?_
  refine sr_tswI (c := nI 1) (tgt := 72) hA si_46_42 rfl (by decide) (by decide) rfl (by decide) ?_
  refine sr_iconst (v := nI 2) hA si_46_72 (by decide) ?_
  refine sr_aload_n hA si_46_73 rfl ?_
  refine sr_getR (r := 41) hA si_46_74 sf_46_36 (by decide) (by decide) rfl rfl rfl ?_
  refine sr_getR (r := 42) hA si_46_77 sf_46_158 (by decide) (by decide) rfl rfl rfl ?_
  refine sr_iload_n hA si_46_80 rfl ?_
  refine sr_ialdNv (v := g.1 42 i) (n := 6) hA si_46_81 (by decide) rfl rfl (by omega) (by decide) rfl ?_
  refine sr_mmin hA si_46_82 sk_46_161 (by omega) (Nat.le_of_ble_eq_true rfl) ?_
  exact sr_iretF hA si_46_85 sq_r_46 rfl rfl
set_option maxRecDepth 20000 in
theorem xc_mark_r12 (X : sp_X) (g : sp_G) {i : Nat} (hi : i < 6)  {n : Nat} (hn : g.1 18 3 = nI n) (hb : n ≤ 6) (hin : i < n) (hk : g.1 19 i = nI 1) : sp_Ct X 9 46 [.ref 0, .int (nI i), .int (nI 2)] g (sp_Fi (-3) (sp_rx g 3)) := by
  refine sp_walkN (n := 3) sq_p_46 sq_l_46 (Nat.le_of_ble_eq_true rfl) (fun a hA => ?_)
  show sp_Ev X a 46 0 [.ref 0, .int (nI i), .int (nI 2)] [] g
  refine sr_aload_n hA si_46_0 rfl ?_
  refine sr_getR (r := 18) hA si_46_1 sf_46_32 (by decide) (by decide) rfl rfl rfl ?_
  refine sr_iload_n hA si_46_4 rfl ?_
  refine sr_VFi (c := 18) (ci := 0) (as := [.int (nI i)]) (st := []) hA si_46_5 sv_43 sk_46_148 (xc_isKey1 X g (n := n) hn (by omega) (by omega)) (by omega) rfl (by decide) (by decide) rfl sq_c_43 rfl (Nat.le_of_ble_eq_true rfl) ?_
  refine sr_if_eqN (tgt := 21) hA si_46_8 (by decide) (by omega) (fun c1 => absurd c1 (by omega)) (fun c1 => ?_)
  refine sr_iload_n hA si_46_11 rfl ?_
  refine sr_iconst (v := nI 1) hA si_46_12 (by decide) ?_
  refine sr_icmp_ltN (tgt := 21) hA si_46_13 (by decide) (by omega) (by omega) (fun c2 => absurd c2 (by omega)) (fun c2 => ?_)
  refine sr_iload_n hA si_46_16 rfl ?_
  refine sr_iconst (v := nI 5) hA si_46_17 (by decide) ?_
  refine sr_icmp_leN (tgt := 23) hA si_46_18 (by decide) (by omega) (by omega) (fun c3 => ?_) (fun c3 => absurd c3 (by omega))
  refine sr_aload_n hA si_46_23 rfl ?_
  refine sr_getR (r := 18) hA si_46_24 sf_46_32 (by decide) (by decide) rfl rfl rfl ?_
  refine sr_iload_n hA si_46_27 rfl ?_
  refine sr_iload_n hA si_46_28 rfl ?_
  refine sr_VFi (c := 18) (ci := 0) (as := [.int (nI i), .int (nI 2)]) (st := []) hA si_46_29 sv_47 sk_46_154 (xc_isOf12 X g (i := i) (by omega) hk) (by omega) rfl (by decide) (by decide) rfl sq_c_47 rfl (Nat.le_of_ble_eq_true rfl) ?_
  refine sr_if_neN (tgt := 41) hA si_46_32 (by decide) (by omega) (fun c4 => absurd c4 (by omega)) (fun c4 => ?_)
  refine sr_aload_n hA si_46_35 rfl ?_
  refine sr_iconst (v := nI 3) hA si_46_36 (by decide) ?_
  refine sr_VFi (c := 0) (ci := 7) (as := [.int (nI 3)]) (st := []) hA si_46_37 sv_12 sk_46_76 (xc_refuse X g (by omega)) (by omega) rfl (by decide) (by decide) rfl sq_c_12 rfl (Nat.le_of_ble_eq_true rfl) ?_
  exact sr_iretF hA si_46_40 sq_r_46 rfl rfl
set_option maxRecDepth 20000 in
theorem xc_mark_r13 (X : sp_X) (g : sp_G) {i : Nat} (hi : i < 6)  {n : Nat} (hn : g.1 18 3 = nI n) (hb : n ≤ 6) (hin : i < n) (hk : g.1 19 i = nI 1) : sp_Ct X 9 46 [.ref 0, .int (nI i), .int (nI 3)] g (sp_Fi (-3) (sp_rx g 3)) := by
  refine sp_walkN (n := 3) sq_p_46 sq_l_46 (Nat.le_of_ble_eq_true rfl) (fun a hA => ?_)
  show sp_Ev X a 46 0 [.ref 0, .int (nI i), .int (nI 3)] [] g
  refine sr_aload_n hA si_46_0 rfl ?_
  refine sr_getR (r := 18) hA si_46_1 sf_46_32 (by decide) (by decide) rfl rfl rfl ?_
  refine sr_iload_n hA si_46_4 rfl ?_
  refine sr_VFi (c := 18) (ci := 0) (as := [.int (nI i)]) (st := []) hA si_46_5 sv_43 sk_46_148 (xc_isKey1 X g (n := n) hn (by omega) (by omega)) (by omega) rfl (by decide) (by decide) rfl sq_c_43 rfl (Nat.le_of_ble_eq_true rfl) ?_
  refine sr_if_eqN (tgt := 21) hA si_46_8 (by decide) (by omega) (fun c1 => absurd c1 (by omega)) (fun c1 => ?_)
  refine sr_iload_n hA si_46_11 rfl ?_
  refine sr_iconst (v := nI 1) hA si_46_12 (by decide) ?_
  refine sr_icmp_ltN (tgt := 21) hA si_46_13 (by decide) (by omega) (by omega) (fun c2 => absurd c2 (by omega)) (fun c2 => ?_)
  refine sr_iload_n hA si_46_16 rfl ?_
  refine sr_iconst (v := nI 5) hA si_46_17 (by decide) ?_
  refine sr_icmp_leN (tgt := 23) hA si_46_18 (by decide) (by omega) (by omega) (fun c3 => ?_) (fun c3 => absurd c3 (by omega))
  refine sr_aload_n hA si_46_23 rfl ?_
  refine sr_getR (r := 18) hA si_46_24 sf_46_32 (by decide) (by decide) rfl rfl rfl ?_
  refine sr_iload_n hA si_46_27 rfl ?_
  refine sr_iload_n hA si_46_28 rfl ?_
  refine sr_VFi (c := 18) (ci := 0) (as := [.int (nI i), .int (nI 3)]) (st := []) hA si_46_29 sv_47 sk_46_154 (xc_isOf13 X g (i := i) (by omega) hk) (by omega) rfl (by decide) (by decide) rfl sq_c_47 rfl (Nat.le_of_ble_eq_true rfl) ?_
  refine sr_if_neN (tgt := 41) hA si_46_32 (by decide) (by omega) (fun c4 => absurd c4 (by omega)) (fun c4 => ?_)
  refine sr_aload_n hA si_46_35 rfl ?_
  refine sr_iconst (v := nI 3) hA si_46_36 (by decide) ?_
  refine sr_VFi (c := 0) (ci := 7) (as := [.int (nI 3)]) (st := []) hA si_46_37 sv_12 sk_46_76 (xc_refuse X g (by omega)) (by omega) rfl (by decide) (by decide) rfl sq_c_12 rfl (Nat.le_of_ble_eq_true rfl) ?_
  exact sr_iretF hA si_46_40 sq_r_46 rfl rfl
set_option maxRecDepth 20000 in
theorem xc_mark_r14 (X : sp_X) (g : sp_G) {i : Nat} (hi : i < 6)  {n : Nat} (hn : g.1 18 3 = nI n) (hb : n ≤ 6) (hin : i < n) (hk : g.1 19 i = nI 1) : sp_Ct X 9 46 [.ref 0, .int (nI i), .int (nI 4)] g (sp_Fi (-3) (sp_rx g 3)) := by
  refine sp_walkN (n := 3) sq_p_46 sq_l_46 (Nat.le_of_ble_eq_true rfl) (fun a hA => ?_)
  show sp_Ev X a 46 0 [.ref 0, .int (nI i), .int (nI 4)] [] g
  refine sr_aload_n hA si_46_0 rfl ?_
  refine sr_getR (r := 18) hA si_46_1 sf_46_32 (by decide) (by decide) rfl rfl rfl ?_
  refine sr_iload_n hA si_46_4 rfl ?_
  refine sr_VFi (c := 18) (ci := 0) (as := [.int (nI i)]) (st := []) hA si_46_5 sv_43 sk_46_148 (xc_isKey1 X g (n := n) hn (by omega) (by omega)) (by omega) rfl (by decide) (by decide) rfl sq_c_43 rfl (Nat.le_of_ble_eq_true rfl) ?_
  refine sr_if_eqN (tgt := 21) hA si_46_8 (by decide) (by omega) (fun c1 => absurd c1 (by omega)) (fun c1 => ?_)
  refine sr_iload_n hA si_46_11 rfl ?_
  refine sr_iconst (v := nI 1) hA si_46_12 (by decide) ?_
  refine sr_icmp_ltN (tgt := 21) hA si_46_13 (by decide) (by omega) (by omega) (fun c2 => absurd c2 (by omega)) (fun c2 => ?_)
  refine sr_iload_n hA si_46_16 rfl ?_
  refine sr_iconst (v := nI 5) hA si_46_17 (by decide) ?_
  refine sr_icmp_leN (tgt := 23) hA si_46_18 (by decide) (by omega) (by omega) (fun c3 => ?_) (fun c3 => absurd c3 (by omega))
  refine sr_aload_n hA si_46_23 rfl ?_
  refine sr_getR (r := 18) hA si_46_24 sf_46_32 (by decide) (by decide) rfl rfl rfl ?_
  refine sr_iload_n hA si_46_27 rfl ?_
  refine sr_iload_n hA si_46_28 rfl ?_
  refine sr_VFi (c := 18) (ci := 0) (as := [.int (nI i), .int (nI 4)]) (st := []) hA si_46_29 sv_47 sk_46_154 (xc_isOf14 X g (i := i) (by omega) hk) (by omega) rfl (by decide) (by decide) rfl sq_c_47 rfl (Nat.le_of_ble_eq_true rfl) ?_
  refine sr_if_neN (tgt := 41) hA si_46_32 (by decide) (by omega) (fun c4 => absurd c4 (by omega)) (fun c4 => ?_)
  refine sr_aload_n hA si_46_35 rfl ?_
  refine sr_iconst (v := nI 3) hA si_46_36 (by decide) ?_
  refine sr_VFi (c := 0) (ci := 7) (as := [.int (nI 3)]) (st := []) hA si_46_37 sv_12 sk_46_76 (xc_refuse X g (by omega)) (by omega) rfl (by decide) (by decide) rfl sq_c_12 rfl (Nat.le_of_ble_eq_true rfl) ?_
  exact sr_iretF hA si_46_40 sq_r_46 rfl rfl
set_option maxRecDepth 20000 in
theorem xc_mark_r15 (X : sp_X) (g : sp_G) {i : Nat} (hi : i < 6)  {n : Nat} (hn : g.1 18 3 = nI n) (hb : n ≤ 6) (hin : i < n) (hk : g.1 19 i = nI 1) : sp_Ct X 9 46 [.ref 0, .int (nI i), .int (nI 5)] g (sp_Fi (-3) (sp_rx g 3)) := by
  refine sp_walkN (n := 3) sq_p_46 sq_l_46 (Nat.le_of_ble_eq_true rfl) (fun a hA => ?_)
  show sp_Ev X a 46 0 [.ref 0, .int (nI i), .int (nI 5)] [] g
  refine sr_aload_n hA si_46_0 rfl ?_
  refine sr_getR (r := 18) hA si_46_1 sf_46_32 (by decide) (by decide) rfl rfl rfl ?_
  refine sr_iload_n hA si_46_4 rfl ?_
  refine sr_VFi (c := 18) (ci := 0) (as := [.int (nI i)]) (st := []) hA si_46_5 sv_43 sk_46_148 (xc_isKey1 X g (n := n) hn (by omega) (by omega)) (by omega) rfl (by decide) (by decide) rfl sq_c_43 rfl (Nat.le_of_ble_eq_true rfl) ?_
  refine sr_if_eqN (tgt := 21) hA si_46_8 (by decide) (by omega) (fun c1 => absurd c1 (by omega)) (fun c1 => ?_)
  refine sr_iload_n hA si_46_11 rfl ?_
  refine sr_iconst (v := nI 1) hA si_46_12 (by decide) ?_
  refine sr_icmp_ltN (tgt := 21) hA si_46_13 (by decide) (by omega) (by omega) (fun c2 => absurd c2 (by omega)) (fun c2 => ?_)
  refine sr_iload_n hA si_46_16 rfl ?_
  refine sr_iconst (v := nI 5) hA si_46_17 (by decide) ?_
  refine sr_icmp_leN (tgt := 23) hA si_46_18 (by decide) (by omega) (by omega) (fun c3 => ?_) (fun c3 => absurd c3 (by omega))
  refine sr_aload_n hA si_46_23 rfl ?_
  refine sr_getR (r := 18) hA si_46_24 sf_46_32 (by decide) (by decide) rfl rfl rfl ?_
  refine sr_iload_n hA si_46_27 rfl ?_
  refine sr_iload_n hA si_46_28 rfl ?_
  refine sr_VFi (c := 18) (ci := 0) (as := [.int (nI i), .int (nI 5)]) (st := []) hA si_46_29 sv_47 sk_46_154 (xc_isOf15 X g (i := i) (by omega) hk) (by omega) rfl (by decide) (by decide) rfl sq_c_47 rfl (Nat.le_of_ble_eq_true rfl) ?_
  refine sr_if_neN (tgt := 41) hA si_46_32 (by decide) (by omega) (fun c4 => absurd c4 (by omega)) (fun c4 => ?_)
  refine sr_aload_n hA si_46_35 rfl ?_
  refine sr_iconst (v := nI 3) hA si_46_36 (by decide) ?_
  refine sr_VFi (c := 0) (ci := 7) (as := [.int (nI 3)]) (st := []) hA si_46_37 sv_12 sk_46_76 (xc_refuse X g (by omega)) (by omega) rfl (by decide) (by decide) rfl sq_c_12 rfl (Nat.le_of_ble_eq_true rfl) ?_
  exact sr_iretF hA si_46_40 sq_r_46 rfl rfl
set_option maxRecDepth 20000 in
theorem xc_mark_r21 (X : sp_X) (g : sp_G) {i : Nat} (hi : i < 6)  {n : Nat} (hn : g.1 18 3 = nI n) (hb : n ≤ 6) (hin : i < n) (hk : g.1 19 i = nI 2) : sp_Ct X 9 46 [.ref 0, .int (nI i), .int (nI 1)] g (sp_Fi (-3) (sp_rx g 3)) := by
  refine sp_walkN (n := 3) sq_p_46 sq_l_46 (Nat.le_of_ble_eq_true rfl) (fun a hA => ?_)
  show sp_Ev X a 46 0 [.ref 0, .int (nI i), .int (nI 1)] [] g
  refine sr_aload_n hA si_46_0 rfl ?_
  refine sr_getR (r := 18) hA si_46_1 sf_46_32 (by decide) (by decide) rfl rfl rfl ?_
  refine sr_iload_n hA si_46_4 rfl ?_
  refine sr_VFi (c := 18) (ci := 0) (as := [.int (nI i)]) (st := []) hA si_46_5 sv_43 sk_46_148 (xc_isKey1 X g (n := n) hn (by omega) (by omega)) (by omega) rfl (by decide) (by decide) rfl sq_c_43 rfl (Nat.le_of_ble_eq_true rfl) ?_
  refine sr_if_eqN (tgt := 21) hA si_46_8 (by decide) (by omega) (fun c1 => absurd c1 (by omega)) (fun c1 => ?_)
  refine sr_iload_n hA si_46_11 rfl ?_
  refine sr_iconst (v := nI 1) hA si_46_12 (by decide) ?_
  refine sr_icmp_ltN (tgt := 21) hA si_46_13 (by decide) (by omega) (by omega) (fun c2 => absurd c2 (by omega)) (fun c2 => ?_)
  refine sr_iload_n hA si_46_16 rfl ?_
  refine sr_iconst (v := nI 5) hA si_46_17 (by decide) ?_
  refine sr_icmp_leN (tgt := 23) hA si_46_18 (by decide) (by omega) (by omega) (fun c3 => ?_) (fun c3 => absurd c3 (by omega))
  refine sr_aload_n hA si_46_23 rfl ?_
  refine sr_getR (r := 18) hA si_46_24 sf_46_32 (by decide) (by decide) rfl rfl rfl ?_
  refine sr_iload_n hA si_46_27 rfl ?_
  refine sr_iload_n hA si_46_28 rfl ?_
  refine sr_VFi (c := 18) (ci := 0) (as := [.int (nI i), .int (nI 1)]) (st := []) hA si_46_29 sv_47 sk_46_154 (xc_isOf21 X g (i := i) (by omega) hk) (by omega) rfl (by decide) (by decide) rfl sq_c_47 rfl (Nat.le_of_ble_eq_true rfl) ?_
  refine sr_if_neN (tgt := 41) hA si_46_32 (by decide) (by omega) (fun c4 => absurd c4 (by omega)) (fun c4 => ?_)
  refine sr_aload_n hA si_46_35 rfl ?_
  refine sr_iconst (v := nI 3) hA si_46_36 (by decide) ?_
  refine sr_VFi (c := 0) (ci := 7) (as := [.int (nI 3)]) (st := []) hA si_46_37 sv_12 sk_46_76 (xc_refuse X g (by omega)) (by omega) rfl (by decide) (by decide) rfl sq_c_12 rfl (Nat.le_of_ble_eq_true rfl) ?_
  exact sr_iretF hA si_46_40 sq_r_46 rfl rfl
set_option maxRecDepth 20000 in
theorem xc_mark_22 (X : sp_X) (g : sp_G) {i : Nat} (hi : i < 6)  {n : Nat} (hn : g.1 18 3 = nI n) (hb : n ≤ 6) (hin : i < n) (hk : g.1 19 i = nI 2) : sp_Ct X 9 46 [.ref 0, .int (nI i), .int (nI 2)] g (sp_Fi (if nI 0 < g.1 42 i - g.1 20 i then g.1 42 i - g.1 20 i else nI 0) g) := by
  refine sp_walkN (n := 3) sq_p_46 sq_l_46 (Nat.le_of_ble_eq_true rfl) (fun a hA => ?_)
  show sp_Ev X a 46 0 [.ref 0, .int (nI i), .int (nI 2)] [] g
  refine sr_aload_n hA si_46_0 rfl ?_
  refine sr_getR (r := 18) hA si_46_1 sf_46_32 (by decide) (by decide) rfl rfl rfl ?_
  refine sr_iload_n hA si_46_4 rfl ?_
  refine sr_VFi (c := 18) (ci := 0) (as := [.int (nI i)]) (st := []) hA si_46_5 sv_43 sk_46_148 (xc_isKey1 X g (n := n) hn (by omega) (by omega)) (by omega) rfl (by decide) (by decide) rfl sq_c_43 rfl (Nat.le_of_ble_eq_true rfl) ?_
  refine sr_if_eqN (tgt := 21) hA si_46_8 (by decide) (by omega) (fun c1 => absurd c1 (by omega)) (fun c1 => ?_)
  refine sr_iload_n hA si_46_11 rfl ?_
  refine sr_iconst (v := nI 1) hA si_46_12 (by decide) ?_
  refine sr_icmp_ltN (tgt := 21) hA si_46_13 (by decide) (by omega) (by omega) (fun c2 => absurd c2 (by omega)) (fun c2 => ?_)
  refine sr_iload_n hA si_46_16 rfl ?_
  refine sr_iconst (v := nI 5) hA si_46_17 (by decide) ?_
  refine sr_icmp_leN (tgt := 23) hA si_46_18 (by decide) (by omega) (by omega) (fun c3 => ?_) (fun c3 => absurd c3 (by omega))
  refine sr_aload_n hA si_46_23 rfl ?_
  refine sr_getR (r := 18) hA si_46_24 sf_46_32 (by decide) (by decide) rfl rfl rfl ?_
  refine sr_iload_n hA si_46_27 rfl ?_
  refine sr_iload_n hA si_46_28 rfl ?_
  refine sr_VFi (c := 18) (ci := 0) (as := [.int (nI i), .int (nI 2)]) (st := []) hA si_46_29 sv_47 sk_46_154 (xc_isOf22 X g (i := i) (by omega) hk) (by omega) rfl (by decide) (by decide) rfl sq_c_47 rfl (Nat.le_of_ble_eq_true rfl) ?_
  refine sr_if_neN (tgt := 41) hA si_46_32 (by decide) (by omega) (fun c4 => ?_) (fun c4 => absurd c4 (by omega))
  refine sr_iload_n hA si_46_41 rfl ?_
  refine sr_tswI (c := nI 2) (tgt := 86) hA si_46_42 rfl (by decide) (by decide) rfl (by decide) ?_
  refine sr_iconst (v := nI 0) hA si_46_86 (by decide) ?_
  refine sr_aload_n hA si_46_87 rfl ?_
  refine sr_getR (r := 41) hA si_46_88 sf_46_36 (by decide) (by decide) rfl rfl rfl ?_
  refine sr_getR (r := 42) hA si_46_91 sf_46_158 (by decide) (by decide) rfl rfl rfl ?_
  refine sr_iload_n hA si_46_94 rfl ?_
  refine sr_ialdNv (v := g.1 42 i) (n := 6) hA si_46_95 (by decide) rfl rfl (by omega) (by decide) rfl ?_
  refine sr_aload_n hA si_46_96 rfl ?_
  refine sr_getR (r := 18) hA si_46_97 sf_46_32 (by decide) (by decide) rfl rfl rfl ?_
  refine sr_getR (r := 20) hA si_46_100 sf_46_166 (by decide) (by decide) rfl rfl rfl ?_
  refine sr_iload_n hA si_46_103 rfl ?_
  refine sr_ialdNv (v := g.1 20 i) (n := 6) hA si_46_104 (by decide) rfl rfl (by omega) (by decide) rfl ?_
  refine sr_isub hA si_46_105 ?_
  refine sr_mmax hA si_46_106 sk_46_169 (by omega) (Nat.le_of_ble_eq_true rfl) ?_
  exact sr_iretF hA si_46_109 sq_r_46 rfl rfl
set_option maxRecDepth 20000 in
theorem xc_mark_r23 (X : sp_X) (g : sp_G) {i : Nat} (hi : i < 6)  {n : Nat} (hn : g.1 18 3 = nI n) (hb : n ≤ 6) (hin : i < n) (hk : g.1 19 i = nI 2) : sp_Ct X 9 46 [.ref 0, .int (nI i), .int (nI 3)] g (sp_Fi (-3) (sp_rx g 3)) := by
  refine sp_walkN (n := 3) sq_p_46 sq_l_46 (Nat.le_of_ble_eq_true rfl) (fun a hA => ?_)
  show sp_Ev X a 46 0 [.ref 0, .int (nI i), .int (nI 3)] [] g
  refine sr_aload_n hA si_46_0 rfl ?_
  refine sr_getR (r := 18) hA si_46_1 sf_46_32 (by decide) (by decide) rfl rfl rfl ?_
  refine sr_iload_n hA si_46_4 rfl ?_
  refine sr_VFi (c := 18) (ci := 0) (as := [.int (nI i)]) (st := []) hA si_46_5 sv_43 sk_46_148 (xc_isKey1 X g (n := n) hn (by omega) (by omega)) (by omega) rfl (by decide) (by decide) rfl sq_c_43 rfl (Nat.le_of_ble_eq_true rfl) ?_
  refine sr_if_eqN (tgt := 21) hA si_46_8 (by decide) (by omega) (fun c1 => absurd c1 (by omega)) (fun c1 => ?_)
  refine sr_iload_n hA si_46_11 rfl ?_
  refine sr_iconst (v := nI 1) hA si_46_12 (by decide) ?_
  refine sr_icmp_ltN (tgt := 21) hA si_46_13 (by decide) (by omega) (by omega) (fun c2 => absurd c2 (by omega)) (fun c2 => ?_)
  refine sr_iload_n hA si_46_16 rfl ?_
  refine sr_iconst (v := nI 5) hA si_46_17 (by decide) ?_
  refine sr_icmp_leN (tgt := 23) hA si_46_18 (by decide) (by omega) (by omega) (fun c3 => ?_) (fun c3 => absurd c3 (by omega))
  refine sr_aload_n hA si_46_23 rfl ?_
  refine sr_getR (r := 18) hA si_46_24 sf_46_32 (by decide) (by decide) rfl rfl rfl ?_
  refine sr_iload_n hA si_46_27 rfl ?_
  refine sr_iload_n hA si_46_28 rfl ?_
  refine sr_VFi (c := 18) (ci := 0) (as := [.int (nI i), .int (nI 3)]) (st := []) hA si_46_29 sv_47 sk_46_154 (xc_isOf23 X g (i := i) (by omega) hk) (by omega) rfl (by decide) (by decide) rfl sq_c_47 rfl (Nat.le_of_ble_eq_true rfl) ?_
  refine sr_if_neN (tgt := 41) hA si_46_32 (by decide) (by omega) (fun c4 => absurd c4 (by omega)) (fun c4 => ?_)
  refine sr_aload_n hA si_46_35 rfl ?_
  refine sr_iconst (v := nI 3) hA si_46_36 (by decide) ?_
  refine sr_VFi (c := 0) (ci := 7) (as := [.int (nI 3)]) (st := []) hA si_46_37 sv_12 sk_46_76 (xc_refuse X g (by omega)) (by omega) rfl (by decide) (by decide) rfl sq_c_12 rfl (Nat.le_of_ble_eq_true rfl) ?_
  exact sr_iretF hA si_46_40 sq_r_46 rfl rfl
set_option maxRecDepth 20000 in
theorem xc_mark_r24 (X : sp_X) (g : sp_G) {i : Nat} (hi : i < 6)  {n : Nat} (hn : g.1 18 3 = nI n) (hb : n ≤ 6) (hin : i < n) (hk : g.1 19 i = nI 2) : sp_Ct X 9 46 [.ref 0, .int (nI i), .int (nI 4)] g (sp_Fi (-3) (sp_rx g 3)) := by
  refine sp_walkN (n := 3) sq_p_46 sq_l_46 (Nat.le_of_ble_eq_true rfl) (fun a hA => ?_)
  show sp_Ev X a 46 0 [.ref 0, .int (nI i), .int (nI 4)] [] g
  refine sr_aload_n hA si_46_0 rfl ?_
  refine sr_getR (r := 18) hA si_46_1 sf_46_32 (by decide) (by decide) rfl rfl rfl ?_
  refine sr_iload_n hA si_46_4 rfl ?_
  refine sr_VFi (c := 18) (ci := 0) (as := [.int (nI i)]) (st := []) hA si_46_5 sv_43 sk_46_148 (xc_isKey1 X g (n := n) hn (by omega) (by omega)) (by omega) rfl (by decide) (by decide) rfl sq_c_43 rfl (Nat.le_of_ble_eq_true rfl) ?_
  refine sr_if_eqN (tgt := 21) hA si_46_8 (by decide) (by omega) (fun c1 => absurd c1 (by omega)) (fun c1 => ?_)
  refine sr_iload_n hA si_46_11 rfl ?_
  refine sr_iconst (v := nI 1) hA si_46_12 (by decide) ?_
  refine sr_icmp_ltN (tgt := 21) hA si_46_13 (by decide) (by omega) (by omega) (fun c2 => absurd c2 (by omega)) (fun c2 => ?_)
  refine sr_iload_n hA si_46_16 rfl ?_
  refine sr_iconst (v := nI 5) hA si_46_17 (by decide) ?_
  refine sr_icmp_leN (tgt := 23) hA si_46_18 (by decide) (by omega) (by omega) (fun c3 => ?_) (fun c3 => absurd c3 (by omega))
  refine sr_aload_n hA si_46_23 rfl ?_
  refine sr_getR (r := 18) hA si_46_24 sf_46_32 (by decide) (by decide) rfl rfl rfl ?_
  refine sr_iload_n hA si_46_27 rfl ?_
  refine sr_iload_n hA si_46_28 rfl ?_
  refine sr_VFi (c := 18) (ci := 0) (as := [.int (nI i), .int (nI 4)]) (st := []) hA si_46_29 sv_47 sk_46_154 (xc_isOf24 X g (i := i) (by omega) hk) (by omega) rfl (by decide) (by decide) rfl sq_c_47 rfl (Nat.le_of_ble_eq_true rfl) ?_
  refine sr_if_neN (tgt := 41) hA si_46_32 (by decide) (by omega) (fun c4 => absurd c4 (by omega)) (fun c4 => ?_)
  refine sr_aload_n hA si_46_35 rfl ?_
  refine sr_iconst (v := nI 3) hA si_46_36 (by decide) ?_
  refine sr_VFi (c := 0) (ci := 7) (as := [.int (nI 3)]) (st := []) hA si_46_37 sv_12 sk_46_76 (xc_refuse X g (by omega)) (by omega) rfl (by decide) (by decide) rfl sq_c_12 rfl (Nat.le_of_ble_eq_true rfl) ?_
  exact sr_iretF hA si_46_40 sq_r_46 rfl rfl
set_option maxRecDepth 20000 in
theorem xc_mark_r25 (X : sp_X) (g : sp_G) {i : Nat} (hi : i < 6)  {n : Nat} (hn : g.1 18 3 = nI n) (hb : n ≤ 6) (hin : i < n) (hk : g.1 19 i = nI 2) : sp_Ct X 9 46 [.ref 0, .int (nI i), .int (nI 5)] g (sp_Fi (-3) (sp_rx g 3)) := by
  refine sp_walkN (n := 3) sq_p_46 sq_l_46 (Nat.le_of_ble_eq_true rfl) (fun a hA => ?_)
  show sp_Ev X a 46 0 [.ref 0, .int (nI i), .int (nI 5)] [] g
  refine sr_aload_n hA si_46_0 rfl ?_
  refine sr_getR (r := 18) hA si_46_1 sf_46_32 (by decide) (by decide) rfl rfl rfl ?_
  refine sr_iload_n hA si_46_4 rfl ?_
  refine sr_VFi (c := 18) (ci := 0) (as := [.int (nI i)]) (st := []) hA si_46_5 sv_43 sk_46_148 (xc_isKey1 X g (n := n) hn (by omega) (by omega)) (by omega) rfl (by decide) (by decide) rfl sq_c_43 rfl (Nat.le_of_ble_eq_true rfl) ?_
  refine sr_if_eqN (tgt := 21) hA si_46_8 (by decide) (by omega) (fun c1 => absurd c1 (by omega)) (fun c1 => ?_)
  refine sr_iload_n hA si_46_11 rfl ?_
  refine sr_iconst (v := nI 1) hA si_46_12 (by decide) ?_
  refine sr_icmp_ltN (tgt := 21) hA si_46_13 (by decide) (by omega) (by omega) (fun c2 => absurd c2 (by omega)) (fun c2 => ?_)
  refine sr_iload_n hA si_46_16 rfl ?_
  refine sr_iconst (v := nI 5) hA si_46_17 (by decide) ?_
  refine sr_icmp_leN (tgt := 23) hA si_46_18 (by decide) (by omega) (by omega) (fun c3 => ?_) (fun c3 => absurd c3 (by omega))
  refine sr_aload_n hA si_46_23 rfl ?_
  refine sr_getR (r := 18) hA si_46_24 sf_46_32 (by decide) (by decide) rfl rfl rfl ?_
  refine sr_iload_n hA si_46_27 rfl ?_
  refine sr_iload_n hA si_46_28 rfl ?_
  refine sr_VFi (c := 18) (ci := 0) (as := [.int (nI i), .int (nI 5)]) (st := []) hA si_46_29 sv_47 sk_46_154 (xc_isOf25 X g (i := i) (by omega) hk) (by omega) rfl (by decide) (by decide) rfl sq_c_47 rfl (Nat.le_of_ble_eq_true rfl) ?_
  refine sr_if_neN (tgt := 41) hA si_46_32 (by decide) (by omega) (fun c4 => absurd c4 (by omega)) (fun c4 => ?_)
  refine sr_aload_n hA si_46_35 rfl ?_
  refine sr_iconst (v := nI 3) hA si_46_36 (by decide) ?_
  refine sr_VFi (c := 0) (ci := 7) (as := [.int (nI 3)]) (st := []) hA si_46_37 sv_12 sk_46_76 (xc_refuse X g (by omega)) (by omega) rfl (by decide) (by decide) rfl sq_c_12 rfl (Nat.le_of_ble_eq_true rfl) ?_
  exact sr_iretF hA si_46_40 sq_r_46 rfl rfl
set_option maxRecDepth 20000 in
theorem xc_mark_r31 (X : sp_X) (g : sp_G) {i : Nat} (hi : i < 6)  {n : Nat} (hn : g.1 18 3 = nI n) (hb : n ≤ 6) (hin : i < n) (hk : g.1 19 i = nI 3) : sp_Ct X 9 46 [.ref 0, .int (nI i), .int (nI 1)] g (sp_Fi (-3) (sp_rx g 3)) := by
  refine sp_walkN (n := 3) sq_p_46 sq_l_46 (Nat.le_of_ble_eq_true rfl) (fun a hA => ?_)
  show sp_Ev X a 46 0 [.ref 0, .int (nI i), .int (nI 1)] [] g
  refine sr_aload_n hA si_46_0 rfl ?_
  refine sr_getR (r := 18) hA si_46_1 sf_46_32 (by decide) (by decide) rfl rfl rfl ?_
  refine sr_iload_n hA si_46_4 rfl ?_
  refine sr_VFi (c := 18) (ci := 0) (as := [.int (nI i)]) (st := []) hA si_46_5 sv_43 sk_46_148 (xc_isKey1 X g (n := n) hn (by omega) (by omega)) (by omega) rfl (by decide) (by decide) rfl sq_c_43 rfl (Nat.le_of_ble_eq_true rfl) ?_
  refine sr_if_eqN (tgt := 21) hA si_46_8 (by decide) (by omega) (fun c1 => absurd c1 (by omega)) (fun c1 => ?_)
  refine sr_iload_n hA si_46_11 rfl ?_
  refine sr_iconst (v := nI 1) hA si_46_12 (by decide) ?_
  refine sr_icmp_ltN (tgt := 21) hA si_46_13 (by decide) (by omega) (by omega) (fun c2 => absurd c2 (by omega)) (fun c2 => ?_)
  refine sr_iload_n hA si_46_16 rfl ?_
  refine sr_iconst (v := nI 5) hA si_46_17 (by decide) ?_
  refine sr_icmp_leN (tgt := 23) hA si_46_18 (by decide) (by omega) (by omega) (fun c3 => ?_) (fun c3 => absurd c3 (by omega))
  refine sr_aload_n hA si_46_23 rfl ?_
  refine sr_getR (r := 18) hA si_46_24 sf_46_32 (by decide) (by decide) rfl rfl rfl ?_
  refine sr_iload_n hA si_46_27 rfl ?_
  refine sr_iload_n hA si_46_28 rfl ?_
  refine sr_VFi (c := 18) (ci := 0) (as := [.int (nI i), .int (nI 1)]) (st := []) hA si_46_29 sv_47 sk_46_154 (xc_isOf31 X g (i := i) (by omega) hk) (by omega) rfl (by decide) (by decide) rfl sq_c_47 rfl (Nat.le_of_ble_eq_true rfl) ?_
  refine sr_if_neN (tgt := 41) hA si_46_32 (by decide) (by omega) (fun c4 => absurd c4 (by omega)) (fun c4 => ?_)
  refine sr_aload_n hA si_46_35 rfl ?_
  refine sr_iconst (v := nI 3) hA si_46_36 (by decide) ?_
  refine sr_VFi (c := 0) (ci := 7) (as := [.int (nI 3)]) (st := []) hA si_46_37 sv_12 sk_46_76 (xc_refuse X g (by omega)) (by omega) rfl (by decide) (by decide) rfl sq_c_12 rfl (Nat.le_of_ble_eq_true rfl) ?_
  exact sr_iretF hA si_46_40 sq_r_46 rfl rfl
set_option maxRecDepth 20000 in
theorem xc_mark_r32 (X : sp_X) (g : sp_G) {i : Nat} (hi : i < 6)  {n : Nat} (hn : g.1 18 3 = nI n) (hb : n ≤ 6) (hin : i < n) (hk : g.1 19 i = nI 3) : sp_Ct X 9 46 [.ref 0, .int (nI i), .int (nI 2)] g (sp_Fi (-3) (sp_rx g 3)) := by
  refine sp_walkN (n := 3) sq_p_46 sq_l_46 (Nat.le_of_ble_eq_true rfl) (fun a hA => ?_)
  show sp_Ev X a 46 0 [.ref 0, .int (nI i), .int (nI 2)] [] g
  refine sr_aload_n hA si_46_0 rfl ?_
  refine sr_getR (r := 18) hA si_46_1 sf_46_32 (by decide) (by decide) rfl rfl rfl ?_
  refine sr_iload_n hA si_46_4 rfl ?_
  refine sr_VFi (c := 18) (ci := 0) (as := [.int (nI i)]) (st := []) hA si_46_5 sv_43 sk_46_148 (xc_isKey1 X g (n := n) hn (by omega) (by omega)) (by omega) rfl (by decide) (by decide) rfl sq_c_43 rfl (Nat.le_of_ble_eq_true rfl) ?_
  refine sr_if_eqN (tgt := 21) hA si_46_8 (by decide) (by omega) (fun c1 => absurd c1 (by omega)) (fun c1 => ?_)
  refine sr_iload_n hA si_46_11 rfl ?_
  refine sr_iconst (v := nI 1) hA si_46_12 (by decide) ?_
  refine sr_icmp_ltN (tgt := 21) hA si_46_13 (by decide) (by omega) (by omega) (fun c2 => absurd c2 (by omega)) (fun c2 => ?_)
  refine sr_iload_n hA si_46_16 rfl ?_
  refine sr_iconst (v := nI 5) hA si_46_17 (by decide) ?_
  refine sr_icmp_leN (tgt := 23) hA si_46_18 (by decide) (by omega) (by omega) (fun c3 => ?_) (fun c3 => absurd c3 (by omega))
  refine sr_aload_n hA si_46_23 rfl ?_
  refine sr_getR (r := 18) hA si_46_24 sf_46_32 (by decide) (by decide) rfl rfl rfl ?_
  refine sr_iload_n hA si_46_27 rfl ?_
  refine sr_iload_n hA si_46_28 rfl ?_
  refine sr_VFi (c := 18) (ci := 0) (as := [.int (nI i), .int (nI 2)]) (st := []) hA si_46_29 sv_47 sk_46_154 (xc_isOf32 X g (i := i) (by omega) hk) (by omega) rfl (by decide) (by decide) rfl sq_c_47 rfl (Nat.le_of_ble_eq_true rfl) ?_
  refine sr_if_neN (tgt := 41) hA si_46_32 (by decide) (by omega) (fun c4 => absurd c4 (by omega)) (fun c4 => ?_)
  refine sr_aload_n hA si_46_35 rfl ?_
  refine sr_iconst (v := nI 3) hA si_46_36 (by decide) ?_
  refine sr_VFi (c := 0) (ci := 7) (as := [.int (nI 3)]) (st := []) hA si_46_37 sv_12 sk_46_76 (xc_refuse X g (by omega)) (by omega) rfl (by decide) (by decide) rfl sq_c_12 rfl (Nat.le_of_ble_eq_true rfl) ?_
  exact sr_iretF hA si_46_40 sq_r_46 rfl rfl
set_option maxRecDepth 20000 in
theorem xc_mark_330 (X : sp_X) (g : sp_G) {n : Nat} (hn : g.1 18 3 = nI n) (hb : n ≤ 6) (hin : 0 < n) (hk : g.1 19 0 = nI 3) : sp_Ct X 9 46 [.ref 0, .int (nI 0), .int (nI 3)] g (sp_Fi (g.1 41 1) g) := by
  refine sp_walkN (n := 3) sq_p_46 sq_l_46 (Nat.le_of_ble_eq_true rfl) (fun a hA => ?_)
  show sp_Ev X a 46 0 [.ref 0, .int (nI 0), .int (nI 3)] [] g
  refine sr_aload_n hA si_46_0 rfl ?_
  refine sr_getR (r := 18) hA si_46_1 sf_46_32 (by decide) (by decide) rfl rfl rfl ?_
  refine sr_iload_n hA si_46_4 rfl ?_
  refine sr_VFi (c := 18) (ci := 0) (as := [.int (nI 0)]) (st := []) hA si_46_5 sv_43 sk_46_148 (xc_isKey1 X g (n := n) hn (by omega) (by omega)) (by omega) rfl (by decide) (by decide) rfl sq_c_43 rfl (Nat.le_of_ble_eq_true rfl) ?_
  refine sr_if_eqN (tgt := 21) hA si_46_8 (by decide) (by omega) (fun c1 => absurd c1 (by omega)) (fun c1 => ?_)
  refine sr_iload_n hA si_46_11 rfl ?_
  refine sr_iconst (v := nI 1) hA si_46_12 (by decide) ?_
  refine sr_icmp_ltN (tgt := 21) hA si_46_13 (by decide) (by omega) (by omega) (fun c2 => absurd c2 (by omega)) (fun c2 => ?_)
  refine sr_iload_n hA si_46_16 rfl ?_
  refine sr_iconst (v := nI 5) hA si_46_17 (by decide) ?_
  refine sr_icmp_leN (tgt := 23) hA si_46_18 (by decide) (by omega) (by omega) (fun c3 => ?_) (fun c3 => absurd c3 (by omega))
  refine sr_aload_n hA si_46_23 rfl ?_
  refine sr_getR (r := 18) hA si_46_24 sf_46_32 (by decide) (by decide) rfl rfl rfl ?_
  refine sr_iload_n hA si_46_27 rfl ?_
  refine sr_iload_n hA si_46_28 rfl ?_
  refine sr_VFi (c := 18) (ci := 0) (as := [.int (nI 0), .int (nI 3)]) (st := []) hA si_46_29 sv_47 sk_46_154 (xc_isOf33 X g (i := 0) (by omega) hk) (by omega) rfl (by decide) (by decide) rfl sq_c_47 rfl (Nat.le_of_ble_eq_true rfl) ?_
  refine sr_if_neN (tgt := 41) hA si_46_32 (by decide) (by omega) (fun c4 => ?_) (fun c4 => absurd c4 (by omega))
  refine sr_iload_n hA si_46_41 rfl ?_
  refine sr_tswI (c := nI 3) (tgt := 110) hA si_46_42 rfl (by decide) (by decide) rfl (by decide) ?_
  refine sr_iload_n hA si_46_110 rfl ?_
  refine sr_if_leN (tgt := 128) hA si_46_111 (by decide) (by omega) (fun c5 => ?_) (fun c5 => absurd c5 (by omega))
  refine sr_aload_n hA si_46_128 rfl ?_
  refine sr_getR (r := 41) hA si_46_129 sf_46_36 (by decide) (by decide) rfl rfl rfl ?_
  refine sr_getIv (v := g.1 41 1) hA si_46_132 sf_46_172 (by decide) (by decide) rfl (by decide) rfl ?_
  exact sr_iretF hA si_46_135 sq_r_46 rfl rfl
set_option maxRecDepth 20000 in
theorem xc_mark_331 (X : sp_X) (g : sp_G) {i : Nat} (hi : i < 6)  {n : Nat} (hn : g.1 18 3 = nI n) (hb : n ≤ 6) (hin : i < n) (hi0 : 0 < i) (hk : g.1 19 i = nI 3) : sp_Ct X 9 46 [.ref 0, .int (nI i), .int (nI 3)] g (sp_Fi (g.1 42 (i - 1)) g) := by
  refine sp_walkN (n := 3) sq_p_46 sq_l_46 (Nat.le_of_ble_eq_true rfl) (fun a hA => ?_)
  show sp_Ev X a 46 0 [.ref 0, .int (nI i), .int (nI 3)] [] g
  refine sr_aload_n hA si_46_0 rfl ?_
  refine sr_getR (r := 18) hA si_46_1 sf_46_32 (by decide) (by decide) rfl rfl rfl ?_
  refine sr_iload_n hA si_46_4 rfl ?_
  refine sr_VFi (c := 18) (ci := 0) (as := [.int (nI i)]) (st := []) hA si_46_5 sv_43 sk_46_148 (xc_isKey1 X g (n := n) hn (by omega) (by omega)) (by omega) rfl (by decide) (by decide) rfl sq_c_43 rfl (Nat.le_of_ble_eq_true rfl) ?_
  refine sr_if_eqN (tgt := 21) hA si_46_8 (by decide) (by omega) (fun c1 => absurd c1 (by omega)) (fun c1 => ?_)
  refine sr_iload_n hA si_46_11 rfl ?_
  refine sr_iconst (v := nI 1) hA si_46_12 (by decide) ?_
  refine sr_icmp_ltN (tgt := 21) hA si_46_13 (by decide) (by omega) (by omega) (fun c2 => absurd c2 (by omega)) (fun c2 => ?_)
  refine sr_iload_n hA si_46_16 rfl ?_
  refine sr_iconst (v := nI 5) hA si_46_17 (by decide) ?_
  refine sr_icmp_leN (tgt := 23) hA si_46_18 (by decide) (by omega) (by omega) (fun c3 => ?_) (fun c3 => absurd c3 (by omega))
  refine sr_aload_n hA si_46_23 rfl ?_
  refine sr_getR (r := 18) hA si_46_24 sf_46_32 (by decide) (by decide) rfl rfl rfl ?_
  refine sr_iload_n hA si_46_27 rfl ?_
  refine sr_iload_n hA si_46_28 rfl ?_
  refine sr_VFi (c := 18) (ci := 0) (as := [.int (nI i), .int (nI 3)]) (st := []) hA si_46_29 sv_47 sk_46_154 (xc_isOf33 X g (i := i) (by omega) hk) (by omega) rfl (by decide) (by decide) rfl sq_c_47 rfl (Nat.le_of_ble_eq_true rfl) ?_
  refine sr_if_neN (tgt := 41) hA si_46_32 (by decide) (by omega) (fun c4 => ?_) (fun c4 => absurd c4 (by omega))
  refine sr_iload_n hA si_46_41 rfl ?_
  refine sr_tswI (c := nI 3) (tgt := 110) hA si_46_42 rfl (by decide) (by decide) rfl (by decide) ?_
  refine sr_iload_n hA si_46_110 rfl ?_
  refine sr_if_leN (tgt := 128) hA si_46_111 (by decide) (by omega) (fun c5 => absurd c5 (by omega)) (fun c5 => ?_)
  refine sr_aload_n hA si_46_114 rfl ?_
  refine sr_getR (r := 41) hA si_46_115 sf_46_36 (by decide) (by decide) rfl rfl rfl ?_
  refine sr_getR (r := 42) hA si_46_118 sf_46_158 (by decide) (by decide) rfl rfl rfl ?_
  refine sr_iload_n hA si_46_121 rfl ?_
  refine sr_iconst (v := nI 1) hA si_46_122 (by decide) ?_
  refine sr_isubN hA si_46_123 (by omega) ?_
  refine sr_ialdNv (v := g.1 42 (i - 1)) (n := 6) hA si_46_124 (by decide) rfl rfl (by omega) (by decide) rfl ?_
  refine sr_goto (tgt := 135) hA si_46_125 (by decide) ?_
  exact sr_iretF hA si_46_135 sq_r_46 rfl rfl
set_option maxRecDepth 20000 in
theorem xc_mark_r34 (X : sp_X) (g : sp_G) {i : Nat} (hi : i < 6)  {n : Nat} (hn : g.1 18 3 = nI n) (hb : n ≤ 6) (hin : i < n) (hk : g.1 19 i = nI 3) : sp_Ct X 9 46 [.ref 0, .int (nI i), .int (nI 4)] g (sp_Fi (-3) (sp_rx g 3)) := by
  refine sp_walkN (n := 3) sq_p_46 sq_l_46 (Nat.le_of_ble_eq_true rfl) (fun a hA => ?_)
  show sp_Ev X a 46 0 [.ref 0, .int (nI i), .int (nI 4)] [] g
  refine sr_aload_n hA si_46_0 rfl ?_
  refine sr_getR (r := 18) hA si_46_1 sf_46_32 (by decide) (by decide) rfl rfl rfl ?_
  refine sr_iload_n hA si_46_4 rfl ?_
  refine sr_VFi (c := 18) (ci := 0) (as := [.int (nI i)]) (st := []) hA si_46_5 sv_43 sk_46_148 (xc_isKey1 X g (n := n) hn (by omega) (by omega)) (by omega) rfl (by decide) (by decide) rfl sq_c_43 rfl (Nat.le_of_ble_eq_true rfl) ?_
  refine sr_if_eqN (tgt := 21) hA si_46_8 (by decide) (by omega) (fun c1 => absurd c1 (by omega)) (fun c1 => ?_)
  refine sr_iload_n hA si_46_11 rfl ?_
  refine sr_iconst (v := nI 1) hA si_46_12 (by decide) ?_
  refine sr_icmp_ltN (tgt := 21) hA si_46_13 (by decide) (by omega) (by omega) (fun c2 => absurd c2 (by omega)) (fun c2 => ?_)
  refine sr_iload_n hA si_46_16 rfl ?_
  refine sr_iconst (v := nI 5) hA si_46_17 (by decide) ?_
  refine sr_icmp_leN (tgt := 23) hA si_46_18 (by decide) (by omega) (by omega) (fun c3 => ?_) (fun c3 => absurd c3 (by omega))
  refine sr_aload_n hA si_46_23 rfl ?_
  refine sr_getR (r := 18) hA si_46_24 sf_46_32 (by decide) (by decide) rfl rfl rfl ?_
  refine sr_iload_n hA si_46_27 rfl ?_
  refine sr_iload_n hA si_46_28 rfl ?_
  refine sr_VFi (c := 18) (ci := 0) (as := [.int (nI i), .int (nI 4)]) (st := []) hA si_46_29 sv_47 sk_46_154 (xc_isOf34 X g (i := i) (by omega) hk) (by omega) rfl (by decide) (by decide) rfl sq_c_47 rfl (Nat.le_of_ble_eq_true rfl) ?_
  refine sr_if_neN (tgt := 41) hA si_46_32 (by decide) (by omega) (fun c4 => absurd c4 (by omega)) (fun c4 => ?_)
  refine sr_aload_n hA si_46_35 rfl ?_
  refine sr_iconst (v := nI 3) hA si_46_36 (by decide) ?_
  refine sr_VFi (c := 0) (ci := 7) (as := [.int (nI 3)]) (st := []) hA si_46_37 sv_12 sk_46_76 (xc_refuse X g (by omega)) (by omega) rfl (by decide) (by decide) rfl sq_c_12 rfl (Nat.le_of_ble_eq_true rfl) ?_
  exact sr_iretF hA si_46_40 sq_r_46 rfl rfl
set_option maxRecDepth 20000 in
theorem xc_mark_r35 (X : sp_X) (g : sp_G) {i : Nat} (hi : i < 6)  {n : Nat} (hn : g.1 18 3 = nI n) (hb : n ≤ 6) (hin : i < n) (hk : g.1 19 i = nI 3) : sp_Ct X 9 46 [.ref 0, .int (nI i), .int (nI 5)] g (sp_Fi (-3) (sp_rx g 3)) := by
  refine sp_walkN (n := 3) sq_p_46 sq_l_46 (Nat.le_of_ble_eq_true rfl) (fun a hA => ?_)
  show sp_Ev X a 46 0 [.ref 0, .int (nI i), .int (nI 5)] [] g
  refine sr_aload_n hA si_46_0 rfl ?_
  refine sr_getR (r := 18) hA si_46_1 sf_46_32 (by decide) (by decide) rfl rfl rfl ?_
  refine sr_iload_n hA si_46_4 rfl ?_
  refine sr_VFi (c := 18) (ci := 0) (as := [.int (nI i)]) (st := []) hA si_46_5 sv_43 sk_46_148 (xc_isKey1 X g (n := n) hn (by omega) (by omega)) (by omega) rfl (by decide) (by decide) rfl sq_c_43 rfl (Nat.le_of_ble_eq_true rfl) ?_
  refine sr_if_eqN (tgt := 21) hA si_46_8 (by decide) (by omega) (fun c1 => absurd c1 (by omega)) (fun c1 => ?_)
  refine sr_iload_n hA si_46_11 rfl ?_
  refine sr_iconst (v := nI 1) hA si_46_12 (by decide) ?_
  refine sr_icmp_ltN (tgt := 21) hA si_46_13 (by decide) (by omega) (by omega) (fun c2 => absurd c2 (by omega)) (fun c2 => ?_)
  refine sr_iload_n hA si_46_16 rfl ?_
  refine sr_iconst (v := nI 5) hA si_46_17 (by decide) ?_
  refine sr_icmp_leN (tgt := 23) hA si_46_18 (by decide) (by omega) (by omega) (fun c3 => ?_) (fun c3 => absurd c3 (by omega))
  refine sr_aload_n hA si_46_23 rfl ?_
  refine sr_getR (r := 18) hA si_46_24 sf_46_32 (by decide) (by decide) rfl rfl rfl ?_
  refine sr_iload_n hA si_46_27 rfl ?_
  refine sr_iload_n hA si_46_28 rfl ?_
  refine sr_VFi (c := 18) (ci := 0) (as := [.int (nI i), .int (nI 5)]) (st := []) hA si_46_29 sv_47 sk_46_154 (xc_isOf35 X g (i := i) (by omega) hk) (by omega) rfl (by decide) (by decide) rfl sq_c_47 rfl (Nat.le_of_ble_eq_true rfl) ?_
  refine sr_if_neN (tgt := 41) hA si_46_32 (by decide) (by omega) (fun c4 => absurd c4 (by omega)) (fun c4 => ?_)
  refine sr_aload_n hA si_46_35 rfl ?_
  refine sr_iconst (v := nI 3) hA si_46_36 (by decide) ?_
  refine sr_VFi (c := 0) (ci := 7) (as := [.int (nI 3)]) (st := []) hA si_46_37 sv_12 sk_46_76 (xc_refuse X g (by omega)) (by omega) rfl (by decide) (by decide) rfl sq_c_12 rfl (Nat.le_of_ble_eq_true rfl) ?_
  exact sr_iretF hA si_46_40 sq_r_46 rfl rfl
set_option maxRecDepth 20000 in
theorem xc_mark_41 (X : sp_X) (g : sp_G) {i : Nat} (hi : i < 6)  {n : Nat} (hn : g.1 18 3 = nI n) (hb : n ≤ 6) (hin : i < n) (hk : g.1 19 i = nI 4) : sp_Ct X 9 46 [.ref 0, .int (nI i), .int (nI 1)] g (sp_Fi (if g.1 42 i < nI 2 then g.1 42 i else nI 2) g) := by
  refine sp_walkN (n := 3) sq_p_46 sq_l_46 (Nat.le_of_ble_eq_true rfl) (fun a hA => ?_)
  show sp_Ev X a 46 0 [.ref 0, .int (nI i), .int (nI 1)] [] g
  refine sr_aload_n hA si_46_0 rfl ?_
  refine sr_getR (r := 18) hA si_46_1 sf_46_32 (by decide) (by decide) rfl rfl rfl ?_
  refine sr_iload_n hA si_46_4 rfl ?_
  refine sr_VFi (c := 18) (ci := 0) (as := [.int (nI i)]) (st := []) hA si_46_5 sv_43 sk_46_148 (xc_isKey1 X g (n := n) hn (by omega) (by omega)) (by omega) rfl (by decide) (by decide) rfl sq_c_43 rfl (Nat.le_of_ble_eq_true rfl) ?_
  refine sr_if_eqN (tgt := 21) hA si_46_8 (by decide) (by omega) (fun c1 => absurd c1 (by omega)) (fun c1 => ?_)
  refine sr_iload_n hA si_46_11 rfl ?_
  refine sr_iconst (v := nI 1) hA si_46_12 (by decide) ?_
  refine sr_icmp_ltN (tgt := 21) hA si_46_13 (by decide) (by omega) (by omega) (fun c2 => absurd c2 (by omega)) (fun c2 => ?_)
  refine sr_iload_n hA si_46_16 rfl ?_
  refine sr_iconst (v := nI 5) hA si_46_17 (by decide) ?_
  refine sr_icmp_leN (tgt := 23) hA si_46_18 (by decide) (by omega) (by omega) (fun c3 => ?_) (fun c3 => absurd c3 (by omega))
  refine sr_aload_n hA si_46_23 rfl ?_
  refine sr_getR (r := 18) hA si_46_24 sf_46_32 (by decide) (by decide) rfl rfl rfl ?_
  refine sr_iload_n hA si_46_27 rfl ?_
  refine sr_iload_n hA si_46_28 rfl ?_
  refine sr_VFi (c := 18) (ci := 0) (as := [.int (nI i), .int (nI 1)]) (st := []) hA si_46_29 sv_47 sk_46_154 (xc_isOf41 X g (i := i) (by omega) hk) (by omega) rfl (by decide) (by decide) rfl sq_c_47 rfl (Nat.le_of_ble_eq_true rfl) ?_
  refine sr_if_neN (tgt := 41) hA si_46_32 (by decide) (by omega) (fun c4 => ?_) (fun c4 => absurd c4 (by omega))
  refine sr_iload_n hA si_46_41 rfl ?_
  refine sr_tswI (c := nI 1) (tgt := 72) hA si_46_42 rfl (by decide) (by decide) rfl (by decide) ?_
  refine sr_iconst (v := nI 2) hA si_46_72 (by decide) ?_
  refine sr_aload_n hA si_46_73 rfl ?_
  refine sr_getR (r := 41) hA si_46_74 sf_46_36 (by decide) (by decide) rfl rfl rfl ?_
  refine sr_getR (r := 42) hA si_46_77 sf_46_158 (by decide) (by decide) rfl rfl rfl ?_
  refine sr_iload_n hA si_46_80 rfl ?_
  refine sr_ialdNv (v := g.1 42 i) (n := 6) hA si_46_81 (by decide) rfl rfl (by omega) (by decide) rfl ?_
  refine sr_mmin hA si_46_82 sk_46_161 (by omega) (Nat.le_of_ble_eq_true rfl) ?_
  exact sr_iretF hA si_46_85 sq_r_46 rfl rfl
set_option maxRecDepth 20000 in
theorem xc_mark_r42 (X : sp_X) (g : sp_G) {i : Nat} (hi : i < 6)  {n : Nat} (hn : g.1 18 3 = nI n) (hb : n ≤ 6) (hin : i < n) (hk : g.1 19 i = nI 4) : sp_Ct X 9 46 [.ref 0, .int (nI i), .int (nI 2)] g (sp_Fi (-3) (sp_rx g 3)) := by
  refine sp_walkN (n := 3) sq_p_46 sq_l_46 (Nat.le_of_ble_eq_true rfl) (fun a hA => ?_)
  show sp_Ev X a 46 0 [.ref 0, .int (nI i), .int (nI 2)] [] g
  refine sr_aload_n hA si_46_0 rfl ?_
  refine sr_getR (r := 18) hA si_46_1 sf_46_32 (by decide) (by decide) rfl rfl rfl ?_
  refine sr_iload_n hA si_46_4 rfl ?_
  refine sr_VFi (c := 18) (ci := 0) (as := [.int (nI i)]) (st := []) hA si_46_5 sv_43 sk_46_148 (xc_isKey1 X g (n := n) hn (by omega) (by omega)) (by omega) rfl (by decide) (by decide) rfl sq_c_43 rfl (Nat.le_of_ble_eq_true rfl) ?_
  refine sr_if_eqN (tgt := 21) hA si_46_8 (by decide) (by omega) (fun c1 => absurd c1 (by omega)) (fun c1 => ?_)
  refine sr_iload_n hA si_46_11 rfl ?_
  refine sr_iconst (v := nI 1) hA si_46_12 (by decide) ?_
  refine sr_icmp_ltN (tgt := 21) hA si_46_13 (by decide) (by omega) (by omega) (fun c2 => absurd c2 (by omega)) (fun c2 => ?_)
  refine sr_iload_n hA si_46_16 rfl ?_
  refine sr_iconst (v := nI 5) hA si_46_17 (by decide) ?_
  refine sr_icmp_leN (tgt := 23) hA si_46_18 (by decide) (by omega) (by omega) (fun c3 => ?_) (fun c3 => absurd c3 (by omega))
  refine sr_aload_n hA si_46_23 rfl ?_
  refine sr_getR (r := 18) hA si_46_24 sf_46_32 (by decide) (by decide) rfl rfl rfl ?_
  refine sr_iload_n hA si_46_27 rfl ?_
  refine sr_iload_n hA si_46_28 rfl ?_
  refine sr_VFi (c := 18) (ci := 0) (as := [.int (nI i), .int (nI 2)]) (st := []) hA si_46_29 sv_47 sk_46_154 (xc_isOf42 X g (i := i) (by omega) hk) (by omega) rfl (by decide) (by decide) rfl sq_c_47 rfl (Nat.le_of_ble_eq_true rfl) ?_
  refine sr_if_neN (tgt := 41) hA si_46_32 (by decide) (by omega) (fun c4 => absurd c4 (by omega)) (fun c4 => ?_)
  refine sr_aload_n hA si_46_35 rfl ?_
  refine sr_iconst (v := nI 3) hA si_46_36 (by decide) ?_
  refine sr_VFi (c := 0) (ci := 7) (as := [.int (nI 3)]) (st := []) hA si_46_37 sv_12 sk_46_76 (xc_refuse X g (by omega)) (by omega) rfl (by decide) (by decide) rfl sq_c_12 rfl (Nat.le_of_ble_eq_true rfl) ?_
  exact sr_iretF hA si_46_40 sq_r_46 rfl rfl
set_option maxRecDepth 20000 in
theorem xc_mark_r43 (X : sp_X) (g : sp_G) {i : Nat} (hi : i < 6)  {n : Nat} (hn : g.1 18 3 = nI n) (hb : n ≤ 6) (hin : i < n) (hk : g.1 19 i = nI 4) : sp_Ct X 9 46 [.ref 0, .int (nI i), .int (nI 3)] g (sp_Fi (-3) (sp_rx g 3)) := by
  refine sp_walkN (n := 3) sq_p_46 sq_l_46 (Nat.le_of_ble_eq_true rfl) (fun a hA => ?_)
  show sp_Ev X a 46 0 [.ref 0, .int (nI i), .int (nI 3)] [] g
  refine sr_aload_n hA si_46_0 rfl ?_
  refine sr_getR (r := 18) hA si_46_1 sf_46_32 (by decide) (by decide) rfl rfl rfl ?_
  refine sr_iload_n hA si_46_4 rfl ?_
  refine sr_VFi (c := 18) (ci := 0) (as := [.int (nI i)]) (st := []) hA si_46_5 sv_43 sk_46_148 (xc_isKey1 X g (n := n) hn (by omega) (by omega)) (by omega) rfl (by decide) (by decide) rfl sq_c_43 rfl (Nat.le_of_ble_eq_true rfl) ?_
  refine sr_if_eqN (tgt := 21) hA si_46_8 (by decide) (by omega) (fun c1 => absurd c1 (by omega)) (fun c1 => ?_)
  refine sr_iload_n hA si_46_11 rfl ?_
  refine sr_iconst (v := nI 1) hA si_46_12 (by decide) ?_
  refine sr_icmp_ltN (tgt := 21) hA si_46_13 (by decide) (by omega) (by omega) (fun c2 => absurd c2 (by omega)) (fun c2 => ?_)
  refine sr_iload_n hA si_46_16 rfl ?_
  refine sr_iconst (v := nI 5) hA si_46_17 (by decide) ?_
  refine sr_icmp_leN (tgt := 23) hA si_46_18 (by decide) (by omega) (by omega) (fun c3 => ?_) (fun c3 => absurd c3 (by omega))
  refine sr_aload_n hA si_46_23 rfl ?_
  refine sr_getR (r := 18) hA si_46_24 sf_46_32 (by decide) (by decide) rfl rfl rfl ?_
  refine sr_iload_n hA si_46_27 rfl ?_
  refine sr_iload_n hA si_46_28 rfl ?_
  refine sr_VFi (c := 18) (ci := 0) (as := [.int (nI i), .int (nI 3)]) (st := []) hA si_46_29 sv_47 sk_46_154 (xc_isOf43 X g (i := i) (by omega) hk) (by omega) rfl (by decide) (by decide) rfl sq_c_47 rfl (Nat.le_of_ble_eq_true rfl) ?_
  refine sr_if_neN (tgt := 41) hA si_46_32 (by decide) (by omega) (fun c4 => absurd c4 (by omega)) (fun c4 => ?_)
  refine sr_aload_n hA si_46_35 rfl ?_
  refine sr_iconst (v := nI 3) hA si_46_36 (by decide) ?_
  refine sr_VFi (c := 0) (ci := 7) (as := [.int (nI 3)]) (st := []) hA si_46_37 sv_12 sk_46_76 (xc_refuse X g (by omega)) (by omega) rfl (by decide) (by decide) rfl sq_c_12 rfl (Nat.le_of_ble_eq_true rfl) ?_
  exact sr_iretF hA si_46_40 sq_r_46 rfl rfl
set_option maxRecDepth 20000 in
theorem xc_mark_44 (X : sp_X) (g : sp_G) {i : Nat} (hi : i < 6)  {n : Nat} (hn : g.1 18 3 = nI n) (hb : n ≤ 6) (hin : i < n) (hk : g.1 19 i = nI 4) : sp_Ct X 9 46 [.ref 0, .int (nI i), .int (nI 4)] g (sp_Fi (nI i) g) := by
  refine sp_walkN (n := 3) sq_p_46 sq_l_46 (Nat.le_of_ble_eq_true rfl) (fun a hA => ?_)
  show sp_Ev X a 46 0 [.ref 0, .int (nI i), .int (nI 4)] [] g
  refine sr_aload_n hA si_46_0 rfl ?_
  refine sr_getR (r := 18) hA si_46_1 sf_46_32 (by decide) (by decide) rfl rfl rfl ?_
  refine sr_iload_n hA si_46_4 rfl ?_
  refine sr_VFi (c := 18) (ci := 0) (as := [.int (nI i)]) (st := []) hA si_46_5 sv_43 sk_46_148 (xc_isKey1 X g (n := n) hn (by omega) (by omega)) (by omega) rfl (by decide) (by decide) rfl sq_c_43 rfl (Nat.le_of_ble_eq_true rfl) ?_
  refine sr_if_eqN (tgt := 21) hA si_46_8 (by decide) (by omega) (fun c1 => absurd c1 (by omega)) (fun c1 => ?_)
  refine sr_iload_n hA si_46_11 rfl ?_
  refine sr_iconst (v := nI 1) hA si_46_12 (by decide) ?_
  refine sr_icmp_ltN (tgt := 21) hA si_46_13 (by decide) (by omega) (by omega) (fun c2 => absurd c2 (by omega)) (fun c2 => ?_)
  refine sr_iload_n hA si_46_16 rfl ?_
  refine sr_iconst (v := nI 5) hA si_46_17 (by decide) ?_
  refine sr_icmp_leN (tgt := 23) hA si_46_18 (by decide) (by omega) (by omega) (fun c3 => ?_) (fun c3 => absurd c3 (by omega))
  refine sr_aload_n hA si_46_23 rfl ?_
  refine sr_getR (r := 18) hA si_46_24 sf_46_32 (by decide) (by decide) rfl rfl rfl ?_
  refine sr_iload_n hA si_46_27 rfl ?_
  refine sr_iload_n hA si_46_28 rfl ?_
  refine sr_VFi (c := 18) (ci := 0) (as := [.int (nI i), .int (nI 4)]) (st := []) hA si_46_29 sv_47 sk_46_154 (xc_isOf44 X g (i := i) (by omega) hk) (by omega) rfl (by decide) (by decide) rfl sq_c_47 rfl (Nat.le_of_ble_eq_true rfl) ?_
  refine sr_if_neN (tgt := 41) hA si_46_32 (by decide) (by omega) (fun c4 => ?_) (fun c4 => absurd c4 (by omega))
  refine sr_iload_n hA si_46_41 rfl ?_
  refine sr_tswI (c := nI 4) (tgt := 136) hA si_46_42 rfl (by decide) (by decide) rfl (by decide) ?_
  refine sr_iload_n hA si_46_136 rfl ?_
  exact sr_iretF hA si_46_137 sq_r_46 rfl rfl
set_option maxRecDepth 20000 in
theorem xc_mark_r45 (X : sp_X) (g : sp_G) {i : Nat} (hi : i < 6)  {n : Nat} (hn : g.1 18 3 = nI n) (hb : n ≤ 6) (hin : i < n) (hk : g.1 19 i = nI 4) : sp_Ct X 9 46 [.ref 0, .int (nI i), .int (nI 5)] g (sp_Fi (-3) (sp_rx g 3)) := by
  refine sp_walkN (n := 3) sq_p_46 sq_l_46 (Nat.le_of_ble_eq_true rfl) (fun a hA => ?_)
  show sp_Ev X a 46 0 [.ref 0, .int (nI i), .int (nI 5)] [] g
  refine sr_aload_n hA si_46_0 rfl ?_
  refine sr_getR (r := 18) hA si_46_1 sf_46_32 (by decide) (by decide) rfl rfl rfl ?_
  refine sr_iload_n hA si_46_4 rfl ?_
  refine sr_VFi (c := 18) (ci := 0) (as := [.int (nI i)]) (st := []) hA si_46_5 sv_43 sk_46_148 (xc_isKey1 X g (n := n) hn (by omega) (by omega)) (by omega) rfl (by decide) (by decide) rfl sq_c_43 rfl (Nat.le_of_ble_eq_true rfl) ?_
  refine sr_if_eqN (tgt := 21) hA si_46_8 (by decide) (by omega) (fun c1 => absurd c1 (by omega)) (fun c1 => ?_)
  refine sr_iload_n hA si_46_11 rfl ?_
  refine sr_iconst (v := nI 1) hA si_46_12 (by decide) ?_
  refine sr_icmp_ltN (tgt := 21) hA si_46_13 (by decide) (by omega) (by omega) (fun c2 => absurd c2 (by omega)) (fun c2 => ?_)
  refine sr_iload_n hA si_46_16 rfl ?_
  refine sr_iconst (v := nI 5) hA si_46_17 (by decide) ?_
  refine sr_icmp_leN (tgt := 23) hA si_46_18 (by decide) (by omega) (by omega) (fun c3 => ?_) (fun c3 => absurd c3 (by omega))
  refine sr_aload_n hA si_46_23 rfl ?_
  refine sr_getR (r := 18) hA si_46_24 sf_46_32 (by decide) (by decide) rfl rfl rfl ?_
  refine sr_iload_n hA si_46_27 rfl ?_
  refine sr_iload_n hA si_46_28 rfl ?_
  refine sr_VFi (c := 18) (ci := 0) (as := [.int (nI i), .int (nI 5)]) (st := []) hA si_46_29 sv_47 sk_46_154 (xc_isOf45 X g (i := i) (by omega) hk) (by omega) rfl (by decide) (by decide) rfl sq_c_47 rfl (Nat.le_of_ble_eq_true rfl) ?_
  refine sr_if_neN (tgt := 41) hA si_46_32 (by decide) (by omega) (fun c4 => absurd c4 (by omega)) (fun c4 => ?_)
  refine sr_aload_n hA si_46_35 rfl ?_
  refine sr_iconst (v := nI 3) hA si_46_36 (by decide) ?_
  refine sr_VFi (c := 0) (ci := 7) (as := [.int (nI 3)]) (st := []) hA si_46_37 sv_12 sk_46_76 (xc_refuse X g (by omega)) (by omega) rfl (by decide) (by decide) rfl sq_c_12 rfl (Nat.le_of_ble_eq_true rfl) ?_
  exact sr_iretF hA si_46_40 sq_r_46 rfl rfl
set_option maxRecDepth 20000 in
theorem xc_mark_r51 (X : sp_X) (g : sp_G) {i : Nat} (hi : i < 6)  {n : Nat} (hn : g.1 18 3 = nI n) (hb : n ≤ 6) (hin : i < n) (hk : g.1 19 i = nI 5) : sp_Ct X 9 46 [.ref 0, .int (nI i), .int (nI 1)] g (sp_Fi (-3) (sp_rx g 3)) := by
  refine sp_walkN (n := 3) sq_p_46 sq_l_46 (Nat.le_of_ble_eq_true rfl) (fun a hA => ?_)
  show sp_Ev X a 46 0 [.ref 0, .int (nI i), .int (nI 1)] [] g
  refine sr_aload_n hA si_46_0 rfl ?_
  refine sr_getR (r := 18) hA si_46_1 sf_46_32 (by decide) (by decide) rfl rfl rfl ?_
  refine sr_iload_n hA si_46_4 rfl ?_
  refine sr_VFi (c := 18) (ci := 0) (as := [.int (nI i)]) (st := []) hA si_46_5 sv_43 sk_46_148 (xc_isKey1 X g (n := n) hn (by omega) (by omega)) (by omega) rfl (by decide) (by decide) rfl sq_c_43 rfl (Nat.le_of_ble_eq_true rfl) ?_
  refine sr_if_eqN (tgt := 21) hA si_46_8 (by decide) (by omega) (fun c1 => absurd c1 (by omega)) (fun c1 => ?_)
  refine sr_iload_n hA si_46_11 rfl ?_
  refine sr_iconst (v := nI 1) hA si_46_12 (by decide) ?_
  refine sr_icmp_ltN (tgt := 21) hA si_46_13 (by decide) (by omega) (by omega) (fun c2 => absurd c2 (by omega)) (fun c2 => ?_)
  refine sr_iload_n hA si_46_16 rfl ?_
  refine sr_iconst (v := nI 5) hA si_46_17 (by decide) ?_
  refine sr_icmp_leN (tgt := 23) hA si_46_18 (by decide) (by omega) (by omega) (fun c3 => ?_) (fun c3 => absurd c3 (by omega))
  refine sr_aload_n hA si_46_23 rfl ?_
  refine sr_getR (r := 18) hA si_46_24 sf_46_32 (by decide) (by decide) rfl rfl rfl ?_
  refine sr_iload_n hA si_46_27 rfl ?_
  refine sr_iload_n hA si_46_28 rfl ?_
  refine sr_VFi (c := 18) (ci := 0) (as := [.int (nI i), .int (nI 1)]) (st := []) hA si_46_29 sv_47 sk_46_154 (xc_isOf51 X g (i := i) (by omega) hk) (by omega) rfl (by decide) (by decide) rfl sq_c_47 rfl (Nat.le_of_ble_eq_true rfl) ?_
  refine sr_if_neN (tgt := 41) hA si_46_32 (by decide) (by omega) (fun c4 => absurd c4 (by omega)) (fun c4 => ?_)
  refine sr_aload_n hA si_46_35 rfl ?_
  refine sr_iconst (v := nI 3) hA si_46_36 (by decide) ?_
  refine sr_VFi (c := 0) (ci := 7) (as := [.int (nI 3)]) (st := []) hA si_46_37 sv_12 sk_46_76 (xc_refuse X g (by omega)) (by omega) rfl (by decide) (by decide) rfl sq_c_12 rfl (Nat.le_of_ble_eq_true rfl) ?_
  exact sr_iretF hA si_46_40 sq_r_46 rfl rfl
set_option maxRecDepth 20000 in
theorem xc_mark_52 (X : sp_X) (g : sp_G) {i : Nat} (hi : i < 6)  {n : Nat} (hn : g.1 18 3 = nI n) (hb : n ≤ 6) (hin : i < n) (hk : g.1 19 i = nI 5) : sp_Ct X 9 46 [.ref 0, .int (nI i), .int (nI 2)] g (sp_Fi (if nI 0 < g.1 42 i - g.1 20 i then g.1 42 i - g.1 20 i else nI 0) g) := by
  refine sp_walkN (n := 3) sq_p_46 sq_l_46 (Nat.le_of_ble_eq_true rfl) (fun a hA => ?_)
  show sp_Ev X a 46 0 [.ref 0, .int (nI i), .int (nI 2)] [] g
  refine sr_aload_n hA si_46_0 rfl ?_
  refine sr_getR (r := 18) hA si_46_1 sf_46_32 (by decide) (by decide) rfl rfl rfl ?_
  refine sr_iload_n hA si_46_4 rfl ?_
  refine sr_VFi (c := 18) (ci := 0) (as := [.int (nI i)]) (st := []) hA si_46_5 sv_43 sk_46_148 (xc_isKey1 X g (n := n) hn (by omega) (by omega)) (by omega) rfl (by decide) (by decide) rfl sq_c_43 rfl (Nat.le_of_ble_eq_true rfl) ?_
  refine sr_if_eqN (tgt := 21) hA si_46_8 (by decide) (by omega) (fun c1 => absurd c1 (by omega)) (fun c1 => ?_)
  refine sr_iload_n hA si_46_11 rfl ?_
  refine sr_iconst (v := nI 1) hA si_46_12 (by decide) ?_
  refine sr_icmp_ltN (tgt := 21) hA si_46_13 (by decide) (by omega) (by omega) (fun c2 => absurd c2 (by omega)) (fun c2 => ?_)
  refine sr_iload_n hA si_46_16 rfl ?_
  refine sr_iconst (v := nI 5) hA si_46_17 (by decide) ?_
  refine sr_icmp_leN (tgt := 23) hA si_46_18 (by decide) (by omega) (by omega) (fun c3 => ?_) (fun c3 => absurd c3 (by omega))
  refine sr_aload_n hA si_46_23 rfl ?_
  refine sr_getR (r := 18) hA si_46_24 sf_46_32 (by decide) (by decide) rfl rfl rfl ?_
  refine sr_iload_n hA si_46_27 rfl ?_
  refine sr_iload_n hA si_46_28 rfl ?_
  refine sr_VFi (c := 18) (ci := 0) (as := [.int (nI i), .int (nI 2)]) (st := []) hA si_46_29 sv_47 sk_46_154 (xc_isOf52 X g (i := i) (by omega) hk) (by omega) rfl (by decide) (by decide) rfl sq_c_47 rfl (Nat.le_of_ble_eq_true rfl) ?_
  refine sr_if_neN (tgt := 41) hA si_46_32 (by decide) (by omega) (fun c4 => ?_) (fun c4 => absurd c4 (by omega))
  refine sr_iload_n hA si_46_41 rfl ?_
  refine sr_tswI (c := nI 2) (tgt := 86) hA si_46_42 rfl (by decide) (by decide) rfl (by decide) ?_
  refine sr_iconst (v := nI 0) hA si_46_86 (by decide) ?_
  refine sr_aload_n hA si_46_87 rfl ?_
  refine sr_getR (r := 41) hA si_46_88 sf_46_36 (by decide) (by decide) rfl rfl rfl ?_
  refine sr_getR (r := 42) hA si_46_91 sf_46_158 (by decide) (by decide) rfl rfl rfl ?_
  refine sr_iload_n hA si_46_94 rfl ?_
  refine sr_ialdNv (v := g.1 42 i) (n := 6) hA si_46_95 (by decide) rfl rfl (by omega) (by decide) rfl ?_
  refine sr_aload_n hA si_46_96 rfl ?_
  refine sr_getR (r := 18) hA si_46_97 sf_46_32 (by decide) (by decide) rfl rfl rfl ?_
  refine sr_getR (r := 20) hA si_46_100 sf_46_166 (by decide) (by decide) rfl rfl rfl ?_
  refine sr_iload_n hA si_46_103 rfl ?_
  refine sr_ialdNv (v := g.1 20 i) (n := 6) hA si_46_104 (by decide) rfl rfl (by omega) (by decide) rfl ?_
  refine sr_isub hA si_46_105 ?_
  refine sr_mmax hA si_46_106 sk_46_169 (by omega) (Nat.le_of_ble_eq_true rfl) ?_
  exact sr_iretF hA si_46_109 sq_r_46 rfl rfl
set_option maxRecDepth 20000 in
theorem xc_mark_r53 (X : sp_X) (g : sp_G) {i : Nat} (hi : i < 6)  {n : Nat} (hn : g.1 18 3 = nI n) (hb : n ≤ 6) (hin : i < n) (hk : g.1 19 i = nI 5) : sp_Ct X 9 46 [.ref 0, .int (nI i), .int (nI 3)] g (sp_Fi (-3) (sp_rx g 3)) := by
  refine sp_walkN (n := 3) sq_p_46 sq_l_46 (Nat.le_of_ble_eq_true rfl) (fun a hA => ?_)
  show sp_Ev X a 46 0 [.ref 0, .int (nI i), .int (nI 3)] [] g
  refine sr_aload_n hA si_46_0 rfl ?_
  refine sr_getR (r := 18) hA si_46_1 sf_46_32 (by decide) (by decide) rfl rfl rfl ?_
  refine sr_iload_n hA si_46_4 rfl ?_
  refine sr_VFi (c := 18) (ci := 0) (as := [.int (nI i)]) (st := []) hA si_46_5 sv_43 sk_46_148 (xc_isKey1 X g (n := n) hn (by omega) (by omega)) (by omega) rfl (by decide) (by decide) rfl sq_c_43 rfl (Nat.le_of_ble_eq_true rfl) ?_
  refine sr_if_eqN (tgt := 21) hA si_46_8 (by decide) (by omega) (fun c1 => absurd c1 (by omega)) (fun c1 => ?_)
  refine sr_iload_n hA si_46_11 rfl ?_
  refine sr_iconst (v := nI 1) hA si_46_12 (by decide) ?_
  refine sr_icmp_ltN (tgt := 21) hA si_46_13 (by decide) (by omega) (by omega) (fun c2 => absurd c2 (by omega)) (fun c2 => ?_)
  refine sr_iload_n hA si_46_16 rfl ?_
  refine sr_iconst (v := nI 5) hA si_46_17 (by decide) ?_
  refine sr_icmp_leN (tgt := 23) hA si_46_18 (by decide) (by omega) (by omega) (fun c3 => ?_) (fun c3 => absurd c3 (by omega))
  refine sr_aload_n hA si_46_23 rfl ?_
  refine sr_getR (r := 18) hA si_46_24 sf_46_32 (by decide) (by decide) rfl rfl rfl ?_
  refine sr_iload_n hA si_46_27 rfl ?_
  refine sr_iload_n hA si_46_28 rfl ?_
  refine sr_VFi (c := 18) (ci := 0) (as := [.int (nI i), .int (nI 3)]) (st := []) hA si_46_29 sv_47 sk_46_154 (xc_isOf53 X g (i := i) (by omega) hk) (by omega) rfl (by decide) (by decide) rfl sq_c_47 rfl (Nat.le_of_ble_eq_true rfl) ?_
  refine sr_if_neN (tgt := 41) hA si_46_32 (by decide) (by omega) (fun c4 => absurd c4 (by omega)) (fun c4 => ?_)
  refine sr_aload_n hA si_46_35 rfl ?_
  refine sr_iconst (v := nI 3) hA si_46_36 (by decide) ?_
  refine sr_VFi (c := 0) (ci := 7) (as := [.int (nI 3)]) (st := []) hA si_46_37 sv_12 sk_46_76 (xc_refuse X g (by omega)) (by omega) rfl (by decide) (by decide) rfl sq_c_12 rfl (Nat.le_of_ble_eq_true rfl) ?_
  exact sr_iretF hA si_46_40 sq_r_46 rfl rfl
set_option maxRecDepth 20000 in
theorem xc_mark_r54 (X : sp_X) (g : sp_G) {i : Nat} (hi : i < 6)  {n : Nat} (hn : g.1 18 3 = nI n) (hb : n ≤ 6) (hin : i < n) (hk : g.1 19 i = nI 5) : sp_Ct X 9 46 [.ref 0, .int (nI i), .int (nI 4)] g (sp_Fi (-3) (sp_rx g 3)) := by
  refine sp_walkN (n := 3) sq_p_46 sq_l_46 (Nat.le_of_ble_eq_true rfl) (fun a hA => ?_)
  show sp_Ev X a 46 0 [.ref 0, .int (nI i), .int (nI 4)] [] g
  refine sr_aload_n hA si_46_0 rfl ?_
  refine sr_getR (r := 18) hA si_46_1 sf_46_32 (by decide) (by decide) rfl rfl rfl ?_
  refine sr_iload_n hA si_46_4 rfl ?_
  refine sr_VFi (c := 18) (ci := 0) (as := [.int (nI i)]) (st := []) hA si_46_5 sv_43 sk_46_148 (xc_isKey1 X g (n := n) hn (by omega) (by omega)) (by omega) rfl (by decide) (by decide) rfl sq_c_43 rfl (Nat.le_of_ble_eq_true rfl) ?_
  refine sr_if_eqN (tgt := 21) hA si_46_8 (by decide) (by omega) (fun c1 => absurd c1 (by omega)) (fun c1 => ?_)
  refine sr_iload_n hA si_46_11 rfl ?_
  refine sr_iconst (v := nI 1) hA si_46_12 (by decide) ?_
  refine sr_icmp_ltN (tgt := 21) hA si_46_13 (by decide) (by omega) (by omega) (fun c2 => absurd c2 (by omega)) (fun c2 => ?_)
  refine sr_iload_n hA si_46_16 rfl ?_
  refine sr_iconst (v := nI 5) hA si_46_17 (by decide) ?_
  refine sr_icmp_leN (tgt := 23) hA si_46_18 (by decide) (by omega) (by omega) (fun c3 => ?_) (fun c3 => absurd c3 (by omega))
  refine sr_aload_n hA si_46_23 rfl ?_
  refine sr_getR (r := 18) hA si_46_24 sf_46_32 (by decide) (by decide) rfl rfl rfl ?_
  refine sr_iload_n hA si_46_27 rfl ?_
  refine sr_iload_n hA si_46_28 rfl ?_
  refine sr_VFi (c := 18) (ci := 0) (as := [.int (nI i), .int (nI 4)]) (st := []) hA si_46_29 sv_47 sk_46_154 (xc_isOf54 X g (i := i) (by omega) hk) (by omega) rfl (by decide) (by decide) rfl sq_c_47 rfl (Nat.le_of_ble_eq_true rfl) ?_
  refine sr_if_neN (tgt := 41) hA si_46_32 (by decide) (by omega) (fun c4 => absurd c4 (by omega)) (fun c4 => ?_)
  refine sr_aload_n hA si_46_35 rfl ?_
  refine sr_iconst (v := nI 3) hA si_46_36 (by decide) ?_
  refine sr_VFi (c := 0) (ci := 7) (as := [.int (nI 3)]) (st := []) hA si_46_37 sv_12 sk_46_76 (xc_refuse X g (by omega)) (by omega) rfl (by decide) (by decide) rfl sq_c_12 rfl (Nat.le_of_ble_eq_true rfl) ?_
  exact sr_iretF hA si_46_40 sq_r_46 rfl rfl
set_option maxRecDepth 20000 in
theorem xc_mark_55 (X : sp_X) (g : sp_G) {i : Nat} (hi : i < 6)  {n : Nat} (hn : g.1 18 3 = nI n) (hb : n ≤ 6) (hin : i < n) (hk : g.1 19 i = nI 5) (hK : sp_kk g 19 n) : sp_Ct X 9 46 [.ref 0, .int (nI i), .int (nI 5)] g (sp_Fi (nI n - nI (sp_pc (sp_st (fun i => sp_cb (g.1 19 i) (g.1 20 i) (g.1 42 i)) n))) g) := by
  refine sp_walkN (n := 3) sq_p_46 sq_l_46 (Nat.le_of_ble_eq_true rfl) (fun a hA => ?_)
  show sp_Ev X a 46 0 [.ref 0, .int (nI i), .int (nI 5)] [] g
  refine sr_aload_n hA si_46_0 rfl ?_
  refine sr_getR (r := 18) hA si_46_1 sf_46_32 (by decide) (by decide) rfl rfl rfl ?_
  refine sr_iload_n hA si_46_4 rfl ?_
  refine sr_VFi (c := 18) (ci := 0) (as := [.int (nI i)]) (st := []) hA si_46_5 sv_43 sk_46_148 (xc_isKey1 X g (n := n) hn (by omega) (by omega)) (by omega) rfl (by decide) (by decide) rfl sq_c_43 rfl (Nat.le_of_ble_eq_true rfl) ?_
  refine sr_if_eqN (tgt := 21) hA si_46_8 (by decide) (by omega) (fun c1 => absurd c1 (by omega)) (fun c1 => ?_)
  refine sr_iload_n hA si_46_11 rfl ?_
  refine sr_iconst (v := nI 1) hA si_46_12 (by decide) ?_
  refine sr_icmp_ltN (tgt := 21) hA si_46_13 (by decide) (by omega) (by omega) (fun c2 => absurd c2 (by omega)) (fun c2 => ?_)
  refine sr_iload_n hA si_46_16 rfl ?_
  refine sr_iconst (v := nI 5) hA si_46_17 (by decide) ?_
  refine sr_icmp_leN (tgt := 23) hA si_46_18 (by decide) (by omega) (by omega) (fun c3 => ?_) (fun c3 => absurd c3 (by omega))
  refine sr_aload_n hA si_46_23 rfl ?_
  refine sr_getR (r := 18) hA si_46_24 sf_46_32 (by decide) (by decide) rfl rfl rfl ?_
  refine sr_iload_n hA si_46_27 rfl ?_
  refine sr_iload_n hA si_46_28 rfl ?_
  refine sr_VFi (c := 18) (ci := 0) (as := [.int (nI i), .int (nI 5)]) (st := []) hA si_46_29 sv_47 sk_46_154 (xc_isOf55 X g (i := i) (by omega) hk) (by omega) rfl (by decide) (by decide) rfl sq_c_47 rfl (Nat.le_of_ble_eq_true rfl) ?_
  refine sr_if_neN (tgt := 41) hA si_46_32 (by decide) (by omega) (fun c4 => ?_) (fun c4 => absurd c4 (by omega))
  refine sr_iload_n hA si_46_41 rfl ?_
  refine sr_tswO (tgt := 138) hA si_46_42 (by decide) (by decide) ?_
  refine sr_aload_n hA si_46_138 rfl ?_
  refine sr_getR (r := 18) hA si_46_139 sf_46_32 (by decide) (by decide) rfl rfl rfl ?_
  refine sr_getIv (v := nI n) hA si_46_142 sf_46_145 (by decide) (by decide) rfl (by decide) hn ?_
  refine sr_aload_n hA si_46_145 rfl ?_
  refine sr_getR (r := 18) hA si_46_146 sf_46_32 (by decide) (by decide) rfl rfl rfl ?_
  refine sr_aload_n hA si_46_149 rfl ?_
  refine sr_getR (r := 41) hA si_46_150 sf_46_36 (by decide) (by decide) rfl rfl rfl ?_
  refine sr_VFi (c := 18) (ci := 0) (as := [.ref 41]) (st := [.int (nI n)]) hA si_46_153 sv_50 sk_46_175 (xc_playable X g sp_sd41 (n := n) hn (by omega) hK) (by omega) rfl (by decide) (by decide) rfl sq_c_50 rfl (Nat.le_of_ble_eq_true rfl) ?_
  refine sr_SFi (as := [.int (nI (sp_st (fun i => sp_cb (g.1 19 i) (g.1 20 i) (g.1 42 i)) n))]) (st := [.int (nI n)]) hA si_46_156 ss_51 sk_46_179 (xc_bitCount X g (sp_st_64 _ (by omega))) (by omega) rfl rfl (Nat.le_of_ble_eq_true rfl) ?_
  refine sr_isub hA si_46_159 ?_
  exact sr_iretF hA si_46_160 sq_r_46 rfl rfl
set_option maxRecDepth 20000 in
theorem mc_mark_a (X : sp_X) (g : sp_G) {i : Int32} (hi : i < 0) (w : Int32) {n : Nat} (hn : g.1 64 11 = nI n) : sp_Ct X 9 166 [.ref 64, .int i, .int w] g (sp_Fi (-1) g) := by
  refine sp_walkN (n := 4) sq_p_166 sq_l_166 (Nat.le_of_ble_eq_true rfl) (fun a hA => ?_)
  show sp_Ev X a 166 0 [.ref 64, .int i, .int w, .null] [] g
  refine sr_aload_n hA si_166_0 rfl ?_
  refine sr_iload_n hA si_166_1 rfl ?_
  refine sr_VFi (c := 64) (ci := 8) (as := [.int i]) (st := []) hA si_166_2 sv_162 sk_166_174 (mc_isKeyM X g (n := n) hn hi) (by omega) rfl (by decide) (by decide) rfl sq_c_162 rfl (Nat.le_of_ble_eq_true rfl) ?_
  refine sr_if_eqN (tgt := 17) hA si_166_5 (by decide) (by omega) (fun c1 => ?_) (fun c1 => absurd c1 (by omega))
  refine sr_iconst (v := (-1)) hA si_166_17 (by decide) ?_
  exact sr_iretF hA si_166_18 sq_r_166 rfl rfl
set_option maxRecDepth 20000 in
theorem mc_mark_b (X : sp_X) (g : sp_G) {i : Nat} (hib : i < 2 ^ 31) (w : Int32) {n : Nat} (hn : g.1 64 11 = nI n) (hb : n ≤ 6) (hi : n ≤ i) : sp_Ct X 9 166 [.ref 64, .int (nI i), .int w] g (sp_Fi (-1) g) := by
  refine sp_walkN (n := 4) sq_p_166 sq_l_166 (Nat.le_of_ble_eq_true rfl) (fun a hA => ?_)
  show sp_Ev X a 166 0 [.ref 64, .int (nI i), .int w, .null] [] g
  refine sr_aload_n hA si_166_0 rfl ?_
  refine sr_iload_n hA si_166_1 rfl ?_
  refine sr_VFi (c := 64) (ci := 8) (as := [.int (nI i)]) (st := []) hA si_166_2 sv_162 sk_166_174 (mc_isKeyH X g (n := n) hn (by omega) (by omega)) (by omega) rfl (by decide) (by decide) rfl sq_c_162 rfl (Nat.le_of_ble_eq_true rfl) ?_
  refine sr_if_eqN (tgt := 17) hA si_166_5 (by decide) (by omega) (fun c1 => ?_) (fun c1 => absurd c1 (by omega))
  refine sr_iconst (v := (-1)) hA si_166_17 (by decide) ?_
  exact sr_iretF hA si_166_18 sq_r_166 rfl rfl
set_option maxRecDepth 20000 in
theorem mc_mark_c (X : sp_X) (g : sp_G) {i : Nat} (hi : i < 6) {w : Int32} (hw : w < 0) {n : Nat} (hn : g.1 64 11 = nI n) (hb : n ≤ 6) (hin : i < n) : sp_Ct X 9 166 [.ref 64, .int (nI i), .int w] g (sp_Fi (-1) g) := by
  refine sp_walkN (n := 4) sq_p_166 sq_l_166 (Nat.le_of_ble_eq_true rfl) (fun a hA => ?_)
  show sp_Ev X a 166 0 [.ref 64, .int (nI i), .int w, .null] [] g
  refine sr_aload_n hA si_166_0 rfl ?_
  refine sr_iload_n hA si_166_1 rfl ?_
  refine sr_VFi (c := 64) (ci := 8) (as := [.int (nI i)]) (st := []) hA si_166_2 sv_162 sk_166_174 (mc_isKey1 X g (n := n) hn (by omega) (by omega)) (by omega) rfl (by decide) (by decide) rfl sq_c_162 rfl (Nat.le_of_ble_eq_true rfl) ?_
  refine sr_if_eqN (tgt := 17) hA si_166_5 (by decide) (by omega) (fun c1 => absurd c1 (by omega)) (fun c1 => ?_)
  refine sr_iload_n hA si_166_8 rfl ?_
  refine sr_iconst (v := nI 1) hA si_166_9 (by decide) ?_
  refine sr_iconst (v := nI 5) hA si_166_10 (by decide) ?_
  refine sr_SFi (as := [.int w, .int (nI 1), .int (nI 5)]) (st := []) hA si_166_11 ss_135 sk_166_83 (mc_inM X g hw (by omega)) (by omega) rfl rfl (Nat.le_of_ble_eq_true rfl) ?_
  refine sr_if_neN (tgt := 19) hA si_166_14 (by decide) (by omega) (fun c2 => absurd c2 (by omega)) (fun c2 => ?_)
  refine sr_iconst (v := (-1)) hA si_166_17 (by decide) ?_
  exact sr_iretF hA si_166_18 sq_r_166 rfl rfl
set_option maxRecDepth 20000 in
theorem mc_mark_c0 (X : sp_X) (g : sp_G) {i : Nat} (hi : i < 6)  {n : Nat} (hn : g.1 64 11 = nI n) (hb : n ≤ 6) (hin : i < n) : sp_Ct X 9 166 [.ref 64, .int (nI i), .int (nI 0)] g (sp_Fi (-1) g) := by
  refine sp_walkN (n := 4) sq_p_166 sq_l_166 (Nat.le_of_ble_eq_true rfl) (fun a hA => ?_)
  show sp_Ev X a 166 0 [.ref 64, .int (nI i), .int (nI 0), .null] [] g
  refine sr_aload_n hA si_166_0 rfl ?_
  refine sr_iload_n hA si_166_1 rfl ?_
  refine sr_VFi (c := 64) (ci := 8) (as := [.int (nI i)]) (st := []) hA si_166_2 sv_162 sk_166_174 (mc_isKey1 X g (n := n) hn (by omega) (by omega)) (by omega) rfl (by decide) (by decide) rfl sq_c_162 rfl (Nat.le_of_ble_eq_true rfl) ?_
  refine sr_if_eqN (tgt := 17) hA si_166_5 (by decide) (by omega) (fun c1 => absurd c1 (by omega)) (fun c1 => ?_)
  refine sr_iload_n hA si_166_8 rfl ?_
  refine sr_iconst (v := nI 1) hA si_166_9 (by decide) ?_
  refine sr_iconst (v := nI 5) hA si_166_10 (by decide) ?_
  refine sr_SFi (as := [.int (nI 0), .int (nI 1), .int (nI 5)]) (st := []) hA si_166_11 ss_135 sk_166_83 (mc_inL X g (by omega) (by omega)) (by omega) rfl rfl (Nat.le_of_ble_eq_true rfl) ?_
  refine sr_if_neN (tgt := 19) hA si_166_14 (by decide) (by omega) (fun c2 => absurd c2 (by omega)) (fun c2 => ?_)
  refine sr_iconst (v := (-1)) hA si_166_17 (by decide) ?_
  exact sr_iretF hA si_166_18 sq_r_166 rfl rfl
set_option maxRecDepth 20000 in
theorem mc_mark_d (X : sp_X) (g : sp_G) {i : Nat} (hi : i < 6) {w : Nat} (hw : 6 ≤ w) (hwb : w < 2 ^ 31) {n : Nat} (hn : g.1 64 11 = nI n) (hb : n ≤ 6) (hin : i < n) : sp_Ct X 9 166 [.ref 64, .int (nI i), .int (nI w)] g (sp_Fi (-1) g) := by
  refine sp_walkN (n := 4) sq_p_166 sq_l_166 (Nat.le_of_ble_eq_true rfl) (fun a hA => ?_)
  show sp_Ev X a 166 0 [.ref 64, .int (nI i), .int (nI w), .null] [] g
  refine sr_aload_n hA si_166_0 rfl ?_
  refine sr_iload_n hA si_166_1 rfl ?_
  refine sr_VFi (c := 64) (ci := 8) (as := [.int (nI i)]) (st := []) hA si_166_2 sv_162 sk_166_174 (mc_isKey1 X g (n := n) hn (by omega) (by omega)) (by omega) rfl (by decide) (by decide) rfl sq_c_162 rfl (Nat.le_of_ble_eq_true rfl) ?_
  refine sr_if_eqN (tgt := 17) hA si_166_5 (by decide) (by omega) (fun c1 => absurd c1 (by omega)) (fun c1 => ?_)
  refine sr_iload_n hA si_166_8 rfl ?_
  refine sr_iconst (v := nI 1) hA si_166_9 (by decide) ?_
  refine sr_iconst (v := nI 5) hA si_166_10 (by decide) ?_
  refine sr_SFi (as := [.int (nI w), .int (nI 1), .int (nI 5)]) (st := []) hA si_166_11 ss_135 sk_166_83 (mc_inH X g (by omega) (by omega)) (by omega) rfl rfl (Nat.le_of_ble_eq_true rfl) ?_
  refine sr_if_neN (tgt := 19) hA si_166_14 (by decide) (by omega) (fun c2 => absurd c2 (by omega)) (fun c2 => ?_)
  refine sr_iconst (v := (-1)) hA si_166_17 (by decide) ?_
  exact sr_iretF hA si_166_18 sq_r_166 rfl rfl
set_option maxRecDepth 20000 in
theorem mc_mark_r01 (X : sp_X) (g : sp_G) {i : Nat} (hi : i < 6)  {n : Nat} (hn : g.1 64 11 = nI n) (hb : n ≤ 6) (hin : i < n) (hk : g.1 71 i = nI 0) : sp_Ct X 9 166 [.ref 64, .int (nI i), .int (nI 1)] g (sp_Fi (-3) (sp_rm6 g 3)) := by
  refine sp_walkN (n := 4) sq_p_166 sq_l_166 (Nat.le_of_ble_eq_true rfl) (fun a hA => ?_)
  show sp_Ev X a 166 0 [.ref 64, .int (nI i), .int (nI 1), .null] [] g
  refine sr_aload_n hA si_166_0 rfl ?_
  refine sr_iload_n hA si_166_1 rfl ?_
  refine sr_VFi (c := 64) (ci := 8) (as := [.int (nI i)]) (st := []) hA si_166_2 sv_162 sk_166_174 (mc_isKey1 X g (n := n) hn (by omega) (by omega)) (by omega) rfl (by decide) (by decide) rfl sq_c_162 rfl (Nat.le_of_ble_eq_true rfl) ?_
  refine sr_if_eqN (tgt := 17) hA si_166_5 (by decide) (by omega) (fun c1 => absurd c1 (by omega)) (fun c1 => ?_)
  refine sr_iload_n hA si_166_8 rfl ?_
  refine sr_iconst (v := nI 1) hA si_166_9 (by decide) ?_
  refine sr_iconst (v := nI 5) hA si_166_10 (by decide) ?_
  refine sr_SFi (as := [.int (nI 1), .int (nI 1), .int (nI 5)]) (st := []) hA si_166_11 ss_135 sk_166_83 (mc_inN X g (by omega) (by omega) (by omega)) (by omega) rfl rfl (Nat.le_of_ble_eq_true rfl) ?_
  refine sr_if_neN (tgt := 19) hA si_166_14 (by decide) (by omega) (fun c2 => ?_) (fun c2 => absurd c2 (by omega))
  refine sr_aload_n hA si_166_19 rfl ?_
  refine sr_getR (r := 71) hA si_166_20 sf_166_33 (by decide) (by decide) rfl rfl rfl ?_
  refine sr_iload_n hA si_166_23 rfl ?_
  refine sr_ialdNv (v := nI 0) (n := 6) hA si_166_24 (by decide) rfl rfl (by omega) (by decide) hk ?_
  refine sr_istore_n (ls1 := [.ref 64, .int (nI i), .int (nI 1), .int (nI 0)]) hA si_166_25 rfl (by rw [sq_l_166]; decide) rfl ?_
  refine sr_iload_n hA si_166_26 rfl ?_
  refine sr_iload_n hA si_166_27 rfl ?_
  refine sr_icmp_eqN (tgt := 57) hA si_166_28 (by decide) (by omega) (by omega) (fun c3 => absurd c3 (by omega)) (fun c3 => ?_)
  refine sr_iload_n hA si_166_31 rfl ?_
  refine sr_iconst (v := nI 1) hA si_166_32 (by decide) ?_
  refine sr_icmp_neN (tgt := 41) hA si_166_33 (by decide) (by omega) (by omega) (fun c4 => absurd c4 (by omega)) (fun c4 => ?_)
  refine sr_iload_n hA si_166_36 rfl ?_
  refine sr_iconst (v := nI 4) hA si_166_37 (by decide) ?_
  refine sr_icmp_eqN (tgt := 57) hA si_166_38 (by decide) (by omega) (by omega) (fun c5 => absurd c5 (by omega)) (fun c5 => ?_)
  refine sr_iload_n hA si_166_41 rfl ?_
  refine sr_iconst (v := nI 2) hA si_166_42 (by decide) ?_
  refine sr_icmp_neN (tgt := 51) hA si_166_43 (by decide) (by omega) (by omega) (fun c6 => ?_) (fun c6 => absurd c6 (by omega))
  refine sr_aload_n hA si_166_51 rfl ?_
  refine sr_iconst (v := nI 3) hA si_166_52 (by decide) ?_
  refine sr_VFi (c := 64) (ci := 8) (as := [.int (nI 3)]) (st := []) hA si_166_53 sv_141 sk_166_97 (mc_meets X g (by omega)) (by omega) rfl (by decide) (by decide) rfl sq_c_141 rfl (Nat.le_of_ble_eq_true rfl) ?_
  exact sr_iretF hA si_166_56 sq_r_166 rfl rfl
set_option maxRecDepth 20000 in
theorem mc_mark_r02 (X : sp_X) (g : sp_G) {i : Nat} (hi : i < 6)  {n : Nat} (hn : g.1 64 11 = nI n) (hb : n ≤ 6) (hin : i < n) (hk : g.1 71 i = nI 0) : sp_Ct X 9 166 [.ref 64, .int (nI i), .int (nI 2)] g (sp_Fi (-3) (sp_rm6 g 3)) := by
  refine sp_walkN (n := 4) sq_p_166 sq_l_166 (Nat.le_of_ble_eq_true rfl) (fun a hA => ?_)
  show sp_Ev X a 166 0 [.ref 64, .int (nI i), .int (nI 2), .null] [] g
  refine sr_aload_n hA si_166_0 rfl ?_
  refine sr_iload_n hA si_166_1 rfl ?_
  refine sr_VFi (c := 64) (ci := 8) (as := [.int (nI i)]) (st := []) hA si_166_2 sv_162 sk_166_174 (mc_isKey1 X g (n := n) hn (by omega) (by omega)) (by omega) rfl (by decide) (by decide) rfl sq_c_162 rfl (Nat.le_of_ble_eq_true rfl) ?_
  refine sr_if_eqN (tgt := 17) hA si_166_5 (by decide) (by omega) (fun c1 => absurd c1 (by omega)) (fun c1 => ?_)
  refine sr_iload_n hA si_166_8 rfl ?_
  refine sr_iconst (v := nI 1) hA si_166_9 (by decide) ?_
  refine sr_iconst (v := nI 5) hA si_166_10 (by decide) ?_
  refine sr_SFi (as := [.int (nI 2), .int (nI 1), .int (nI 5)]) (st := []) hA si_166_11 ss_135 sk_166_83 (mc_inN X g (by omega) (by omega) (by omega)) (by omega) rfl rfl (Nat.le_of_ble_eq_true rfl) ?_
  refine sr_if_neN (tgt := 19) hA si_166_14 (by decide) (by omega) (fun c2 => ?_) (fun c2 => absurd c2 (by omega))
  refine sr_aload_n hA si_166_19 rfl ?_
  refine sr_getR (r := 71) hA si_166_20 sf_166_33 (by decide) (by decide) rfl rfl rfl ?_
  refine sr_iload_n hA si_166_23 rfl ?_
  refine sr_ialdNv (v := nI 0) (n := 6) hA si_166_24 (by decide) rfl rfl (by omega) (by decide) hk ?_
  refine sr_istore_n (ls1 := [.ref 64, .int (nI i), .int (nI 2), .int (nI 0)]) hA si_166_25 rfl (by rw [sq_l_166]; decide) rfl ?_
  refine sr_iload_n hA si_166_26 rfl ?_
  refine sr_iload_n hA si_166_27 rfl ?_
  refine sr_icmp_eqN (tgt := 57) hA si_166_28 (by decide) (by omega) (by omega) (fun c3 => absurd c3 (by omega)) (fun c3 => ?_)
  refine sr_iload_n hA si_166_31 rfl ?_
  refine sr_iconst (v := nI 1) hA si_166_32 (by decide) ?_
  refine sr_icmp_neN (tgt := 41) hA si_166_33 (by decide) (by omega) (by omega) (fun c4 => ?_) (fun c4 => absurd c4 (by omega))
  refine sr_iload_n hA si_166_41 rfl ?_
  refine sr_iconst (v := nI 2) hA si_166_42 (by decide) ?_
  refine sr_icmp_neN (tgt := 51) hA si_166_43 (by decide) (by omega) (by omega) (fun c5 => absurd c5 (by omega)) (fun c5 => ?_)
  refine sr_iload_n hA si_166_46 rfl ?_
  refine sr_iconst (v := nI 5) hA si_166_47 (by decide) ?_
  refine sr_icmp_eqN (tgt := 57) hA si_166_48 (by decide) (by omega) (by omega) (fun c6 => absurd c6 (by omega)) (fun c6 => ?_)
  refine sr_aload_n hA si_166_51 rfl ?_
  refine sr_iconst (v := nI 3) hA si_166_52 (by decide) ?_
  refine sr_VFi (c := 64) (ci := 8) (as := [.int (nI 3)]) (st := []) hA si_166_53 sv_141 sk_166_97 (mc_meets X g (by omega)) (by omega) rfl (by decide) (by decide) rfl sq_c_141 rfl (Nat.le_of_ble_eq_true rfl) ?_
  exact sr_iretF hA si_166_56 sq_r_166 rfl rfl
set_option maxRecDepth 20000 in
theorem mc_mark_r03 (X : sp_X) (g : sp_G) {i : Nat} (hi : i < 6)  {n : Nat} (hn : g.1 64 11 = nI n) (hb : n ≤ 6) (hin : i < n) (hk : g.1 71 i = nI 0) : sp_Ct X 9 166 [.ref 64, .int (nI i), .int (nI 3)] g (sp_Fi (-3) (sp_rm6 g 3)) := by
  refine sp_walkN (n := 4) sq_p_166 sq_l_166 (Nat.le_of_ble_eq_true rfl) (fun a hA => ?_)
  show sp_Ev X a 166 0 [.ref 64, .int (nI i), .int (nI 3), .null] [] g
  refine sr_aload_n hA si_166_0 rfl ?_
  refine sr_iload_n hA si_166_1 rfl ?_
  refine sr_VFi (c := 64) (ci := 8) (as := [.int (nI i)]) (st := []) hA si_166_2 sv_162 sk_166_174 (mc_isKey1 X g (n := n) hn (by omega) (by omega)) (by omega) rfl (by decide) (by decide) rfl sq_c_162 rfl (Nat.le_of_ble_eq_true rfl) ?_
  refine sr_if_eqN (tgt := 17) hA si_166_5 (by decide) (by omega) (fun c1 => absurd c1 (by omega)) (fun c1 => ?_)
  refine sr_iload_n hA si_166_8 rfl ?_
  refine sr_iconst (v := nI 1) hA si_166_9 (by decide) ?_
  refine sr_iconst (v := nI 5) hA si_166_10 (by decide) ?_
  refine sr_SFi (as := [.int (nI 3), .int (nI 1), .int (nI 5)]) (st := []) hA si_166_11 ss_135 sk_166_83 (mc_inN X g (by omega) (by omega) (by omega)) (by omega) rfl rfl (Nat.le_of_ble_eq_true rfl) ?_
  refine sr_if_neN (tgt := 19) hA si_166_14 (by decide) (by omega) (fun c2 => ?_) (fun c2 => absurd c2 (by omega))
  refine sr_aload_n hA si_166_19 rfl ?_
  refine sr_getR (r := 71) hA si_166_20 sf_166_33 (by decide) (by decide) rfl rfl rfl ?_
  refine sr_iload_n hA si_166_23 rfl ?_
  refine sr_ialdNv (v := nI 0) (n := 6) hA si_166_24 (by decide) rfl rfl (by omega) (by decide) hk ?_
  refine sr_istore_n (ls1 := [.ref 64, .int (nI i), .int (nI 3), .int (nI 0)]) hA si_166_25 rfl (by rw [sq_l_166]; decide) rfl ?_
  refine sr_iload_n hA si_166_26 rfl ?_
  refine sr_iload_n hA si_166_27 rfl ?_
  refine sr_icmp_eqN (tgt := 57) hA si_166_28 (by decide) (by omega) (by omega) (fun c3 => absurd c3 (by omega)) (fun c3 => ?_)
  refine sr_iload_n hA si_166_31 rfl ?_
  refine sr_iconst (v := nI 1) hA si_166_32 (by decide) ?_
  refine sr_icmp_neN (tgt := 41) hA si_166_33 (by decide) (by omega) (by omega) (fun c4 => ?_) (fun c4 => absurd c4 (by omega))
  refine sr_iload_n hA si_166_41 rfl ?_
  refine sr_iconst (v := nI 2) hA si_166_42 (by decide) ?_
  refine sr_icmp_neN (tgt := 51) hA si_166_43 (by decide) (by omega) (by omega) (fun c5 => ?_) (fun c5 => absurd c5 (by omega))
  refine sr_aload_n hA si_166_51 rfl ?_
  refine sr_iconst (v := nI 3) hA si_166_52 (by decide) ?_
  refine sr_VFi (c := 64) (ci := 8) (as := [.int (nI 3)]) (st := []) hA si_166_53 sv_141 sk_166_97 (mc_meets X g (by omega)) (by omega) rfl (by decide) (by decide) rfl sq_c_141 rfl (Nat.le_of_ble_eq_true rfl) ?_
  exact sr_iretF hA si_166_56 sq_r_166 rfl rfl
set_option maxRecDepth 20000 in
theorem mc_mark_r04 (X : sp_X) (g : sp_G) {i : Nat} (hi : i < 6)  {n : Nat} (hn : g.1 64 11 = nI n) (hb : n ≤ 6) (hin : i < n) (hk : g.1 71 i = nI 0) : sp_Ct X 9 166 [.ref 64, .int (nI i), .int (nI 4)] g (sp_Fi (-3) (sp_rm6 g 3)) := by
  refine sp_walkN (n := 4) sq_p_166 sq_l_166 (Nat.le_of_ble_eq_true rfl) (fun a hA => ?_)
  show sp_Ev X a 166 0 [.ref 64, .int (nI i), .int (nI 4), .null] [] g
  refine sr_aload_n hA si_166_0 rfl ?_
  refine sr_iload_n hA si_166_1 rfl ?_
  refine sr_VFi (c := 64) (ci := 8) (as := [.int (nI i)]) (st := []) hA si_166_2 sv_162 sk_166_174 (mc_isKey1 X g (n := n) hn (by omega) (by omega)) (by omega) rfl (by decide) (by decide) rfl sq_c_162 rfl (Nat.le_of_ble_eq_true rfl) ?_
  refine sr_if_eqN (tgt := 17) hA si_166_5 (by decide) (by omega) (fun c1 => absurd c1 (by omega)) (fun c1 => ?_)
  refine sr_iload_n hA si_166_8 rfl ?_
  refine sr_iconst (v := nI 1) hA si_166_9 (by decide) ?_
  refine sr_iconst (v := nI 5) hA si_166_10 (by decide) ?_
  refine sr_SFi (as := [.int (nI 4), .int (nI 1), .int (nI 5)]) (st := []) hA si_166_11 ss_135 sk_166_83 (mc_inN X g (by omega) (by omega) (by omega)) (by omega) rfl rfl (Nat.le_of_ble_eq_true rfl) ?_
  refine sr_if_neN (tgt := 19) hA si_166_14 (by decide) (by omega) (fun c2 => ?_) (fun c2 => absurd c2 (by omega))
  refine sr_aload_n hA si_166_19 rfl ?_
  refine sr_getR (r := 71) hA si_166_20 sf_166_33 (by decide) (by decide) rfl rfl rfl ?_
  refine sr_iload_n hA si_166_23 rfl ?_
  refine sr_ialdNv (v := nI 0) (n := 6) hA si_166_24 (by decide) rfl rfl (by omega) (by decide) hk ?_
  refine sr_istore_n (ls1 := [.ref 64, .int (nI i), .int (nI 4), .int (nI 0)]) hA si_166_25 rfl (by rw [sq_l_166]; decide) rfl ?_
  refine sr_iload_n hA si_166_26 rfl ?_
  refine sr_iload_n hA si_166_27 rfl ?_
  refine sr_icmp_eqN (tgt := 57) hA si_166_28 (by decide) (by omega) (by omega) (fun c3 => absurd c3 (by omega)) (fun c3 => ?_)
  refine sr_iload_n hA si_166_31 rfl ?_
  refine sr_iconst (v := nI 1) hA si_166_32 (by decide) ?_
  refine sr_icmp_neN (tgt := 41) hA si_166_33 (by decide) (by omega) (by omega) (fun c4 => ?_) (fun c4 => absurd c4 (by omega))
  refine sr_iload_n hA si_166_41 rfl ?_
  refine sr_iconst (v := nI 2) hA si_166_42 (by decide) ?_
  refine sr_icmp_neN (tgt := 51) hA si_166_43 (by decide) (by omega) (by omega) (fun c5 => ?_) (fun c5 => absurd c5 (by omega))
  refine sr_aload_n hA si_166_51 rfl ?_
  refine sr_iconst (v := nI 3) hA si_166_52 (by decide) ?_
  refine sr_VFi (c := 64) (ci := 8) (as := [.int (nI 3)]) (st := []) hA si_166_53 sv_141 sk_166_97 (mc_meets X g (by omega)) (by omega) rfl (by decide) (by decide) rfl sq_c_141 rfl (Nat.le_of_ble_eq_true rfl) ?_
  exact sr_iretF hA si_166_56 sq_r_166 rfl rfl
set_option maxRecDepth 20000 in
theorem mc_mark_r05 (X : sp_X) (g : sp_G) {i : Nat} (hi : i < 6)  {n : Nat} (hn : g.1 64 11 = nI n) (hb : n ≤ 6) (hin : i < n) (hk : g.1 71 i = nI 0) : sp_Ct X 9 166 [.ref 64, .int (nI i), .int (nI 5)] g (sp_Fi (-3) (sp_rm6 g 3)) := by
  refine sp_walkN (n := 4) sq_p_166 sq_l_166 (Nat.le_of_ble_eq_true rfl) (fun a hA => ?_)
  show sp_Ev X a 166 0 [.ref 64, .int (nI i), .int (nI 5), .null] [] g
  refine sr_aload_n hA si_166_0 rfl ?_
  refine sr_iload_n hA si_166_1 rfl ?_
  refine sr_VFi (c := 64) (ci := 8) (as := [.int (nI i)]) (st := []) hA si_166_2 sv_162 sk_166_174 (mc_isKey1 X g (n := n) hn (by omega) (by omega)) (by omega) rfl (by decide) (by decide) rfl sq_c_162 rfl (Nat.le_of_ble_eq_true rfl) ?_
  refine sr_if_eqN (tgt := 17) hA si_166_5 (by decide) (by omega) (fun c1 => absurd c1 (by omega)) (fun c1 => ?_)
  refine sr_iload_n hA si_166_8 rfl ?_
  refine sr_iconst (v := nI 1) hA si_166_9 (by decide) ?_
  refine sr_iconst (v := nI 5) hA si_166_10 (by decide) ?_
  refine sr_SFi (as := [.int (nI 5), .int (nI 1), .int (nI 5)]) (st := []) hA si_166_11 ss_135 sk_166_83 (mc_inN X g (by omega) (by omega) (by omega)) (by omega) rfl rfl (Nat.le_of_ble_eq_true rfl) ?_
  refine sr_if_neN (tgt := 19) hA si_166_14 (by decide) (by omega) (fun c2 => ?_) (fun c2 => absurd c2 (by omega))
  refine sr_aload_n hA si_166_19 rfl ?_
  refine sr_getR (r := 71) hA si_166_20 sf_166_33 (by decide) (by decide) rfl rfl rfl ?_
  refine sr_iload_n hA si_166_23 rfl ?_
  refine sr_ialdNv (v := nI 0) (n := 6) hA si_166_24 (by decide) rfl rfl (by omega) (by decide) hk ?_
  refine sr_istore_n (ls1 := [.ref 64, .int (nI i), .int (nI 5), .int (nI 0)]) hA si_166_25 rfl (by rw [sq_l_166]; decide) rfl ?_
  refine sr_iload_n hA si_166_26 rfl ?_
  refine sr_iload_n hA si_166_27 rfl ?_
  refine sr_icmp_eqN (tgt := 57) hA si_166_28 (by decide) (by omega) (by omega) (fun c3 => absurd c3 (by omega)) (fun c3 => ?_)
  refine sr_iload_n hA si_166_31 rfl ?_
  refine sr_iconst (v := nI 1) hA si_166_32 (by decide) ?_
  refine sr_icmp_neN (tgt := 41) hA si_166_33 (by decide) (by omega) (by omega) (fun c4 => ?_) (fun c4 => absurd c4 (by omega))
  refine sr_iload_n hA si_166_41 rfl ?_
  refine sr_iconst (v := nI 2) hA si_166_42 (by decide) ?_
  refine sr_icmp_neN (tgt := 51) hA si_166_43 (by decide) (by omega) (by omega) (fun c5 => ?_) (fun c5 => absurd c5 (by omega))
  refine sr_aload_n hA si_166_51 rfl ?_
  refine sr_iconst (v := nI 3) hA si_166_52 (by decide) ?_
  refine sr_VFi (c := 64) (ci := 8) (as := [.int (nI 3)]) (st := []) hA si_166_53 sv_141 sk_166_97 (mc_meets X g (by omega)) (by omega) rfl (by decide) (by decide) rfl sq_c_141 rfl (Nat.le_of_ble_eq_true rfl) ?_
  exact sr_iretF hA si_166_56 sq_r_166 rfl rfl
set_option maxRecDepth 20000 in
theorem mc_mark_11 (X : sp_X) (g : sp_G) {i : Nat} (hi : i < 6)  {n : Nat} (hn : g.1 64 11 = nI n) (hb : n ≤ 6) (hin : i < n) (hk : g.1 71 i = nI 1) : sp_Ct X 9 166 [.ref 64, .int (nI i), .int (nI 1)] g (sp_Fi (if nI 2 < g.1 75 (9 * 0 + i) then nI 2 else g.1 75 (9 * 0 + i)) g) := by
  refine sp_walkN (n := 4) sq_p_166 sq_l_166 (Nat.le_of_ble_eq_true rfl) (fun a hA => ?_)
  show sp_Ev X a 166 0 [.ref 64, .int (nI i), .int (nI 1), .null] [] g
  refine sr_aload_n hA si_166_0 rfl ?_
  refine sr_iload_n hA si_166_1 rfl ?_
  refine sr_VFi (c := 64) (ci := 8) (as := [.int (nI i)]) (st := []) hA si_166_2 sv_162 sk_166_174 (mc_isKey1 X g (n := n) hn (by omega) (by omega)) (by omega) rfl (by decide) (by decide) rfl sq_c_162 rfl (Nat.le_of_ble_eq_true rfl) ?_
  refine sr_if_eqN (tgt := 17) hA si_166_5 (by decide) (by omega) (fun c1 => absurd c1 (by omega)) (fun c1 => ?_)
  refine sr_iload_n hA si_166_8 rfl ?_
  refine sr_iconst (v := nI 1) hA si_166_9 (by decide) ?_
  refine sr_iconst (v := nI 5) hA si_166_10 (by decide) ?_
  refine sr_SFi (as := [.int (nI 1), .int (nI 1), .int (nI 5)]) (st := []) hA si_166_11 ss_135 sk_166_83 (mc_inN X g (by omega) (by omega) (by omega)) (by omega) rfl rfl (Nat.le_of_ble_eq_true rfl) ?_
  refine sr_if_neN (tgt := 19) hA si_166_14 (by decide) (by omega) (fun c2 => ?_) (fun c2 => absurd c2 (by omega))
  refine sr_aload_n hA si_166_19 rfl ?_
  refine sr_getR (r := 71) hA si_166_20 sf_166_33 (by decide) (by decide) rfl rfl rfl ?_
  refine sr_iload_n hA si_166_23 rfl ?_
  refine sr_ialdNv (v := nI 1) (n := 6) hA si_166_24 (by decide) rfl rfl (by omega) (by decide) hk ?_
  refine sr_istore_n (ls1 := [.ref 64, .int (nI i), .int (nI 1), .int (nI 1)]) hA si_166_25 rfl (by rw [sq_l_166]; decide) rfl ?_
  refine sr_iload_n hA si_166_26 rfl ?_
  refine sr_iload_n hA si_166_27 rfl ?_
  refine sr_icmp_eqN (tgt := 57) hA si_166_28 (by decide) (by omega) (by omega) (fun c3 => ?_) (fun c3 => absurd c3 (by omega))
  refine sr_iload_n hA si_166_57 rfl ?_
  refine sr_tswI (c := nI 1) (tgt := 88) hA si_166_58 rfl (by decide) (by decide) rfl (by decide) ?_
  refine sr_iconst (v := nI 2) hA si_166_88 (by decide) ?_
  refine sr_aload_n hA si_166_89 rfl ?_
  refine sr_iconst (v := nI 0) hA si_166_90 (by decide) ?_
  refine sr_iload_n hA si_166_91 rfl ?_
  refine sr_VFi (c := 64) (ci := 8) (as := [.int (nI 0), .int (nI i)]) (st := [.int (nI 2)]) hA si_166_92 sv_164 sk_166_152 (mc_v X g (f := 0) (i := i) (by omega)) (by omega) rfl (by decide) (by decide) rfl sq_c_164 rfl (Nat.le_of_ble_eq_true rfl) ?_
  refine sr_SFi (as := [.int (nI 2), .int (g.1 75 (9 * 0 + i))]) (st := []) hA si_166_95 ss_167 sk_166_158 (mc_lesser X g (nI 2) (g.1 75 (9 * 0 + i))) (by omega) rfl rfl (Nat.le_of_ble_eq_true rfl) ?_
  exact sr_iretF hA si_166_98 sq_r_166 rfl rfl
set_option maxRecDepth 20000 in
theorem mc_mark_r12 (X : sp_X) (g : sp_G) {i : Nat} (hi : i < 6)  {n : Nat} (hn : g.1 64 11 = nI n) (hb : n ≤ 6) (hin : i < n) (hk : g.1 71 i = nI 1) : sp_Ct X 9 166 [.ref 64, .int (nI i), .int (nI 2)] g (sp_Fi (-3) (sp_rm6 g 3)) := by
  refine sp_walkN (n := 4) sq_p_166 sq_l_166 (Nat.le_of_ble_eq_true rfl) (fun a hA => ?_)
  show sp_Ev X a 166 0 [.ref 64, .int (nI i), .int (nI 2), .null] [] g
  refine sr_aload_n hA si_166_0 rfl ?_
  refine sr_iload_n hA si_166_1 rfl ?_
  refine sr_VFi (c := 64) (ci := 8) (as := [.int (nI i)]) (st := []) hA si_166_2 sv_162 sk_166_174 (mc_isKey1 X g (n := n) hn (by omega) (by omega)) (by omega) rfl (by decide) (by decide) rfl sq_c_162 rfl (Nat.le_of_ble_eq_true rfl) ?_
  refine sr_if_eqN (tgt := 17) hA si_166_5 (by decide) (by omega) (fun c1 => absurd c1 (by omega)) (fun c1 => ?_)
  refine sr_iload_n hA si_166_8 rfl ?_
  refine sr_iconst (v := nI 1) hA si_166_9 (by decide) ?_
  refine sr_iconst (v := nI 5) hA si_166_10 (by decide) ?_
  refine sr_SFi (as := [.int (nI 2), .int (nI 1), .int (nI 5)]) (st := []) hA si_166_11 ss_135 sk_166_83 (mc_inN X g (by omega) (by omega) (by omega)) (by omega) rfl rfl (Nat.le_of_ble_eq_true rfl) ?_
  refine sr_if_neN (tgt := 19) hA si_166_14 (by decide) (by omega) (fun c2 => ?_) (fun c2 => absurd c2 (by omega))
  refine sr_aload_n hA si_166_19 rfl ?_
  refine sr_getR (r := 71) hA si_166_20 sf_166_33 (by decide) (by decide) rfl rfl rfl ?_
  refine sr_iload_n hA si_166_23 rfl ?_
  refine sr_ialdNv (v := nI 1) (n := 6) hA si_166_24 (by decide) rfl rfl (by omega) (by decide) hk ?_
  refine sr_istore_n (ls1 := [.ref 64, .int (nI i), .int (nI 2), .int (nI 1)]) hA si_166_25 rfl (by rw [sq_l_166]; decide) rfl ?_
  refine sr_iload_n hA si_166_26 rfl ?_
  refine sr_iload_n hA si_166_27 rfl ?_
  refine sr_icmp_eqN (tgt := 57) hA si_166_28 (by decide) (by omega) (by omega) (fun c3 => absurd c3 (by omega)) (fun c3 => ?_)
  refine sr_iload_n hA si_166_31 rfl ?_
  refine sr_iconst (v := nI 1) hA si_166_32 (by decide) ?_
  refine sr_icmp_neN (tgt := 41) hA si_166_33 (by decide) (by omega) (by omega) (fun c4 => ?_) (fun c4 => absurd c4 (by omega))
  refine sr_iload_n hA si_166_41 rfl ?_
  refine sr_iconst (v := nI 2) hA si_166_42 (by decide) ?_
  refine sr_icmp_neN (tgt := 51) hA si_166_43 (by decide) (by omega) (by omega) (fun c5 => absurd c5 (by omega)) (fun c5 => ?_)
  refine sr_iload_n hA si_166_46 rfl ?_
  refine sr_iconst (v := nI 5) hA si_166_47 (by decide) ?_
  refine sr_icmp_eqN (tgt := 57) hA si_166_48 (by decide) (by omega) (by omega) (fun c6 => absurd c6 (by omega)) (fun c6 => ?_)
  refine sr_aload_n hA si_166_51 rfl ?_
  refine sr_iconst (v := nI 3) hA si_166_52 (by decide) ?_
  refine sr_VFi (c := 64) (ci := 8) (as := [.int (nI 3)]) (st := []) hA si_166_53 sv_141 sk_166_97 (mc_meets X g (by omega)) (by omega) rfl (by decide) (by decide) rfl sq_c_141 rfl (Nat.le_of_ble_eq_true rfl) ?_
  exact sr_iretF hA si_166_56 sq_r_166 rfl rfl
set_option maxRecDepth 20000 in
theorem mc_mark_r13 (X : sp_X) (g : sp_G) {i : Nat} (hi : i < 6)  {n : Nat} (hn : g.1 64 11 = nI n) (hb : n ≤ 6) (hin : i < n) (hk : g.1 71 i = nI 1) : sp_Ct X 9 166 [.ref 64, .int (nI i), .int (nI 3)] g (sp_Fi (-3) (sp_rm6 g 3)) := by
  refine sp_walkN (n := 4) sq_p_166 sq_l_166 (Nat.le_of_ble_eq_true rfl) (fun a hA => ?_)
  show sp_Ev X a 166 0 [.ref 64, .int (nI i), .int (nI 3), .null] [] g
  refine sr_aload_n hA si_166_0 rfl ?_
  refine sr_iload_n hA si_166_1 rfl ?_
  refine sr_VFi (c := 64) (ci := 8) (as := [.int (nI i)]) (st := []) hA si_166_2 sv_162 sk_166_174 (mc_isKey1 X g (n := n) hn (by omega) (by omega)) (by omega) rfl (by decide) (by decide) rfl sq_c_162 rfl (Nat.le_of_ble_eq_true rfl) ?_
  refine sr_if_eqN (tgt := 17) hA si_166_5 (by decide) (by omega) (fun c1 => absurd c1 (by omega)) (fun c1 => ?_)
  refine sr_iload_n hA si_166_8 rfl ?_
  refine sr_iconst (v := nI 1) hA si_166_9 (by decide) ?_
  refine sr_iconst (v := nI 5) hA si_166_10 (by decide) ?_
  refine sr_SFi (as := [.int (nI 3), .int (nI 1), .int (nI 5)]) (st := []) hA si_166_11 ss_135 sk_166_83 (mc_inN X g (by omega) (by omega) (by omega)) (by omega) rfl rfl (Nat.le_of_ble_eq_true rfl) ?_
  refine sr_if_neN (tgt := 19) hA si_166_14 (by decide) (by omega) (fun c2 => ?_) (fun c2 => absurd c2 (by omega))
  refine sr_aload_n hA si_166_19 rfl ?_
  refine sr_getR (r := 71) hA si_166_20 sf_166_33 (by decide) (by decide) rfl rfl rfl ?_
  refine sr_iload_n hA si_166_23 rfl ?_
  refine sr_ialdNv (v := nI 1) (n := 6) hA si_166_24 (by decide) rfl rfl (by omega) (by decide) hk ?_
  refine sr_istore_n (ls1 := [.ref 64, .int (nI i), .int (nI 3), .int (nI 1)]) hA si_166_25 rfl (by rw [sq_l_166]; decide) rfl ?_
  refine sr_iload_n hA si_166_26 rfl ?_
  refine sr_iload_n hA si_166_27 rfl ?_
  refine sr_icmp_eqN (tgt := 57) hA si_166_28 (by decide) (by omega) (by omega) (fun c3 => absurd c3 (by omega)) (fun c3 => ?_)
  refine sr_iload_n hA si_166_31 rfl ?_
  refine sr_iconst (v := nI 1) hA si_166_32 (by decide) ?_
  refine sr_icmp_neN (tgt := 41) hA si_166_33 (by decide) (by omega) (by omega) (fun c4 => ?_) (fun c4 => absurd c4 (by omega))
  refine sr_iload_n hA si_166_41 rfl ?_
  refine sr_iconst (v := nI 2) hA si_166_42 (by decide) ?_
  refine sr_icmp_neN (tgt := 51) hA si_166_43 (by decide) (by omega) (by omega) (fun c5 => ?_) (fun c5 => absurd c5 (by omega))
  refine sr_aload_n hA si_166_51 rfl ?_
  refine sr_iconst (v := nI 3) hA si_166_52 (by decide) ?_
  refine sr_VFi (c := 64) (ci := 8) (as := [.int (nI 3)]) (st := []) hA si_166_53 sv_141 sk_166_97 (mc_meets X g (by omega)) (by omega) rfl (by decide) (by decide) rfl sq_c_141 rfl (Nat.le_of_ble_eq_true rfl) ?_
  exact sr_iretF hA si_166_56 sq_r_166 rfl rfl
set_option maxRecDepth 20000 in
theorem mc_mark_r14 (X : sp_X) (g : sp_G) {i : Nat} (hi : i < 6)  {n : Nat} (hn : g.1 64 11 = nI n) (hb : n ≤ 6) (hin : i < n) (hk : g.1 71 i = nI 1) : sp_Ct X 9 166 [.ref 64, .int (nI i), .int (nI 4)] g (sp_Fi (-3) (sp_rm6 g 3)) := by
  refine sp_walkN (n := 4) sq_p_166 sq_l_166 (Nat.le_of_ble_eq_true rfl) (fun a hA => ?_)
  show sp_Ev X a 166 0 [.ref 64, .int (nI i), .int (nI 4), .null] [] g
  refine sr_aload_n hA si_166_0 rfl ?_
  refine sr_iload_n hA si_166_1 rfl ?_
  refine sr_VFi (c := 64) (ci := 8) (as := [.int (nI i)]) (st := []) hA si_166_2 sv_162 sk_166_174 (mc_isKey1 X g (n := n) hn (by omega) (by omega)) (by omega) rfl (by decide) (by decide) rfl sq_c_162 rfl (Nat.le_of_ble_eq_true rfl) ?_
  refine sr_if_eqN (tgt := 17) hA si_166_5 (by decide) (by omega) (fun c1 => absurd c1 (by omega)) (fun c1 => ?_)
  refine sr_iload_n hA si_166_8 rfl ?_
  refine sr_iconst (v := nI 1) hA si_166_9 (by decide) ?_
  refine sr_iconst (v := nI 5) hA si_166_10 (by decide) ?_
  refine sr_SFi (as := [.int (nI 4), .int (nI 1), .int (nI 5)]) (st := []) hA si_166_11 ss_135 sk_166_83 (mc_inN X g (by omega) (by omega) (by omega)) (by omega) rfl rfl (Nat.le_of_ble_eq_true rfl) ?_
  refine sr_if_neN (tgt := 19) hA si_166_14 (by decide) (by omega) (fun c2 => ?_) (fun c2 => absurd c2 (by omega))
  refine sr_aload_n hA si_166_19 rfl ?_
  refine sr_getR (r := 71) hA si_166_20 sf_166_33 (by decide) (by decide) rfl rfl rfl ?_
  refine sr_iload_n hA si_166_23 rfl ?_
  refine sr_ialdNv (v := nI 1) (n := 6) hA si_166_24 (by decide) rfl rfl (by omega) (by decide) hk ?_
  refine sr_istore_n (ls1 := [.ref 64, .int (nI i), .int (nI 4), .int (nI 1)]) hA si_166_25 rfl (by rw [sq_l_166]; decide) rfl ?_
  refine sr_iload_n hA si_166_26 rfl ?_
  refine sr_iload_n hA si_166_27 rfl ?_
  refine sr_icmp_eqN (tgt := 57) hA si_166_28 (by decide) (by omega) (by omega) (fun c3 => absurd c3 (by omega)) (fun c3 => ?_)
  refine sr_iload_n hA si_166_31 rfl ?_
  refine sr_iconst (v := nI 1) hA si_166_32 (by decide) ?_
  refine sr_icmp_neN (tgt := 41) hA si_166_33 (by decide) (by omega) (by omega) (fun c4 => ?_) (fun c4 => absurd c4 (by omega))
  refine sr_iload_n hA si_166_41 rfl ?_
  refine sr_iconst (v := nI 2) hA si_166_42 (by decide) ?_
  refine sr_icmp_neN (tgt := 51) hA si_166_43 (by decide) (by omega) (by omega) (fun c5 => ?_) (fun c5 => absurd c5 (by omega))
  refine sr_aload_n hA si_166_51 rfl ?_
  refine sr_iconst (v := nI 3) hA si_166_52 (by decide) ?_
  refine sr_VFi (c := 64) (ci := 8) (as := [.int (nI 3)]) (st := []) hA si_166_53 sv_141 sk_166_97 (mc_meets X g (by omega)) (by omega) rfl (by decide) (by decide) rfl sq_c_141 rfl (Nat.le_of_ble_eq_true rfl) ?_
  exact sr_iretF hA si_166_56 sq_r_166 rfl rfl
set_option maxRecDepth 20000 in
theorem mc_mark_r15 (X : sp_X) (g : sp_G) {i : Nat} (hi : i < 6)  {n : Nat} (hn : g.1 64 11 = nI n) (hb : n ≤ 6) (hin : i < n) (hk : g.1 71 i = nI 1) : sp_Ct X 9 166 [.ref 64, .int (nI i), .int (nI 5)] g (sp_Fi (-3) (sp_rm6 g 3)) := by
  refine sp_walkN (n := 4) sq_p_166 sq_l_166 (Nat.le_of_ble_eq_true rfl) (fun a hA => ?_)
  show sp_Ev X a 166 0 [.ref 64, .int (nI i), .int (nI 5), .null] [] g
  refine sr_aload_n hA si_166_0 rfl ?_
  refine sr_iload_n hA si_166_1 rfl ?_
  refine sr_VFi (c := 64) (ci := 8) (as := [.int (nI i)]) (st := []) hA si_166_2 sv_162 sk_166_174 (mc_isKey1 X g (n := n) hn (by omega) (by omega)) (by omega) rfl (by decide) (by decide) rfl sq_c_162 rfl (Nat.le_of_ble_eq_true rfl) ?_
  refine sr_if_eqN (tgt := 17) hA si_166_5 (by decide) (by omega) (fun c1 => absurd c1 (by omega)) (fun c1 => ?_)
  refine sr_iload_n hA si_166_8 rfl ?_
  refine sr_iconst (v := nI 1) hA si_166_9 (by decide) ?_
  refine sr_iconst (v := nI 5) hA si_166_10 (by decide) ?_
  refine sr_SFi (as := [.int (nI 5), .int (nI 1), .int (nI 5)]) (st := []) hA si_166_11 ss_135 sk_166_83 (mc_inN X g (by omega) (by omega) (by omega)) (by omega) rfl rfl (Nat.le_of_ble_eq_true rfl) ?_
  refine sr_if_neN (tgt := 19) hA si_166_14 (by decide) (by omega) (fun c2 => ?_) (fun c2 => absurd c2 (by omega))
  refine sr_aload_n hA si_166_19 rfl ?_
  refine sr_getR (r := 71) hA si_166_20 sf_166_33 (by decide) (by decide) rfl rfl rfl ?_
  refine sr_iload_n hA si_166_23 rfl ?_
  refine sr_ialdNv (v := nI 1) (n := 6) hA si_166_24 (by decide) rfl rfl (by omega) (by decide) hk ?_
  refine sr_istore_n (ls1 := [.ref 64, .int (nI i), .int (nI 5), .int (nI 1)]) hA si_166_25 rfl (by rw [sq_l_166]; decide) rfl ?_
  refine sr_iload_n hA si_166_26 rfl ?_
  refine sr_iload_n hA si_166_27 rfl ?_
  refine sr_icmp_eqN (tgt := 57) hA si_166_28 (by decide) (by omega) (by omega) (fun c3 => absurd c3 (by omega)) (fun c3 => ?_)
  refine sr_iload_n hA si_166_31 rfl ?_
  refine sr_iconst (v := nI 1) hA si_166_32 (by decide) ?_
  refine sr_icmp_neN (tgt := 41) hA si_166_33 (by decide) (by omega) (by omega) (fun c4 => ?_) (fun c4 => absurd c4 (by omega))
  refine sr_iload_n hA si_166_41 rfl ?_
  refine sr_iconst (v := nI 2) hA si_166_42 (by decide) ?_
  refine sr_icmp_neN (tgt := 51) hA si_166_43 (by decide) (by omega) (by omega) (fun c5 => ?_) (fun c5 => absurd c5 (by omega))
  refine sr_aload_n hA si_166_51 rfl ?_
  refine sr_iconst (v := nI 3) hA si_166_52 (by decide) ?_
  refine sr_VFi (c := 64) (ci := 8) (as := [.int (nI 3)]) (st := []) hA si_166_53 sv_141 sk_166_97 (mc_meets X g (by omega)) (by omega) rfl (by decide) (by decide) rfl sq_c_141 rfl (Nat.le_of_ble_eq_true rfl) ?_
  exact sr_iretF hA si_166_56 sq_r_166 rfl rfl
set_option maxRecDepth 20000 in
theorem mc_mark_r21 (X : sp_X) (g : sp_G) {i : Nat} (hi : i < 6)  {n : Nat} (hn : g.1 64 11 = nI n) (hb : n ≤ 6) (hin : i < n) (hk : g.1 71 i = nI 2) : sp_Ct X 9 166 [.ref 64, .int (nI i), .int (nI 1)] g (sp_Fi (-3) (sp_rm6 g 3)) := by
  refine sp_walkN (n := 4) sq_p_166 sq_l_166 (Nat.le_of_ble_eq_true rfl) (fun a hA => ?_)
  show sp_Ev X a 166 0 [.ref 64, .int (nI i), .int (nI 1), .null] [] g
  refine sr_aload_n hA si_166_0 rfl ?_
  refine sr_iload_n hA si_166_1 rfl ?_
  refine sr_VFi (c := 64) (ci := 8) (as := [.int (nI i)]) (st := []) hA si_166_2 sv_162 sk_166_174 (mc_isKey1 X g (n := n) hn (by omega) (by omega)) (by omega) rfl (by decide) (by decide) rfl sq_c_162 rfl (Nat.le_of_ble_eq_true rfl) ?_
  refine sr_if_eqN (tgt := 17) hA si_166_5 (by decide) (by omega) (fun c1 => absurd c1 (by omega)) (fun c1 => ?_)
  refine sr_iload_n hA si_166_8 rfl ?_
  refine sr_iconst (v := nI 1) hA si_166_9 (by decide) ?_
  refine sr_iconst (v := nI 5) hA si_166_10 (by decide) ?_
  refine sr_SFi (as := [.int (nI 1), .int (nI 1), .int (nI 5)]) (st := []) hA si_166_11 ss_135 sk_166_83 (mc_inN X g (by omega) (by omega) (by omega)) (by omega) rfl rfl (Nat.le_of_ble_eq_true rfl) ?_
  refine sr_if_neN (tgt := 19) hA si_166_14 (by decide) (by omega) (fun c2 => ?_) (fun c2 => absurd c2 (by omega))
  refine sr_aload_n hA si_166_19 rfl ?_
  refine sr_getR (r := 71) hA si_166_20 sf_166_33 (by decide) (by decide) rfl rfl rfl ?_
  refine sr_iload_n hA si_166_23 rfl ?_
  refine sr_ialdNv (v := nI 2) (n := 6) hA si_166_24 (by decide) rfl rfl (by omega) (by decide) hk ?_
  refine sr_istore_n (ls1 := [.ref 64, .int (nI i), .int (nI 1), .int (nI 2)]) hA si_166_25 rfl (by rw [sq_l_166]; decide) rfl ?_
  refine sr_iload_n hA si_166_26 rfl ?_
  refine sr_iload_n hA si_166_27 rfl ?_
  refine sr_icmp_eqN (tgt := 57) hA si_166_28 (by decide) (by omega) (by omega) (fun c3 => absurd c3 (by omega)) (fun c3 => ?_)
  refine sr_iload_n hA si_166_31 rfl ?_
  refine sr_iconst (v := nI 1) hA si_166_32 (by decide) ?_
  refine sr_icmp_neN (tgt := 41) hA si_166_33 (by decide) (by omega) (by omega) (fun c4 => absurd c4 (by omega)) (fun c4 => ?_)
  refine sr_iload_n hA si_166_36 rfl ?_
  refine sr_iconst (v := nI 4) hA si_166_37 (by decide) ?_
  refine sr_icmp_eqN (tgt := 57) hA si_166_38 (by decide) (by omega) (by omega) (fun c5 => absurd c5 (by omega)) (fun c5 => ?_)
  refine sr_iload_n hA si_166_41 rfl ?_
  refine sr_iconst (v := nI 2) hA si_166_42 (by decide) ?_
  refine sr_icmp_neN (tgt := 51) hA si_166_43 (by decide) (by omega) (by omega) (fun c6 => ?_) (fun c6 => absurd c6 (by omega))
  refine sr_aload_n hA si_166_51 rfl ?_
  refine sr_iconst (v := nI 3) hA si_166_52 (by decide) ?_
  refine sr_VFi (c := 64) (ci := 8) (as := [.int (nI 3)]) (st := []) hA si_166_53 sv_141 sk_166_97 (mc_meets X g (by omega)) (by omega) rfl (by decide) (by decide) rfl sq_c_141 rfl (Nat.le_of_ble_eq_true rfl) ?_
  exact sr_iretF hA si_166_56 sq_r_166 rfl rfl
set_option maxRecDepth 20000 in
theorem mc_mark_22 (X : sp_X) (g : sp_G) {i : Nat} (hi : i < 6)  {n : Nat} (hn : g.1 64 11 = nI n) (hb : n ≤ 6) (hin : i < n) (hk : g.1 71 i = nI 2) : sp_Ct X 9 166 [.ref 64, .int (nI i), .int (nI 2)] g (sp_Fi (if g.1 75 (9 * 0 + i) - g.1 72 i < nI 0 then nI 0 else g.1 75 (9 * 0 + i) - g.1 72 i) g) := by
  refine sp_walkN (n := 4) sq_p_166 sq_l_166 (Nat.le_of_ble_eq_true rfl) (fun a hA => ?_)
  show sp_Ev X a 166 0 [.ref 64, .int (nI i), .int (nI 2), .null] [] g
  refine sr_aload_n hA si_166_0 rfl ?_
  refine sr_iload_n hA si_166_1 rfl ?_
  refine sr_VFi (c := 64) (ci := 8) (as := [.int (nI i)]) (st := []) hA si_166_2 sv_162 sk_166_174 (mc_isKey1 X g (n := n) hn (by omega) (by omega)) (by omega) rfl (by decide) (by decide) rfl sq_c_162 rfl (Nat.le_of_ble_eq_true rfl) ?_
  refine sr_if_eqN (tgt := 17) hA si_166_5 (by decide) (by omega) (fun c1 => absurd c1 (by omega)) (fun c1 => ?_)
  refine sr_iload_n hA si_166_8 rfl ?_
  refine sr_iconst (v := nI 1) hA si_166_9 (by decide) ?_
  refine sr_iconst (v := nI 5) hA si_166_10 (by decide) ?_
  refine sr_SFi (as := [.int (nI 2), .int (nI 1), .int (nI 5)]) (st := []) hA si_166_11 ss_135 sk_166_83 (mc_inN X g (by omega) (by omega) (by omega)) (by omega) rfl rfl (Nat.le_of_ble_eq_true rfl) ?_
  refine sr_if_neN (tgt := 19) hA si_166_14 (by decide) (by omega) (fun c2 => ?_) (fun c2 => absurd c2 (by omega))
  refine sr_aload_n hA si_166_19 rfl ?_
  refine sr_getR (r := 71) hA si_166_20 sf_166_33 (by decide) (by decide) rfl rfl rfl ?_
  refine sr_iload_n hA si_166_23 rfl ?_
  refine sr_ialdNv (v := nI 2) (n := 6) hA si_166_24 (by decide) rfl rfl (by omega) (by decide) hk ?_
  refine sr_istore_n (ls1 := [.ref 64, .int (nI i), .int (nI 2), .int (nI 2)]) hA si_166_25 rfl (by rw [sq_l_166]; decide) rfl ?_
  refine sr_iload_n hA si_166_26 rfl ?_
  refine sr_iload_n hA si_166_27 rfl ?_
  refine sr_icmp_eqN (tgt := 57) hA si_166_28 (by decide) (by omega) (by omega) (fun c3 => ?_) (fun c3 => absurd c3 (by omega))
  refine sr_iload_n hA si_166_57 rfl ?_
  refine sr_tswI (c := nI 2) (tgt := 99) hA si_166_58 rfl (by decide) (by decide) rfl (by decide) ?_
  refine sr_iconst (v := nI 0) hA si_166_99 (by decide) ?_
  refine sr_aload_n hA si_166_100 rfl ?_
  refine sr_iconst (v := nI 0) hA si_166_101 (by decide) ?_
  refine sr_iload_n hA si_166_102 rfl ?_
  refine sr_VFi (c := 64) (ci := 8) (as := [.int (nI 0), .int (nI i)]) (st := [.int (nI 0)]) hA si_166_103 sv_164 sk_166_152 (mc_v X g (f := 0) (i := i) (by omega)) (by omega) rfl (by decide) (by decide) rfl sq_c_164 rfl (Nat.le_of_ble_eq_true rfl) ?_
  refine sr_aload_n hA si_166_106 rfl ?_
  refine sr_getR (r := 72) hA si_166_107 sf_166_36 (by decide) (by decide) rfl rfl rfl ?_
  refine sr_iload_n hA si_166_110 rfl ?_
  refine sr_ialdNv (v := g.1 72 i) (n := 6) hA si_166_111 (by decide) rfl rfl (by omega) (by decide) rfl ?_
  refine sr_isub hA si_166_112 ?_
  refine sr_SFi (as := [.int (nI 0), .int ((g.1 75 (9 * 0 + i)) - (g.1 72 i))]) (st := []) hA si_166_113 ss_168 sk_166_180 (mc_greater X g (nI 0) ((g.1 75 (9 * 0 + i)) - (g.1 72 i))) (by omega) rfl rfl (Nat.le_of_ble_eq_true rfl) ?_
  exact sr_iretF hA si_166_116 sq_r_166 rfl rfl
set_option maxRecDepth 20000 in
theorem mc_mark_r23 (X : sp_X) (g : sp_G) {i : Nat} (hi : i < 6)  {n : Nat} (hn : g.1 64 11 = nI n) (hb : n ≤ 6) (hin : i < n) (hk : g.1 71 i = nI 2) : sp_Ct X 9 166 [.ref 64, .int (nI i), .int (nI 3)] g (sp_Fi (-3) (sp_rm6 g 3)) := by
  refine sp_walkN (n := 4) sq_p_166 sq_l_166 (Nat.le_of_ble_eq_true rfl) (fun a hA => ?_)
  show sp_Ev X a 166 0 [.ref 64, .int (nI i), .int (nI 3), .null] [] g
  refine sr_aload_n hA si_166_0 rfl ?_
  refine sr_iload_n hA si_166_1 rfl ?_
  refine sr_VFi (c := 64) (ci := 8) (as := [.int (nI i)]) (st := []) hA si_166_2 sv_162 sk_166_174 (mc_isKey1 X g (n := n) hn (by omega) (by omega)) (by omega) rfl (by decide) (by decide) rfl sq_c_162 rfl (Nat.le_of_ble_eq_true rfl) ?_
  refine sr_if_eqN (tgt := 17) hA si_166_5 (by decide) (by omega) (fun c1 => absurd c1 (by omega)) (fun c1 => ?_)
  refine sr_iload_n hA si_166_8 rfl ?_
  refine sr_iconst (v := nI 1) hA si_166_9 (by decide) ?_
  refine sr_iconst (v := nI 5) hA si_166_10 (by decide) ?_
  refine sr_SFi (as := [.int (nI 3), .int (nI 1), .int (nI 5)]) (st := []) hA si_166_11 ss_135 sk_166_83 (mc_inN X g (by omega) (by omega) (by omega)) (by omega) rfl rfl (Nat.le_of_ble_eq_true rfl) ?_
  refine sr_if_neN (tgt := 19) hA si_166_14 (by decide) (by omega) (fun c2 => ?_) (fun c2 => absurd c2 (by omega))
  refine sr_aload_n hA si_166_19 rfl ?_
  refine sr_getR (r := 71) hA si_166_20 sf_166_33 (by decide) (by decide) rfl rfl rfl ?_
  refine sr_iload_n hA si_166_23 rfl ?_
  refine sr_ialdNv (v := nI 2) (n := 6) hA si_166_24 (by decide) rfl rfl (by omega) (by decide) hk ?_
  refine sr_istore_n (ls1 := [.ref 64, .int (nI i), .int (nI 3), .int (nI 2)]) hA si_166_25 rfl (by rw [sq_l_166]; decide) rfl ?_
  refine sr_iload_n hA si_166_26 rfl ?_
  refine sr_iload_n hA si_166_27 rfl ?_
  refine sr_icmp_eqN (tgt := 57) hA si_166_28 (by decide) (by omega) (by omega) (fun c3 => absurd c3 (by omega)) (fun c3 => ?_)
  refine sr_iload_n hA si_166_31 rfl ?_
  refine sr_iconst (v := nI 1) hA si_166_32 (by decide) ?_
  refine sr_icmp_neN (tgt := 41) hA si_166_33 (by decide) (by omega) (by omega) (fun c4 => ?_) (fun c4 => absurd c4 (by omega))
  refine sr_iload_n hA si_166_41 rfl ?_
  refine sr_iconst (v := nI 2) hA si_166_42 (by decide) ?_
  refine sr_icmp_neN (tgt := 51) hA si_166_43 (by decide) (by omega) (by omega) (fun c5 => ?_) (fun c5 => absurd c5 (by omega))
  refine sr_aload_n hA si_166_51 rfl ?_
  refine sr_iconst (v := nI 3) hA si_166_52 (by decide) ?_
  refine sr_VFi (c := 64) (ci := 8) (as := [.int (nI 3)]) (st := []) hA si_166_53 sv_141 sk_166_97 (mc_meets X g (by omega)) (by omega) rfl (by decide) (by decide) rfl sq_c_141 rfl (Nat.le_of_ble_eq_true rfl) ?_
  exact sr_iretF hA si_166_56 sq_r_166 rfl rfl
set_option maxRecDepth 20000 in
theorem mc_mark_r24 (X : sp_X) (g : sp_G) {i : Nat} (hi : i < 6)  {n : Nat} (hn : g.1 64 11 = nI n) (hb : n ≤ 6) (hin : i < n) (hk : g.1 71 i = nI 2) : sp_Ct X 9 166 [.ref 64, .int (nI i), .int (nI 4)] g (sp_Fi (-3) (sp_rm6 g 3)) := by
  refine sp_walkN (n := 4) sq_p_166 sq_l_166 (Nat.le_of_ble_eq_true rfl) (fun a hA => ?_)
  show sp_Ev X a 166 0 [.ref 64, .int (nI i), .int (nI 4), .null] [] g
  refine sr_aload_n hA si_166_0 rfl ?_
  refine sr_iload_n hA si_166_1 rfl ?_
  refine sr_VFi (c := 64) (ci := 8) (as := [.int (nI i)]) (st := []) hA si_166_2 sv_162 sk_166_174 (mc_isKey1 X g (n := n) hn (by omega) (by omega)) (by omega) rfl (by decide) (by decide) rfl sq_c_162 rfl (Nat.le_of_ble_eq_true rfl) ?_
  refine sr_if_eqN (tgt := 17) hA si_166_5 (by decide) (by omega) (fun c1 => absurd c1 (by omega)) (fun c1 => ?_)
  refine sr_iload_n hA si_166_8 rfl ?_
  refine sr_iconst (v := nI 1) hA si_166_9 (by decide) ?_
  refine sr_iconst (v := nI 5) hA si_166_10 (by decide) ?_
  refine sr_SFi (as := [.int (nI 4), .int (nI 1), .int (nI 5)]) (st := []) hA si_166_11 ss_135 sk_166_83 (mc_inN X g (by omega) (by omega) (by omega)) (by omega) rfl rfl (Nat.le_of_ble_eq_true rfl) ?_
  refine sr_if_neN (tgt := 19) hA si_166_14 (by decide) (by omega) (fun c2 => ?_) (fun c2 => absurd c2 (by omega))
  refine sr_aload_n hA si_166_19 rfl ?_
  refine sr_getR (r := 71) hA si_166_20 sf_166_33 (by decide) (by decide) rfl rfl rfl ?_
  refine sr_iload_n hA si_166_23 rfl ?_
  refine sr_ialdNv (v := nI 2) (n := 6) hA si_166_24 (by decide) rfl rfl (by omega) (by decide) hk ?_
  refine sr_istore_n (ls1 := [.ref 64, .int (nI i), .int (nI 4), .int (nI 2)]) hA si_166_25 rfl (by rw [sq_l_166]; decide) rfl ?_
  refine sr_iload_n hA si_166_26 rfl ?_
  refine sr_iload_n hA si_166_27 rfl ?_
  refine sr_icmp_eqN (tgt := 57) hA si_166_28 (by decide) (by omega) (by omega) (fun c3 => absurd c3 (by omega)) (fun c3 => ?_)
  refine sr_iload_n hA si_166_31 rfl ?_
  refine sr_iconst (v := nI 1) hA si_166_32 (by decide) ?_
  refine sr_icmp_neN (tgt := 41) hA si_166_33 (by decide) (by omega) (by omega) (fun c4 => ?_) (fun c4 => absurd c4 (by omega))
  refine sr_iload_n hA si_166_41 rfl ?_
  refine sr_iconst (v := nI 2) hA si_166_42 (by decide) ?_
  refine sr_icmp_neN (tgt := 51) hA si_166_43 (by decide) (by omega) (by omega) (fun c5 => ?_) (fun c5 => absurd c5 (by omega))
  refine sr_aload_n hA si_166_51 rfl ?_
  refine sr_iconst (v := nI 3) hA si_166_52 (by decide) ?_
  refine sr_VFi (c := 64) (ci := 8) (as := [.int (nI 3)]) (st := []) hA si_166_53 sv_141 sk_166_97 (mc_meets X g (by omega)) (by omega) rfl (by decide) (by decide) rfl sq_c_141 rfl (Nat.le_of_ble_eq_true rfl) ?_
  exact sr_iretF hA si_166_56 sq_r_166 rfl rfl
set_option maxRecDepth 20000 in
theorem mc_mark_r25 (X : sp_X) (g : sp_G) {i : Nat} (hi : i < 6)  {n : Nat} (hn : g.1 64 11 = nI n) (hb : n ≤ 6) (hin : i < n) (hk : g.1 71 i = nI 2) : sp_Ct X 9 166 [.ref 64, .int (nI i), .int (nI 5)] g (sp_Fi (-3) (sp_rm6 g 3)) := by
  refine sp_walkN (n := 4) sq_p_166 sq_l_166 (Nat.le_of_ble_eq_true rfl) (fun a hA => ?_)
  show sp_Ev X a 166 0 [.ref 64, .int (nI i), .int (nI 5), .null] [] g
  refine sr_aload_n hA si_166_0 rfl ?_
  refine sr_iload_n hA si_166_1 rfl ?_
  refine sr_VFi (c := 64) (ci := 8) (as := [.int (nI i)]) (st := []) hA si_166_2 sv_162 sk_166_174 (mc_isKey1 X g (n := n) hn (by omega) (by omega)) (by omega) rfl (by decide) (by decide) rfl sq_c_162 rfl (Nat.le_of_ble_eq_true rfl) ?_
  refine sr_if_eqN (tgt := 17) hA si_166_5 (by decide) (by omega) (fun c1 => absurd c1 (by omega)) (fun c1 => ?_)
  refine sr_iload_n hA si_166_8 rfl ?_
  refine sr_iconst (v := nI 1) hA si_166_9 (by decide) ?_
  refine sr_iconst (v := nI 5) hA si_166_10 (by decide) ?_
  refine sr_SFi (as := [.int (nI 5), .int (nI 1), .int (nI 5)]) (st := []) hA si_166_11 ss_135 sk_166_83 (mc_inN X g (by omega) (by omega) (by omega)) (by omega) rfl rfl (Nat.le_of_ble_eq_true rfl) ?_
  refine sr_if_neN (tgt := 19) hA si_166_14 (by decide) (by omega) (fun c2 => ?_) (fun c2 => absurd c2 (by omega))
  refine sr_aload_n hA si_166_19 rfl ?_
  refine sr_getR (r := 71) hA si_166_20 sf_166_33 (by decide) (by decide) rfl rfl rfl ?_
  refine sr_iload_n hA si_166_23 rfl ?_
  refine sr_ialdNv (v := nI 2) (n := 6) hA si_166_24 (by decide) rfl rfl (by omega) (by decide) hk ?_
  refine sr_istore_n (ls1 := [.ref 64, .int (nI i), .int (nI 5), .int (nI 2)]) hA si_166_25 rfl (by rw [sq_l_166]; decide) rfl ?_
  refine sr_iload_n hA si_166_26 rfl ?_
  refine sr_iload_n hA si_166_27 rfl ?_
  refine sr_icmp_eqN (tgt := 57) hA si_166_28 (by decide) (by omega) (by omega) (fun c3 => absurd c3 (by omega)) (fun c3 => ?_)
  refine sr_iload_n hA si_166_31 rfl ?_
  refine sr_iconst (v := nI 1) hA si_166_32 (by decide) ?_
  refine sr_icmp_neN (tgt := 41) hA si_166_33 (by decide) (by omega) (by omega) (fun c4 => ?_) (fun c4 => absurd c4 (by omega))
  refine sr_iload_n hA si_166_41 rfl ?_
  refine sr_iconst (v := nI 2) hA si_166_42 (by decide) ?_
  refine sr_icmp_neN (tgt := 51) hA si_166_43 (by decide) (by omega) (by omega) (fun c5 => ?_) (fun c5 => absurd c5 (by omega))
  refine sr_aload_n hA si_166_51 rfl ?_
  refine sr_iconst (v := nI 3) hA si_166_52 (by decide) ?_
  refine sr_VFi (c := 64) (ci := 8) (as := [.int (nI 3)]) (st := []) hA si_166_53 sv_141 sk_166_97 (mc_meets X g (by omega)) (by omega) rfl (by decide) (by decide) rfl sq_c_141 rfl (Nat.le_of_ble_eq_true rfl) ?_
  exact sr_iretF hA si_166_56 sq_r_166 rfl rfl
set_option maxRecDepth 20000 in
theorem mc_mark_r31 (X : sp_X) (g : sp_G) {i : Nat} (hi : i < 6)  {n : Nat} (hn : g.1 64 11 = nI n) (hb : n ≤ 6) (hin : i < n) (hk : g.1 71 i = nI 3) : sp_Ct X 9 166 [.ref 64, .int (nI i), .int (nI 1)] g (sp_Fi (-3) (sp_rm6 g 3)) := by
  refine sp_walkN (n := 4) sq_p_166 sq_l_166 (Nat.le_of_ble_eq_true rfl) (fun a hA => ?_)
  show sp_Ev X a 166 0 [.ref 64, .int (nI i), .int (nI 1), .null] [] g
  refine sr_aload_n hA si_166_0 rfl ?_
  refine sr_iload_n hA si_166_1 rfl ?_
  refine sr_VFi (c := 64) (ci := 8) (as := [.int (nI i)]) (st := []) hA si_166_2 sv_162 sk_166_174 (mc_isKey1 X g (n := n) hn (by omega) (by omega)) (by omega) rfl (by decide) (by decide) rfl sq_c_162 rfl (Nat.le_of_ble_eq_true rfl) ?_
  refine sr_if_eqN (tgt := 17) hA si_166_5 (by decide) (by omega) (fun c1 => absurd c1 (by omega)) (fun c1 => ?_)
  refine sr_iload_n hA si_166_8 rfl ?_
  refine sr_iconst (v := nI 1) hA si_166_9 (by decide) ?_
  refine sr_iconst (v := nI 5) hA si_166_10 (by decide) ?_
  refine sr_SFi (as := [.int (nI 1), .int (nI 1), .int (nI 5)]) (st := []) hA si_166_11 ss_135 sk_166_83 (mc_inN X g (by omega) (by omega) (by omega)) (by omega) rfl rfl (Nat.le_of_ble_eq_true rfl) ?_
  refine sr_if_neN (tgt := 19) hA si_166_14 (by decide) (by omega) (fun c2 => ?_) (fun c2 => absurd c2 (by omega))
  refine sr_aload_n hA si_166_19 rfl ?_
  refine sr_getR (r := 71) hA si_166_20 sf_166_33 (by decide) (by decide) rfl rfl rfl ?_
  refine sr_iload_n hA si_166_23 rfl ?_
  refine sr_ialdNv (v := nI 3) (n := 6) hA si_166_24 (by decide) rfl rfl (by omega) (by decide) hk ?_
  refine sr_istore_n (ls1 := [.ref 64, .int (nI i), .int (nI 1), .int (nI 3)]) hA si_166_25 rfl (by rw [sq_l_166]; decide) rfl ?_
  refine sr_iload_n hA si_166_26 rfl ?_
  refine sr_iload_n hA si_166_27 rfl ?_
  refine sr_icmp_eqN (tgt := 57) hA si_166_28 (by decide) (by omega) (by omega) (fun c3 => absurd c3 (by omega)) (fun c3 => ?_)
  refine sr_iload_n hA si_166_31 rfl ?_
  refine sr_iconst (v := nI 1) hA si_166_32 (by decide) ?_
  refine sr_icmp_neN (tgt := 41) hA si_166_33 (by decide) (by omega) (by omega) (fun c4 => absurd c4 (by omega)) (fun c4 => ?_)
  refine sr_iload_n hA si_166_36 rfl ?_
  refine sr_iconst (v := nI 4) hA si_166_37 (by decide) ?_
  refine sr_icmp_eqN (tgt := 57) hA si_166_38 (by decide) (by omega) (by omega) (fun c5 => absurd c5 (by omega)) (fun c5 => ?_)
  refine sr_iload_n hA si_166_41 rfl ?_
  refine sr_iconst (v := nI 2) hA si_166_42 (by decide) ?_
  refine sr_icmp_neN (tgt := 51) hA si_166_43 (by decide) (by omega) (by omega) (fun c6 => ?_) (fun c6 => absurd c6 (by omega))
  refine sr_aload_n hA si_166_51 rfl ?_
  refine sr_iconst (v := nI 3) hA si_166_52 (by decide) ?_
  refine sr_VFi (c := 64) (ci := 8) (as := [.int (nI 3)]) (st := []) hA si_166_53 sv_141 sk_166_97 (mc_meets X g (by omega)) (by omega) rfl (by decide) (by decide) rfl sq_c_141 rfl (Nat.le_of_ble_eq_true rfl) ?_
  exact sr_iretF hA si_166_56 sq_r_166 rfl rfl
set_option maxRecDepth 20000 in
theorem mc_mark_r32 (X : sp_X) (g : sp_G) {i : Nat} (hi : i < 6)  {n : Nat} (hn : g.1 64 11 = nI n) (hb : n ≤ 6) (hin : i < n) (hk : g.1 71 i = nI 3) : sp_Ct X 9 166 [.ref 64, .int (nI i), .int (nI 2)] g (sp_Fi (-3) (sp_rm6 g 3)) := by
  refine sp_walkN (n := 4) sq_p_166 sq_l_166 (Nat.le_of_ble_eq_true rfl) (fun a hA => ?_)
  show sp_Ev X a 166 0 [.ref 64, .int (nI i), .int (nI 2), .null] [] g
  refine sr_aload_n hA si_166_0 rfl ?_
  refine sr_iload_n hA si_166_1 rfl ?_
  refine sr_VFi (c := 64) (ci := 8) (as := [.int (nI i)]) (st := []) hA si_166_2 sv_162 sk_166_174 (mc_isKey1 X g (n := n) hn (by omega) (by omega)) (by omega) rfl (by decide) (by decide) rfl sq_c_162 rfl (Nat.le_of_ble_eq_true rfl) ?_
  refine sr_if_eqN (tgt := 17) hA si_166_5 (by decide) (by omega) (fun c1 => absurd c1 (by omega)) (fun c1 => ?_)
  refine sr_iload_n hA si_166_8 rfl ?_
  refine sr_iconst (v := nI 1) hA si_166_9 (by decide) ?_
  refine sr_iconst (v := nI 5) hA si_166_10 (by decide) ?_
  refine sr_SFi (as := [.int (nI 2), .int (nI 1), .int (nI 5)]) (st := []) hA si_166_11 ss_135 sk_166_83 (mc_inN X g (by omega) (by omega) (by omega)) (by omega) rfl rfl (Nat.le_of_ble_eq_true rfl) ?_
  refine sr_if_neN (tgt := 19) hA si_166_14 (by decide) (by omega) (fun c2 => ?_) (fun c2 => absurd c2 (by omega))
  refine sr_aload_n hA si_166_19 rfl ?_
  refine sr_getR (r := 71) hA si_166_20 sf_166_33 (by decide) (by decide) rfl rfl rfl ?_
  refine sr_iload_n hA si_166_23 rfl ?_
  refine sr_ialdNv (v := nI 3) (n := 6) hA si_166_24 (by decide) rfl rfl (by omega) (by decide) hk ?_
  refine sr_istore_n (ls1 := [.ref 64, .int (nI i), .int (nI 2), .int (nI 3)]) hA si_166_25 rfl (by rw [sq_l_166]; decide) rfl ?_
  refine sr_iload_n hA si_166_26 rfl ?_
  refine sr_iload_n hA si_166_27 rfl ?_
  refine sr_icmp_eqN (tgt := 57) hA si_166_28 (by decide) (by omega) (by omega) (fun c3 => absurd c3 (by omega)) (fun c3 => ?_)
  refine sr_iload_n hA si_166_31 rfl ?_
  refine sr_iconst (v := nI 1) hA si_166_32 (by decide) ?_
  refine sr_icmp_neN (tgt := 41) hA si_166_33 (by decide) (by omega) (by omega) (fun c4 => ?_) (fun c4 => absurd c4 (by omega))
  refine sr_iload_n hA si_166_41 rfl ?_
  refine sr_iconst (v := nI 2) hA si_166_42 (by decide) ?_
  refine sr_icmp_neN (tgt := 51) hA si_166_43 (by decide) (by omega) (by omega) (fun c5 => absurd c5 (by omega)) (fun c5 => ?_)
  refine sr_iload_n hA si_166_46 rfl ?_
  refine sr_iconst (v := nI 5) hA si_166_47 (by decide) ?_
  refine sr_icmp_eqN (tgt := 57) hA si_166_48 (by decide) (by omega) (by omega) (fun c6 => absurd c6 (by omega)) (fun c6 => ?_)
  refine sr_aload_n hA si_166_51 rfl ?_
  refine sr_iconst (v := nI 3) hA si_166_52 (by decide) ?_
  refine sr_VFi (c := 64) (ci := 8) (as := [.int (nI 3)]) (st := []) hA si_166_53 sv_141 sk_166_97 (mc_meets X g (by omega)) (by omega) rfl (by decide) (by decide) rfl sq_c_141 rfl (Nat.le_of_ble_eq_true rfl) ?_
  exact sr_iretF hA si_166_56 sq_r_166 rfl rfl
set_option maxRecDepth 20000 in
theorem mc_mark_330 (X : sp_X) (g : sp_G) {n : Nat} (hn : g.1 64 11 = nI n) (hb : n ≤ 6) (hin : 0 < n) (hk : g.1 71 0 = nI 3) : sp_Ct X 9 166 [.ref 64, .int (nI 0), .int (nI 3)] g (sp_Fi (g.1 75 (9 * 0 + 6)) g) := by
  refine sp_walkN (n := 4) sq_p_166 sq_l_166 (Nat.le_of_ble_eq_true rfl) (fun a hA => ?_)
  show sp_Ev X a 166 0 [.ref 64, .int (nI 0), .int (nI 3), .null] [] g
  refine sr_aload_n hA si_166_0 rfl ?_
  refine sr_iload_n hA si_166_1 rfl ?_
  refine sr_VFi (c := 64) (ci := 8) (as := [.int (nI 0)]) (st := []) hA si_166_2 sv_162 sk_166_174 (mc_isKey1 X g (n := n) hn (by omega) (by omega)) (by omega) rfl (by decide) (by decide) rfl sq_c_162 rfl (Nat.le_of_ble_eq_true rfl) ?_
  refine sr_if_eqN (tgt := 17) hA si_166_5 (by decide) (by omega) (fun c1 => absurd c1 (by omega)) (fun c1 => ?_)
  refine sr_iload_n hA si_166_8 rfl ?_
  refine sr_iconst (v := nI 1) hA si_166_9 (by decide) ?_
  refine sr_iconst (v := nI 5) hA si_166_10 (by decide) ?_
  refine sr_SFi (as := [.int (nI 3), .int (nI 1), .int (nI 5)]) (st := []) hA si_166_11 ss_135 sk_166_83 (mc_inN X g (by omega) (by omega) (by omega)) (by omega) rfl rfl (Nat.le_of_ble_eq_true rfl) ?_
  refine sr_if_neN (tgt := 19) hA si_166_14 (by decide) (by omega) (fun c2 => ?_) (fun c2 => absurd c2 (by omega))
  refine sr_aload_n hA si_166_19 rfl ?_
  refine sr_getR (r := 71) hA si_166_20 sf_166_33 (by decide) (by decide) rfl rfl rfl ?_
  refine sr_iload_n hA si_166_23 rfl ?_
  refine sr_ialdNv (v := nI 3) (n := 6) hA si_166_24 (by decide) rfl rfl (by omega) (by decide) hk ?_
  refine sr_istore_n (ls1 := [.ref 64, .int (nI 0), .int (nI 3), .int (nI 3)]) hA si_166_25 rfl (by rw [sq_l_166]; decide) rfl ?_
  refine sr_iload_n hA si_166_26 rfl ?_
  refine sr_iload_n hA si_166_27 rfl ?_
  refine sr_icmp_eqN (tgt := 57) hA si_166_28 (by decide) (by omega) (by omega) (fun c3 => ?_) (fun c3 => absurd c3 (by omega))
  refine sr_iload_n hA si_166_57 rfl ?_
  refine sr_tswI (c := nI 3) (tgt := 117) hA si_166_58 rfl (by decide) (by decide) rfl (by decide) ?_
  refine sr_aload_n hA si_166_117 rfl ?_
  refine sr_iconst (v := nI 0) hA si_166_118 (by decide) ?_
  refine sr_aload_n hA si_166_119 rfl ?_
  refine sr_iload_n hA si_166_120 rfl ?_
  refine sr_VFi (c := 64) (ci := 8) (as := [.int (nI 0)]) (st := [.int (nI 0), .ref 64]) hA si_166_121 sv_169 sk_166_171 (mc_leftOf0 X g) (by omega) rfl (by decide) (by decide) rfl sq_c_169 rfl (Nat.le_of_ble_eq_true rfl) ?_
  refine sr_VFi (c := 64) (ci := 8) (as := [.int (nI 0), .int (nI 6)]) (st := []) hA si_166_124 sv_164 sk_166_152 (mc_v X g (f := 0) (i := 6) (by omega)) (by omega) rfl (by decide) (by decide) rfl sq_c_164 rfl (Nat.le_of_ble_eq_true rfl) ?_
  exact sr_iretF hA si_166_127 sq_r_166 rfl rfl
set_option maxRecDepth 20000 in
theorem mc_mark_331 (X : sp_X) (g : sp_G) {i : Nat} (hi : i < 6)  {n : Nat} (hn : g.1 64 11 = nI n) (hb : n ≤ 6) (hin : i < n) (hi0 : 0 < i) (hk : g.1 71 i = nI 3) : sp_Ct X 9 166 [.ref 64, .int (nI i), .int (nI 3)] g (sp_Fi (g.1 75 (9 * 0 + (i - 1))) g) := by
  refine sp_walkN (n := 4) sq_p_166 sq_l_166 (Nat.le_of_ble_eq_true rfl) (fun a hA => ?_)
  show sp_Ev X a 166 0 [.ref 64, .int (nI i), .int (nI 3), .null] [] g
  refine sr_aload_n hA si_166_0 rfl ?_
  refine sr_iload_n hA si_166_1 rfl ?_
  refine sr_VFi (c := 64) (ci := 8) (as := [.int (nI i)]) (st := []) hA si_166_2 sv_162 sk_166_174 (mc_isKey1 X g (n := n) hn (by omega) (by omega)) (by omega) rfl (by decide) (by decide) rfl sq_c_162 rfl (Nat.le_of_ble_eq_true rfl) ?_
  refine sr_if_eqN (tgt := 17) hA si_166_5 (by decide) (by omega) (fun c1 => absurd c1 (by omega)) (fun c1 => ?_)
  refine sr_iload_n hA si_166_8 rfl ?_
  refine sr_iconst (v := nI 1) hA si_166_9 (by decide) ?_
  refine sr_iconst (v := nI 5) hA si_166_10 (by decide) ?_
  refine sr_SFi (as := [.int (nI 3), .int (nI 1), .int (nI 5)]) (st := []) hA si_166_11 ss_135 sk_166_83 (mc_inN X g (by omega) (by omega) (by omega)) (by omega) rfl rfl (Nat.le_of_ble_eq_true rfl) ?_
  refine sr_if_neN (tgt := 19) hA si_166_14 (by decide) (by omega) (fun c2 => ?_) (fun c2 => absurd c2 (by omega))
  refine sr_aload_n hA si_166_19 rfl ?_
  refine sr_getR (r := 71) hA si_166_20 sf_166_33 (by decide) (by decide) rfl rfl rfl ?_
  refine sr_iload_n hA si_166_23 rfl ?_
  refine sr_ialdNv (v := nI 3) (n := 6) hA si_166_24 (by decide) rfl rfl (by omega) (by decide) hk ?_
  refine sr_istore_n (ls1 := [.ref 64, .int (nI i), .int (nI 3), .int (nI 3)]) hA si_166_25 rfl (by rw [sq_l_166]; decide) rfl ?_
  refine sr_iload_n hA si_166_26 rfl ?_
  refine sr_iload_n hA si_166_27 rfl ?_
  refine sr_icmp_eqN (tgt := 57) hA si_166_28 (by decide) (by omega) (by omega) (fun c3 => ?_) (fun c3 => absurd c3 (by omega))
  refine sr_iload_n hA si_166_57 rfl ?_
  refine sr_tswI (c := nI 3) (tgt := 117) hA si_166_58 rfl (by decide) (by decide) rfl (by decide) ?_
  refine sr_aload_n hA si_166_117 rfl ?_
  refine sr_iconst (v := nI 0) hA si_166_118 (by decide) ?_
  refine sr_aload_n hA si_166_119 rfl ?_
  refine sr_iload_n hA si_166_120 rfl ?_
  refine sr_VFi (c := 64) (ci := 8) (as := [.int (nI i)]) (st := [.int (nI 0), .ref 64]) hA si_166_121 sv_169 sk_166_171 (mc_leftOf X g (i := i) (by omega) (by omega)) (by omega) rfl (by decide) (by decide) rfl sq_c_169 rfl (Nat.le_of_ble_eq_true rfl) ?_
  refine sr_VFi (c := 64) (ci := 8) (as := [.int (nI 0), .int (nI (i - 1))]) (st := []) hA si_166_124 sv_164 sk_166_152 (mc_v X g (f := 0) (i := (i - 1)) (by omega)) (by omega) rfl (by decide) (by decide) rfl sq_c_164 rfl (Nat.le_of_ble_eq_true rfl) ?_
  exact sr_iretF hA si_166_127 sq_r_166 rfl rfl
set_option maxRecDepth 20000 in
theorem mc_mark_r34 (X : sp_X) (g : sp_G) {i : Nat} (hi : i < 6)  {n : Nat} (hn : g.1 64 11 = nI n) (hb : n ≤ 6) (hin : i < n) (hk : g.1 71 i = nI 3) : sp_Ct X 9 166 [.ref 64, .int (nI i), .int (nI 4)] g (sp_Fi (-3) (sp_rm6 g 3)) := by
  refine sp_walkN (n := 4) sq_p_166 sq_l_166 (Nat.le_of_ble_eq_true rfl) (fun a hA => ?_)
  show sp_Ev X a 166 0 [.ref 64, .int (nI i), .int (nI 4), .null] [] g
  refine sr_aload_n hA si_166_0 rfl ?_
  refine sr_iload_n hA si_166_1 rfl ?_
  refine sr_VFi (c := 64) (ci := 8) (as := [.int (nI i)]) (st := []) hA si_166_2 sv_162 sk_166_174 (mc_isKey1 X g (n := n) hn (by omega) (by omega)) (by omega) rfl (by decide) (by decide) rfl sq_c_162 rfl (Nat.le_of_ble_eq_true rfl) ?_
  refine sr_if_eqN (tgt := 17) hA si_166_5 (by decide) (by omega) (fun c1 => absurd c1 (by omega)) (fun c1 => ?_)
  refine sr_iload_n hA si_166_8 rfl ?_
  refine sr_iconst (v := nI 1) hA si_166_9 (by decide) ?_
  refine sr_iconst (v := nI 5) hA si_166_10 (by decide) ?_
  refine sr_SFi (as := [.int (nI 4), .int (nI 1), .int (nI 5)]) (st := []) hA si_166_11 ss_135 sk_166_83 (mc_inN X g (by omega) (by omega) (by omega)) (by omega) rfl rfl (Nat.le_of_ble_eq_true rfl) ?_
  refine sr_if_neN (tgt := 19) hA si_166_14 (by decide) (by omega) (fun c2 => ?_) (fun c2 => absurd c2 (by omega))
  refine sr_aload_n hA si_166_19 rfl ?_
  refine sr_getR (r := 71) hA si_166_20 sf_166_33 (by decide) (by decide) rfl rfl rfl ?_
  refine sr_iload_n hA si_166_23 rfl ?_
  refine sr_ialdNv (v := nI 3) (n := 6) hA si_166_24 (by decide) rfl rfl (by omega) (by decide) hk ?_
  refine sr_istore_n (ls1 := [.ref 64, .int (nI i), .int (nI 4), .int (nI 3)]) hA si_166_25 rfl (by rw [sq_l_166]; decide) rfl ?_
  refine sr_iload_n hA si_166_26 rfl ?_
  refine sr_iload_n hA si_166_27 rfl ?_
  refine sr_icmp_eqN (tgt := 57) hA si_166_28 (by decide) (by omega) (by omega) (fun c3 => absurd c3 (by omega)) (fun c3 => ?_)
  refine sr_iload_n hA si_166_31 rfl ?_
  refine sr_iconst (v := nI 1) hA si_166_32 (by decide) ?_
  refine sr_icmp_neN (tgt := 41) hA si_166_33 (by decide) (by omega) (by omega) (fun c4 => ?_) (fun c4 => absurd c4 (by omega))
  refine sr_iload_n hA si_166_41 rfl ?_
  refine sr_iconst (v := nI 2) hA si_166_42 (by decide) ?_
  refine sr_icmp_neN (tgt := 51) hA si_166_43 (by decide) (by omega) (by omega) (fun c5 => ?_) (fun c5 => absurd c5 (by omega))
  refine sr_aload_n hA si_166_51 rfl ?_
  refine sr_iconst (v := nI 3) hA si_166_52 (by decide) ?_
  refine sr_VFi (c := 64) (ci := 8) (as := [.int (nI 3)]) (st := []) hA si_166_53 sv_141 sk_166_97 (mc_meets X g (by omega)) (by omega) rfl (by decide) (by decide) rfl sq_c_141 rfl (Nat.le_of_ble_eq_true rfl) ?_
  exact sr_iretF hA si_166_56 sq_r_166 rfl rfl
set_option maxRecDepth 20000 in
theorem mc_mark_r35 (X : sp_X) (g : sp_G) {i : Nat} (hi : i < 6)  {n : Nat} (hn : g.1 64 11 = nI n) (hb : n ≤ 6) (hin : i < n) (hk : g.1 71 i = nI 3) : sp_Ct X 9 166 [.ref 64, .int (nI i), .int (nI 5)] g (sp_Fi (-3) (sp_rm6 g 3)) := by
  refine sp_walkN (n := 4) sq_p_166 sq_l_166 (Nat.le_of_ble_eq_true rfl) (fun a hA => ?_)
  show sp_Ev X a 166 0 [.ref 64, .int (nI i), .int (nI 5), .null] [] g
  refine sr_aload_n hA si_166_0 rfl ?_
  refine sr_iload_n hA si_166_1 rfl ?_
  refine sr_VFi (c := 64) (ci := 8) (as := [.int (nI i)]) (st := []) hA si_166_2 sv_162 sk_166_174 (mc_isKey1 X g (n := n) hn (by omega) (by omega)) (by omega) rfl (by decide) (by decide) rfl sq_c_162 rfl (Nat.le_of_ble_eq_true rfl) ?_
  refine sr_if_eqN (tgt := 17) hA si_166_5 (by decide) (by omega) (fun c1 => absurd c1 (by omega)) (fun c1 => ?_)
  refine sr_iload_n hA si_166_8 rfl ?_
  refine sr_iconst (v := nI 1) hA si_166_9 (by decide) ?_
  refine sr_iconst (v := nI 5) hA si_166_10 (by decide) ?_
  refine sr_SFi (as := [.int (nI 5), .int (nI 1), .int (nI 5)]) (st := []) hA si_166_11 ss_135 sk_166_83 (mc_inN X g (by omega) (by omega) (by omega)) (by omega) rfl rfl (Nat.le_of_ble_eq_true rfl) ?_
  refine sr_if_neN (tgt := 19) hA si_166_14 (by decide) (by omega) (fun c2 => ?_) (fun c2 => absurd c2 (by omega))
  refine sr_aload_n hA si_166_19 rfl ?_
  refine sr_getR (r := 71) hA si_166_20 sf_166_33 (by decide) (by decide) rfl rfl rfl ?_
  refine sr_iload_n hA si_166_23 rfl ?_
  refine sr_ialdNv (v := nI 3) (n := 6) hA si_166_24 (by decide) rfl rfl (by omega) (by decide) hk ?_
  refine sr_istore_n (ls1 := [.ref 64, .int (nI i), .int (nI 5), .int (nI 3)]) hA si_166_25 rfl (by rw [sq_l_166]; decide) rfl ?_
  refine sr_iload_n hA si_166_26 rfl ?_
  refine sr_iload_n hA si_166_27 rfl ?_
  refine sr_icmp_eqN (tgt := 57) hA si_166_28 (by decide) (by omega) (by omega) (fun c3 => absurd c3 (by omega)) (fun c3 => ?_)
  refine sr_iload_n hA si_166_31 rfl ?_
  refine sr_iconst (v := nI 1) hA si_166_32 (by decide) ?_
  refine sr_icmp_neN (tgt := 41) hA si_166_33 (by decide) (by omega) (by omega) (fun c4 => ?_) (fun c4 => absurd c4 (by omega))
  refine sr_iload_n hA si_166_41 rfl ?_
  refine sr_iconst (v := nI 2) hA si_166_42 (by decide) ?_
  refine sr_icmp_neN (tgt := 51) hA si_166_43 (by decide) (by omega) (by omega) (fun c5 => ?_) (fun c5 => absurd c5 (by omega))
  refine sr_aload_n hA si_166_51 rfl ?_
  refine sr_iconst (v := nI 3) hA si_166_52 (by decide) ?_
  refine sr_VFi (c := 64) (ci := 8) (as := [.int (nI 3)]) (st := []) hA si_166_53 sv_141 sk_166_97 (mc_meets X g (by omega)) (by omega) rfl (by decide) (by decide) rfl sq_c_141 rfl (Nat.le_of_ble_eq_true rfl) ?_
  exact sr_iretF hA si_166_56 sq_r_166 rfl rfl
set_option maxRecDepth 20000 in
theorem mc_mark_41 (X : sp_X) (g : sp_G) {i : Nat} (hi : i < 6)  {n : Nat} (hn : g.1 64 11 = nI n) (hb : n ≤ 6) (hin : i < n) (hk : g.1 71 i = nI 4) : sp_Ct X 9 166 [.ref 64, .int (nI i), .int (nI 1)] g (sp_Fi (if nI 2 < g.1 75 (9 * 0 + i) then nI 2 else g.1 75 (9 * 0 + i)) g) := by
  refine sp_walkN (n := 4) sq_p_166 sq_l_166 (Nat.le_of_ble_eq_true rfl) (fun a hA => ?_)
  show sp_Ev X a 166 0 [.ref 64, .int (nI i), .int (nI 1), .null] [] g
  refine sr_aload_n hA si_166_0 rfl ?_
  refine sr_iload_n hA si_166_1 rfl ?_
  refine sr_VFi (c := 64) (ci := 8) (as := [.int (nI i)]) (st := []) hA si_166_2 sv_162 sk_166_174 (mc_isKey1 X g (n := n) hn (by omega) (by omega)) (by omega) rfl (by decide) (by decide) rfl sq_c_162 rfl (Nat.le_of_ble_eq_true rfl) ?_
  refine sr_if_eqN (tgt := 17) hA si_166_5 (by decide) (by omega) (fun c1 => absurd c1 (by omega)) (fun c1 => ?_)
  refine sr_iload_n hA si_166_8 rfl ?_
  refine sr_iconst (v := nI 1) hA si_166_9 (by decide) ?_
  refine sr_iconst (v := nI 5) hA si_166_10 (by decide) ?_
  refine sr_SFi (as := [.int (nI 1), .int (nI 1), .int (nI 5)]) (st := []) hA si_166_11 ss_135 sk_166_83 (mc_inN X g (by omega) (by omega) (by omega)) (by omega) rfl rfl (Nat.le_of_ble_eq_true rfl) ?_
  refine sr_if_neN (tgt := 19) hA si_166_14 (by decide) (by omega) (fun c2 => ?_) (fun c2 => absurd c2 (by omega))
  refine sr_aload_n hA si_166_19 rfl ?_
  refine sr_getR (r := 71) hA si_166_20 sf_166_33 (by decide) (by decide) rfl rfl rfl ?_
  refine sr_iload_n hA si_166_23 rfl ?_
  refine sr_ialdNv (v := nI 4) (n := 6) hA si_166_24 (by decide) rfl rfl (by omega) (by decide) hk ?_
  refine sr_istore_n (ls1 := [.ref 64, .int (nI i), .int (nI 1), .int (nI 4)]) hA si_166_25 rfl (by rw [sq_l_166]; decide) rfl ?_
  refine sr_iload_n hA si_166_26 rfl ?_
  refine sr_iload_n hA si_166_27 rfl ?_
  refine sr_icmp_eqN (tgt := 57) hA si_166_28 (by decide) (by omega) (by omega) (fun c3 => absurd c3 (by omega)) (fun c3 => ?_)
  refine sr_iload_n hA si_166_31 rfl ?_
  refine sr_iconst (v := nI 1) hA si_166_32 (by decide) ?_
  refine sr_icmp_neN (tgt := 41) hA si_166_33 (by decide) (by omega) (by omega) (fun c4 => absurd c4 (by omega)) (fun c4 => ?_)
  refine sr_iload_n hA si_166_36 rfl ?_
  refine sr_iconst (v := nI 4) hA si_166_37 (by decide) ?_
  refine sr_icmp_eqN (tgt := 57) hA si_166_38 (by decide) (by omega) (by omega) (fun c5 => ?_) (fun c5 => absurd c5 (by omega))
  refine sr_iload_n hA si_166_57 rfl ?_
  refine sr_tswI (c := nI 1) (tgt := 88) hA si_166_58 rfl (by decide) (by decide) rfl (by decide) ?_
  refine sr_iconst (v := nI 2) hA si_166_88 (by decide) ?_
  refine sr_aload_n hA si_166_89 rfl ?_
  refine sr_iconst (v := nI 0) hA si_166_90 (by decide) ?_
  refine sr_iload_n hA si_166_91 rfl ?_
  refine sr_VFi (c := 64) (ci := 8) (as := [.int (nI 0), .int (nI i)]) (st := [.int (nI 2)]) hA si_166_92 sv_164 sk_166_152 (mc_v X g (f := 0) (i := i) (by omega)) (by omega) rfl (by decide) (by decide) rfl sq_c_164 rfl (Nat.le_of_ble_eq_true rfl) ?_
  refine sr_SFi (as := [.int (nI 2), .int (g.1 75 (9 * 0 + i))]) (st := []) hA si_166_95 ss_167 sk_166_158 (mc_lesser X g (nI 2) (g.1 75 (9 * 0 + i))) (by omega) rfl rfl (Nat.le_of_ble_eq_true rfl) ?_
  exact sr_iretF hA si_166_98 sq_r_166 rfl rfl
set_option maxRecDepth 20000 in
theorem mc_mark_r42 (X : sp_X) (g : sp_G) {i : Nat} (hi : i < 6)  {n : Nat} (hn : g.1 64 11 = nI n) (hb : n ≤ 6) (hin : i < n) (hk : g.1 71 i = nI 4) : sp_Ct X 9 166 [.ref 64, .int (nI i), .int (nI 2)] g (sp_Fi (-3) (sp_rm6 g 3)) := by
  refine sp_walkN (n := 4) sq_p_166 sq_l_166 (Nat.le_of_ble_eq_true rfl) (fun a hA => ?_)
  show sp_Ev X a 166 0 [.ref 64, .int (nI i), .int (nI 2), .null] [] g
  refine sr_aload_n hA si_166_0 rfl ?_
  refine sr_iload_n hA si_166_1 rfl ?_
  refine sr_VFi (c := 64) (ci := 8) (as := [.int (nI i)]) (st := []) hA si_166_2 sv_162 sk_166_174 (mc_isKey1 X g (n := n) hn (by omega) (by omega)) (by omega) rfl (by decide) (by decide) rfl sq_c_162 rfl (Nat.le_of_ble_eq_true rfl) ?_
  refine sr_if_eqN (tgt := 17) hA si_166_5 (by decide) (by omega) (fun c1 => absurd c1 (by omega)) (fun c1 => ?_)
  refine sr_iload_n hA si_166_8 rfl ?_
  refine sr_iconst (v := nI 1) hA si_166_9 (by decide) ?_
  refine sr_iconst (v := nI 5) hA si_166_10 (by decide) ?_
  refine sr_SFi (as := [.int (nI 2), .int (nI 1), .int (nI 5)]) (st := []) hA si_166_11 ss_135 sk_166_83 (mc_inN X g (by omega) (by omega) (by omega)) (by omega) rfl rfl (Nat.le_of_ble_eq_true rfl) ?_
  refine sr_if_neN (tgt := 19) hA si_166_14 (by decide) (by omega) (fun c2 => ?_) (fun c2 => absurd c2 (by omega))
  refine sr_aload_n hA si_166_19 rfl ?_
  refine sr_getR (r := 71) hA si_166_20 sf_166_33 (by decide) (by decide) rfl rfl rfl ?_
  refine sr_iload_n hA si_166_23 rfl ?_
  refine sr_ialdNv (v := nI 4) (n := 6) hA si_166_24 (by decide) rfl rfl (by omega) (by decide) hk ?_
  refine sr_istore_n (ls1 := [.ref 64, .int (nI i), .int (nI 2), .int (nI 4)]) hA si_166_25 rfl (by rw [sq_l_166]; decide) rfl ?_
  refine sr_iload_n hA si_166_26 rfl ?_
  refine sr_iload_n hA si_166_27 rfl ?_
  refine sr_icmp_eqN (tgt := 57) hA si_166_28 (by decide) (by omega) (by omega) (fun c3 => absurd c3 (by omega)) (fun c3 => ?_)
  refine sr_iload_n hA si_166_31 rfl ?_
  refine sr_iconst (v := nI 1) hA si_166_32 (by decide) ?_
  refine sr_icmp_neN (tgt := 41) hA si_166_33 (by decide) (by omega) (by omega) (fun c4 => ?_) (fun c4 => absurd c4 (by omega))
  refine sr_iload_n hA si_166_41 rfl ?_
  refine sr_iconst (v := nI 2) hA si_166_42 (by decide) ?_
  refine sr_icmp_neN (tgt := 51) hA si_166_43 (by decide) (by omega) (by omega) (fun c5 => absurd c5 (by omega)) (fun c5 => ?_)
  refine sr_iload_n hA si_166_46 rfl ?_
  refine sr_iconst (v := nI 5) hA si_166_47 (by decide) ?_
  refine sr_icmp_eqN (tgt := 57) hA si_166_48 (by decide) (by omega) (by omega) (fun c6 => absurd c6 (by omega)) (fun c6 => ?_)
  refine sr_aload_n hA si_166_51 rfl ?_
  refine sr_iconst (v := nI 3) hA si_166_52 (by decide) ?_
  refine sr_VFi (c := 64) (ci := 8) (as := [.int (nI 3)]) (st := []) hA si_166_53 sv_141 sk_166_97 (mc_meets X g (by omega)) (by omega) rfl (by decide) (by decide) rfl sq_c_141 rfl (Nat.le_of_ble_eq_true rfl) ?_
  exact sr_iretF hA si_166_56 sq_r_166 rfl rfl
set_option maxRecDepth 20000 in
theorem mc_mark_r43 (X : sp_X) (g : sp_G) {i : Nat} (hi : i < 6)  {n : Nat} (hn : g.1 64 11 = nI n) (hb : n ≤ 6) (hin : i < n) (hk : g.1 71 i = nI 4) : sp_Ct X 9 166 [.ref 64, .int (nI i), .int (nI 3)] g (sp_Fi (-3) (sp_rm6 g 3)) := by
  refine sp_walkN (n := 4) sq_p_166 sq_l_166 (Nat.le_of_ble_eq_true rfl) (fun a hA => ?_)
  show sp_Ev X a 166 0 [.ref 64, .int (nI i), .int (nI 3), .null] [] g
  refine sr_aload_n hA si_166_0 rfl ?_
  refine sr_iload_n hA si_166_1 rfl ?_
  refine sr_VFi (c := 64) (ci := 8) (as := [.int (nI i)]) (st := []) hA si_166_2 sv_162 sk_166_174 (mc_isKey1 X g (n := n) hn (by omega) (by omega)) (by omega) rfl (by decide) (by decide) rfl sq_c_162 rfl (Nat.le_of_ble_eq_true rfl) ?_
  refine sr_if_eqN (tgt := 17) hA si_166_5 (by decide) (by omega) (fun c1 => absurd c1 (by omega)) (fun c1 => ?_)
  refine sr_iload_n hA si_166_8 rfl ?_
  refine sr_iconst (v := nI 1) hA si_166_9 (by decide) ?_
  refine sr_iconst (v := nI 5) hA si_166_10 (by decide) ?_
  refine sr_SFi (as := [.int (nI 3), .int (nI 1), .int (nI 5)]) (st := []) hA si_166_11 ss_135 sk_166_83 (mc_inN X g (by omega) (by omega) (by omega)) (by omega) rfl rfl (Nat.le_of_ble_eq_true rfl) ?_
  refine sr_if_neN (tgt := 19) hA si_166_14 (by decide) (by omega) (fun c2 => ?_) (fun c2 => absurd c2 (by omega))
  refine sr_aload_n hA si_166_19 rfl ?_
  refine sr_getR (r := 71) hA si_166_20 sf_166_33 (by decide) (by decide) rfl rfl rfl ?_
  refine sr_iload_n hA si_166_23 rfl ?_
  refine sr_ialdNv (v := nI 4) (n := 6) hA si_166_24 (by decide) rfl rfl (by omega) (by decide) hk ?_
  refine sr_istore_n (ls1 := [.ref 64, .int (nI i), .int (nI 3), .int (nI 4)]) hA si_166_25 rfl (by rw [sq_l_166]; decide) rfl ?_
  refine sr_iload_n hA si_166_26 rfl ?_
  refine sr_iload_n hA si_166_27 rfl ?_
  refine sr_icmp_eqN (tgt := 57) hA si_166_28 (by decide) (by omega) (by omega) (fun c3 => absurd c3 (by omega)) (fun c3 => ?_)
  refine sr_iload_n hA si_166_31 rfl ?_
  refine sr_iconst (v := nI 1) hA si_166_32 (by decide) ?_
  refine sr_icmp_neN (tgt := 41) hA si_166_33 (by decide) (by omega) (by omega) (fun c4 => ?_) (fun c4 => absurd c4 (by omega))
  refine sr_iload_n hA si_166_41 rfl ?_
  refine sr_iconst (v := nI 2) hA si_166_42 (by decide) ?_
  refine sr_icmp_neN (tgt := 51) hA si_166_43 (by decide) (by omega) (by omega) (fun c5 => ?_) (fun c5 => absurd c5 (by omega))
  refine sr_aload_n hA si_166_51 rfl ?_
  refine sr_iconst (v := nI 3) hA si_166_52 (by decide) ?_
  refine sr_VFi (c := 64) (ci := 8) (as := [.int (nI 3)]) (st := []) hA si_166_53 sv_141 sk_166_97 (mc_meets X g (by omega)) (by omega) rfl (by decide) (by decide) rfl sq_c_141 rfl (Nat.le_of_ble_eq_true rfl) ?_
  exact sr_iretF hA si_166_56 sq_r_166 rfl rfl
set_option maxRecDepth 20000 in
theorem mc_mark_44 (X : sp_X) (g : sp_G) {i : Nat} (hi : i < 6)  {n : Nat} (hn : g.1 64 11 = nI n) (hb : n ≤ 6) (hin : i < n) (hk : g.1 71 i = nI 4) : sp_Ct X 9 166 [.ref 64, .int (nI i), .int (nI 4)] g (sp_Fi (nI i) g) := by
  refine sp_walkN (n := 4) sq_p_166 sq_l_166 (Nat.le_of_ble_eq_true rfl) (fun a hA => ?_)
  show sp_Ev X a 166 0 [.ref 64, .int (nI i), .int (nI 4), .null] [] g
  refine sr_aload_n hA si_166_0 rfl ?_
  refine sr_iload_n hA si_166_1 rfl ?_
  refine sr_VFi (c := 64) (ci := 8) (as := [.int (nI i)]) (st := []) hA si_166_2 sv_162 sk_166_174 (mc_isKey1 X g (n := n) hn (by omega) (by omega)) (by omega) rfl (by decide) (by decide) rfl sq_c_162 rfl (Nat.le_of_ble_eq_true rfl) ?_
  refine sr_if_eqN (tgt := 17) hA si_166_5 (by decide) (by omega) (fun c1 => absurd c1 (by omega)) (fun c1 => ?_)
  refine sr_iload_n hA si_166_8 rfl ?_
  refine sr_iconst (v := nI 1) hA si_166_9 (by decide) ?_
  refine sr_iconst (v := nI 5) hA si_166_10 (by decide) ?_
  refine sr_SFi (as := [.int (nI 4), .int (nI 1), .int (nI 5)]) (st := []) hA si_166_11 ss_135 sk_166_83 (mc_inN X g (by omega) (by omega) (by omega)) (by omega) rfl rfl (Nat.le_of_ble_eq_true rfl) ?_
  refine sr_if_neN (tgt := 19) hA si_166_14 (by decide) (by omega) (fun c2 => ?_) (fun c2 => absurd c2 (by omega))
  refine sr_aload_n hA si_166_19 rfl ?_
  refine sr_getR (r := 71) hA si_166_20 sf_166_33 (by decide) (by decide) rfl rfl rfl ?_
  refine sr_iload_n hA si_166_23 rfl ?_
  refine sr_ialdNv (v := nI 4) (n := 6) hA si_166_24 (by decide) rfl rfl (by omega) (by decide) hk ?_
  refine sr_istore_n (ls1 := [.ref 64, .int (nI i), .int (nI 4), .int (nI 4)]) hA si_166_25 rfl (by rw [sq_l_166]; decide) rfl ?_
  refine sr_iload_n hA si_166_26 rfl ?_
  refine sr_iload_n hA si_166_27 rfl ?_
  refine sr_icmp_eqN (tgt := 57) hA si_166_28 (by decide) (by omega) (by omega) (fun c3 => ?_) (fun c3 => absurd c3 (by omega))
  refine sr_iload_n hA si_166_57 rfl ?_
  refine sr_tswI (c := nI 4) (tgt := 128) hA si_166_58 rfl (by decide) (by decide) rfl (by decide) ?_
  refine sr_iload_n hA si_166_128 rfl ?_
  exact sr_iretF hA si_166_129 sq_r_166 rfl rfl
set_option maxRecDepth 20000 in
theorem mc_mark_r45 (X : sp_X) (g : sp_G) {i : Nat} (hi : i < 6)  {n : Nat} (hn : g.1 64 11 = nI n) (hb : n ≤ 6) (hin : i < n) (hk : g.1 71 i = nI 4) : sp_Ct X 9 166 [.ref 64, .int (nI i), .int (nI 5)] g (sp_Fi (-3) (sp_rm6 g 3)) := by
  refine sp_walkN (n := 4) sq_p_166 sq_l_166 (Nat.le_of_ble_eq_true rfl) (fun a hA => ?_)
  show sp_Ev X a 166 0 [.ref 64, .int (nI i), .int (nI 5), .null] [] g
  refine sr_aload_n hA si_166_0 rfl ?_
  refine sr_iload_n hA si_166_1 rfl ?_
  refine sr_VFi (c := 64) (ci := 8) (as := [.int (nI i)]) (st := []) hA si_166_2 sv_162 sk_166_174 (mc_isKey1 X g (n := n) hn (by omega) (by omega)) (by omega) rfl (by decide) (by decide) rfl sq_c_162 rfl (Nat.le_of_ble_eq_true rfl) ?_
  refine sr_if_eqN (tgt := 17) hA si_166_5 (by decide) (by omega) (fun c1 => absurd c1 (by omega)) (fun c1 => ?_)
  refine sr_iload_n hA si_166_8 rfl ?_
  refine sr_iconst (v := nI 1) hA si_166_9 (by decide) ?_
  refine sr_iconst (v := nI 5) hA si_166_10 (by decide) ?_
  refine sr_SFi (as := [.int (nI 5), .int (nI 1), .int (nI 5)]) (st := []) hA si_166_11 ss_135 sk_166_83 (mc_inN X g (by omega) (by omega) (by omega)) (by omega) rfl rfl (Nat.le_of_ble_eq_true rfl) ?_
  refine sr_if_neN (tgt := 19) hA si_166_14 (by decide) (by omega) (fun c2 => ?_) (fun c2 => absurd c2 (by omega))
  refine sr_aload_n hA si_166_19 rfl ?_
  refine sr_getR (r := 71) hA si_166_20 sf_166_33 (by decide) (by decide) rfl rfl rfl ?_
  refine sr_iload_n hA si_166_23 rfl ?_
  refine sr_ialdNv (v := nI 4) (n := 6) hA si_166_24 (by decide) rfl rfl (by omega) (by decide) hk ?_
  refine sr_istore_n (ls1 := [.ref 64, .int (nI i), .int (nI 5), .int (nI 4)]) hA si_166_25 rfl (by rw [sq_l_166]; decide) rfl ?_
  refine sr_iload_n hA si_166_26 rfl ?_
  refine sr_iload_n hA si_166_27 rfl ?_
  refine sr_icmp_eqN (tgt := 57) hA si_166_28 (by decide) (by omega) (by omega) (fun c3 => absurd c3 (by omega)) (fun c3 => ?_)
  refine sr_iload_n hA si_166_31 rfl ?_
  refine sr_iconst (v := nI 1) hA si_166_32 (by decide) ?_
  refine sr_icmp_neN (tgt := 41) hA si_166_33 (by decide) (by omega) (by omega) (fun c4 => ?_) (fun c4 => absurd c4 (by omega))
  refine sr_iload_n hA si_166_41 rfl ?_
  refine sr_iconst (v := nI 2) hA si_166_42 (by decide) ?_
  refine sr_icmp_neN (tgt := 51) hA si_166_43 (by decide) (by omega) (by omega) (fun c5 => ?_) (fun c5 => absurd c5 (by omega))
  refine sr_aload_n hA si_166_51 rfl ?_
  refine sr_iconst (v := nI 3) hA si_166_52 (by decide) ?_
  refine sr_VFi (c := 64) (ci := 8) (as := [.int (nI 3)]) (st := []) hA si_166_53 sv_141 sk_166_97 (mc_meets X g (by omega)) (by omega) rfl (by decide) (by decide) rfl sq_c_141 rfl (Nat.le_of_ble_eq_true rfl) ?_
  exact sr_iretF hA si_166_56 sq_r_166 rfl rfl
set_option maxRecDepth 20000 in
theorem mc_mark_r51 (X : sp_X) (g : sp_G) {i : Nat} (hi : i < 6)  {n : Nat} (hn : g.1 64 11 = nI n) (hb : n ≤ 6) (hin : i < n) (hk : g.1 71 i = nI 5) : sp_Ct X 9 166 [.ref 64, .int (nI i), .int (nI 1)] g (sp_Fi (-3) (sp_rm6 g 3)) := by
  refine sp_walkN (n := 4) sq_p_166 sq_l_166 (Nat.le_of_ble_eq_true rfl) (fun a hA => ?_)
  show sp_Ev X a 166 0 [.ref 64, .int (nI i), .int (nI 1), .null] [] g
  refine sr_aload_n hA si_166_0 rfl ?_
  refine sr_iload_n hA si_166_1 rfl ?_
  refine sr_VFi (c := 64) (ci := 8) (as := [.int (nI i)]) (st := []) hA si_166_2 sv_162 sk_166_174 (mc_isKey1 X g (n := n) hn (by omega) (by omega)) (by omega) rfl (by decide) (by decide) rfl sq_c_162 rfl (Nat.le_of_ble_eq_true rfl) ?_
  refine sr_if_eqN (tgt := 17) hA si_166_5 (by decide) (by omega) (fun c1 => absurd c1 (by omega)) (fun c1 => ?_)
  refine sr_iload_n hA si_166_8 rfl ?_
  refine sr_iconst (v := nI 1) hA si_166_9 (by decide) ?_
  refine sr_iconst (v := nI 5) hA si_166_10 (by decide) ?_
  refine sr_SFi (as := [.int (nI 1), .int (nI 1), .int (nI 5)]) (st := []) hA si_166_11 ss_135 sk_166_83 (mc_inN X g (by omega) (by omega) (by omega)) (by omega) rfl rfl (Nat.le_of_ble_eq_true rfl) ?_
  refine sr_if_neN (tgt := 19) hA si_166_14 (by decide) (by omega) (fun c2 => ?_) (fun c2 => absurd c2 (by omega))
  refine sr_aload_n hA si_166_19 rfl ?_
  refine sr_getR (r := 71) hA si_166_20 sf_166_33 (by decide) (by decide) rfl rfl rfl ?_
  refine sr_iload_n hA si_166_23 rfl ?_
  refine sr_ialdNv (v := nI 5) (n := 6) hA si_166_24 (by decide) rfl rfl (by omega) (by decide) hk ?_
  refine sr_istore_n (ls1 := [.ref 64, .int (nI i), .int (nI 1), .int (nI 5)]) hA si_166_25 rfl (by rw [sq_l_166]; decide) rfl ?_
  refine sr_iload_n hA si_166_26 rfl ?_
  refine sr_iload_n hA si_166_27 rfl ?_
  refine sr_icmp_eqN (tgt := 57) hA si_166_28 (by decide) (by omega) (by omega) (fun c3 => absurd c3 (by omega)) (fun c3 => ?_)
  refine sr_iload_n hA si_166_31 rfl ?_
  refine sr_iconst (v := nI 1) hA si_166_32 (by decide) ?_
  refine sr_icmp_neN (tgt := 41) hA si_166_33 (by decide) (by omega) (by omega) (fun c4 => absurd c4 (by omega)) (fun c4 => ?_)
  refine sr_iload_n hA si_166_36 rfl ?_
  refine sr_iconst (v := nI 4) hA si_166_37 (by decide) ?_
  refine sr_icmp_eqN (tgt := 57) hA si_166_38 (by decide) (by omega) (by omega) (fun c5 => absurd c5 (by omega)) (fun c5 => ?_)
  refine sr_iload_n hA si_166_41 rfl ?_
  refine sr_iconst (v := nI 2) hA si_166_42 (by decide) ?_
  refine sr_icmp_neN (tgt := 51) hA si_166_43 (by decide) (by omega) (by omega) (fun c6 => ?_) (fun c6 => absurd c6 (by omega))
  refine sr_aload_n hA si_166_51 rfl ?_
  refine sr_iconst (v := nI 3) hA si_166_52 (by decide) ?_
  refine sr_VFi (c := 64) (ci := 8) (as := [.int (nI 3)]) (st := []) hA si_166_53 sv_141 sk_166_97 (mc_meets X g (by omega)) (by omega) rfl (by decide) (by decide) rfl sq_c_141 rfl (Nat.le_of_ble_eq_true rfl) ?_
  exact sr_iretF hA si_166_56 sq_r_166 rfl rfl
set_option maxRecDepth 20000 in
theorem mc_mark_52 (X : sp_X) (g : sp_G) {i : Nat} (hi : i < 6)  {n : Nat} (hn : g.1 64 11 = nI n) (hb : n ≤ 6) (hin : i < n) (hk : g.1 71 i = nI 5) : sp_Ct X 9 166 [.ref 64, .int (nI i), .int (nI 2)] g (sp_Fi (if g.1 75 (9 * 0 + i) - g.1 72 i < nI 0 then nI 0 else g.1 75 (9 * 0 + i) - g.1 72 i) g) := by
  refine sp_walkN (n := 4) sq_p_166 sq_l_166 (Nat.le_of_ble_eq_true rfl) (fun a hA => ?_)
  show sp_Ev X a 166 0 [.ref 64, .int (nI i), .int (nI 2), .null] [] g
  refine sr_aload_n hA si_166_0 rfl ?_
  refine sr_iload_n hA si_166_1 rfl ?_
  refine sr_VFi (c := 64) (ci := 8) (as := [.int (nI i)]) (st := []) hA si_166_2 sv_162 sk_166_174 (mc_isKey1 X g (n := n) hn (by omega) (by omega)) (by omega) rfl (by decide) (by decide) rfl sq_c_162 rfl (Nat.le_of_ble_eq_true rfl) ?_
  refine sr_if_eqN (tgt := 17) hA si_166_5 (by decide) (by omega) (fun c1 => absurd c1 (by omega)) (fun c1 => ?_)
  refine sr_iload_n hA si_166_8 rfl ?_
  refine sr_iconst (v := nI 1) hA si_166_9 (by decide) ?_
  refine sr_iconst (v := nI 5) hA si_166_10 (by decide) ?_
  refine sr_SFi (as := [.int (nI 2), .int (nI 1), .int (nI 5)]) (st := []) hA si_166_11 ss_135 sk_166_83 (mc_inN X g (by omega) (by omega) (by omega)) (by omega) rfl rfl (Nat.le_of_ble_eq_true rfl) ?_
  refine sr_if_neN (tgt := 19) hA si_166_14 (by decide) (by omega) (fun c2 => ?_) (fun c2 => absurd c2 (by omega))
  refine sr_aload_n hA si_166_19 rfl ?_
  refine sr_getR (r := 71) hA si_166_20 sf_166_33 (by decide) (by decide) rfl rfl rfl ?_
  refine sr_iload_n hA si_166_23 rfl ?_
  refine sr_ialdNv (v := nI 5) (n := 6) hA si_166_24 (by decide) rfl rfl (by omega) (by decide) hk ?_
  refine sr_istore_n (ls1 := [.ref 64, .int (nI i), .int (nI 2), .int (nI 5)]) hA si_166_25 rfl (by rw [sq_l_166]; decide) rfl ?_
  refine sr_iload_n hA si_166_26 rfl ?_
  refine sr_iload_n hA si_166_27 rfl ?_
  refine sr_icmp_eqN (tgt := 57) hA si_166_28 (by decide) (by omega) (by omega) (fun c3 => absurd c3 (by omega)) (fun c3 => ?_)
  refine sr_iload_n hA si_166_31 rfl ?_
  refine sr_iconst (v := nI 1) hA si_166_32 (by decide) ?_
  refine sr_icmp_neN (tgt := 41) hA si_166_33 (by decide) (by omega) (by omega) (fun c4 => ?_) (fun c4 => absurd c4 (by omega))
  refine sr_iload_n hA si_166_41 rfl ?_
  refine sr_iconst (v := nI 2) hA si_166_42 (by decide) ?_
  refine sr_icmp_neN (tgt := 51) hA si_166_43 (by decide) (by omega) (by omega) (fun c5 => absurd c5 (by omega)) (fun c5 => ?_)
  refine sr_iload_n hA si_166_46 rfl ?_
  refine sr_iconst (v := nI 5) hA si_166_47 (by decide) ?_
  refine sr_icmp_eqN (tgt := 57) hA si_166_48 (by decide) (by omega) (by omega) (fun c6 => ?_) (fun c6 => absurd c6 (by omega))
  refine sr_iload_n hA si_166_57 rfl ?_
  refine sr_tswI (c := nI 2) (tgt := 99) hA si_166_58 rfl (by decide) (by decide) rfl (by decide) ?_
  refine sr_iconst (v := nI 0) hA si_166_99 (by decide) ?_
  refine sr_aload_n hA si_166_100 rfl ?_
  refine sr_iconst (v := nI 0) hA si_166_101 (by decide) ?_
  refine sr_iload_n hA si_166_102 rfl ?_
  refine sr_VFi (c := 64) (ci := 8) (as := [.int (nI 0), .int (nI i)]) (st := [.int (nI 0)]) hA si_166_103 sv_164 sk_166_152 (mc_v X g (f := 0) (i := i) (by omega)) (by omega) rfl (by decide) (by decide) rfl sq_c_164 rfl (Nat.le_of_ble_eq_true rfl) ?_
  refine sr_aload_n hA si_166_106 rfl ?_
  refine sr_getR (r := 72) hA si_166_107 sf_166_36 (by decide) (by decide) rfl rfl rfl ?_
  refine sr_iload_n hA si_166_110 rfl ?_
  refine sr_ialdNv (v := g.1 72 i) (n := 6) hA si_166_111 (by decide) rfl rfl (by omega) (by decide) rfl ?_
  refine sr_isub hA si_166_112 ?_
  refine sr_SFi (as := [.int (nI 0), .int ((g.1 75 (9 * 0 + i)) - (g.1 72 i))]) (st := []) hA si_166_113 ss_168 sk_166_180 (mc_greater X g (nI 0) ((g.1 75 (9 * 0 + i)) - (g.1 72 i))) (by omega) rfl rfl (Nat.le_of_ble_eq_true rfl) ?_
  exact sr_iretF hA si_166_116 sq_r_166 rfl rfl
set_option maxRecDepth 20000 in
theorem mc_mark_r53 (X : sp_X) (g : sp_G) {i : Nat} (hi : i < 6)  {n : Nat} (hn : g.1 64 11 = nI n) (hb : n ≤ 6) (hin : i < n) (hk : g.1 71 i = nI 5) : sp_Ct X 9 166 [.ref 64, .int (nI i), .int (nI 3)] g (sp_Fi (-3) (sp_rm6 g 3)) := by
  refine sp_walkN (n := 4) sq_p_166 sq_l_166 (Nat.le_of_ble_eq_true rfl) (fun a hA => ?_)
  show sp_Ev X a 166 0 [.ref 64, .int (nI i), .int (nI 3), .null] [] g
  refine sr_aload_n hA si_166_0 rfl ?_
  refine sr_iload_n hA si_166_1 rfl ?_
  refine sr_VFi (c := 64) (ci := 8) (as := [.int (nI i)]) (st := []) hA si_166_2 sv_162 sk_166_174 (mc_isKey1 X g (n := n) hn (by omega) (by omega)) (by omega) rfl (by decide) (by decide) rfl sq_c_162 rfl (Nat.le_of_ble_eq_true rfl) ?_
  refine sr_if_eqN (tgt := 17) hA si_166_5 (by decide) (by omega) (fun c1 => absurd c1 (by omega)) (fun c1 => ?_)
  refine sr_iload_n hA si_166_8 rfl ?_
  refine sr_iconst (v := nI 1) hA si_166_9 (by decide) ?_
  refine sr_iconst (v := nI 5) hA si_166_10 (by decide) ?_
  refine sr_SFi (as := [.int (nI 3), .int (nI 1), .int (nI 5)]) (st := []) hA si_166_11 ss_135 sk_166_83 (mc_inN X g (by omega) (by omega) (by omega)) (by omega) rfl rfl (Nat.le_of_ble_eq_true rfl) ?_
  refine sr_if_neN (tgt := 19) hA si_166_14 (by decide) (by omega) (fun c2 => ?_) (fun c2 => absurd c2 (by omega))
  refine sr_aload_n hA si_166_19 rfl ?_
  refine sr_getR (r := 71) hA si_166_20 sf_166_33 (by decide) (by decide) rfl rfl rfl ?_
  refine sr_iload_n hA si_166_23 rfl ?_
  refine sr_ialdNv (v := nI 5) (n := 6) hA si_166_24 (by decide) rfl rfl (by omega) (by decide) hk ?_
  refine sr_istore_n (ls1 := [.ref 64, .int (nI i), .int (nI 3), .int (nI 5)]) hA si_166_25 rfl (by rw [sq_l_166]; decide) rfl ?_
  refine sr_iload_n hA si_166_26 rfl ?_
  refine sr_iload_n hA si_166_27 rfl ?_
  refine sr_icmp_eqN (tgt := 57) hA si_166_28 (by decide) (by omega) (by omega) (fun c3 => absurd c3 (by omega)) (fun c3 => ?_)
  refine sr_iload_n hA si_166_31 rfl ?_
  refine sr_iconst (v := nI 1) hA si_166_32 (by decide) ?_
  refine sr_icmp_neN (tgt := 41) hA si_166_33 (by decide) (by omega) (by omega) (fun c4 => ?_) (fun c4 => absurd c4 (by omega))
  refine sr_iload_n hA si_166_41 rfl ?_
  refine sr_iconst (v := nI 2) hA si_166_42 (by decide) ?_
  refine sr_icmp_neN (tgt := 51) hA si_166_43 (by decide) (by omega) (by omega) (fun c5 => ?_) (fun c5 => absurd c5 (by omega))
  refine sr_aload_n hA si_166_51 rfl ?_
  refine sr_iconst (v := nI 3) hA si_166_52 (by decide) ?_
  refine sr_VFi (c := 64) (ci := 8) (as := [.int (nI 3)]) (st := []) hA si_166_53 sv_141 sk_166_97 (mc_meets X g (by omega)) (by omega) rfl (by decide) (by decide) rfl sq_c_141 rfl (Nat.le_of_ble_eq_true rfl) ?_
  exact sr_iretF hA si_166_56 sq_r_166 rfl rfl
set_option maxRecDepth 20000 in
theorem mc_mark_r54 (X : sp_X) (g : sp_G) {i : Nat} (hi : i < 6)  {n : Nat} (hn : g.1 64 11 = nI n) (hb : n ≤ 6) (hin : i < n) (hk : g.1 71 i = nI 5) : sp_Ct X 9 166 [.ref 64, .int (nI i), .int (nI 4)] g (sp_Fi (-3) (sp_rm6 g 3)) := by
  refine sp_walkN (n := 4) sq_p_166 sq_l_166 (Nat.le_of_ble_eq_true rfl) (fun a hA => ?_)
  show sp_Ev X a 166 0 [.ref 64, .int (nI i), .int (nI 4), .null] [] g
  refine sr_aload_n hA si_166_0 rfl ?_
  refine sr_iload_n hA si_166_1 rfl ?_
  refine sr_VFi (c := 64) (ci := 8) (as := [.int (nI i)]) (st := []) hA si_166_2 sv_162 sk_166_174 (mc_isKey1 X g (n := n) hn (by omega) (by omega)) (by omega) rfl (by decide) (by decide) rfl sq_c_162 rfl (Nat.le_of_ble_eq_true rfl) ?_
  refine sr_if_eqN (tgt := 17) hA si_166_5 (by decide) (by omega) (fun c1 => absurd c1 (by omega)) (fun c1 => ?_)
  refine sr_iload_n hA si_166_8 rfl ?_
  refine sr_iconst (v := nI 1) hA si_166_9 (by decide) ?_
  refine sr_iconst (v := nI 5) hA si_166_10 (by decide) ?_
  refine sr_SFi (as := [.int (nI 4), .int (nI 1), .int (nI 5)]) (st := []) hA si_166_11 ss_135 sk_166_83 (mc_inN X g (by omega) (by omega) (by omega)) (by omega) rfl rfl (Nat.le_of_ble_eq_true rfl) ?_
  refine sr_if_neN (tgt := 19) hA si_166_14 (by decide) (by omega) (fun c2 => ?_) (fun c2 => absurd c2 (by omega))
  refine sr_aload_n hA si_166_19 rfl ?_
  refine sr_getR (r := 71) hA si_166_20 sf_166_33 (by decide) (by decide) rfl rfl rfl ?_
  refine sr_iload_n hA si_166_23 rfl ?_
  refine sr_ialdNv (v := nI 5) (n := 6) hA si_166_24 (by decide) rfl rfl (by omega) (by decide) hk ?_
  refine sr_istore_n (ls1 := [.ref 64, .int (nI i), .int (nI 4), .int (nI 5)]) hA si_166_25 rfl (by rw [sq_l_166]; decide) rfl ?_
  refine sr_iload_n hA si_166_26 rfl ?_
  refine sr_iload_n hA si_166_27 rfl ?_
  refine sr_icmp_eqN (tgt := 57) hA si_166_28 (by decide) (by omega) (by omega) (fun c3 => absurd c3 (by omega)) (fun c3 => ?_)
  refine sr_iload_n hA si_166_31 rfl ?_
  refine sr_iconst (v := nI 1) hA si_166_32 (by decide) ?_
  refine sr_icmp_neN (tgt := 41) hA si_166_33 (by decide) (by omega) (by omega) (fun c4 => ?_) (fun c4 => absurd c4 (by omega))
  refine sr_iload_n hA si_166_41 rfl ?_
  refine sr_iconst (v := nI 2) hA si_166_42 (by decide) ?_
  refine sr_icmp_neN (tgt := 51) hA si_166_43 (by decide) (by omega) (by omega) (fun c5 => ?_) (fun c5 => absurd c5 (by omega))
  refine sr_aload_n hA si_166_51 rfl ?_
  refine sr_iconst (v := nI 3) hA si_166_52 (by decide) ?_
  refine sr_VFi (c := 64) (ci := 8) (as := [.int (nI 3)]) (st := []) hA si_166_53 sv_141 sk_166_97 (mc_meets X g (by omega)) (by omega) rfl (by decide) (by decide) rfl sq_c_141 rfl (Nat.le_of_ble_eq_true rfl) ?_
  exact sr_iretF hA si_166_56 sq_r_166 rfl rfl
set_option maxRecDepth 20000 in
theorem mc_mark_55 (X : sp_X) (g : sp_G) {i : Nat} (hi : i < 6)  {n : Nat} (hn : g.1 64 11 = nI n) (hb : n ≤ 6) (hin : i < n) (hk : g.1 71 i = nI 5) (hK : sp_kk g 71 n) : sp_Ct X 9 166 [.ref 64, .int (nI i), .int (nI 5)] g (sp_Fi (nI n - nI (sp_pc (sp_st (fun i => sp_cb (g.1 71 i) (g.1 72 i) (g.1 75 (9 * 0 + i))) n))) g) := by
  refine sp_walkN (n := 4) sq_p_166 sq_l_166 (Nat.le_of_ble_eq_true rfl) (fun a hA => ?_)
  show sp_Ev X a 166 0 [.ref 64, .int (nI i), .int (nI 5), .null] [] g
  refine sr_aload_n hA si_166_0 rfl ?_
  refine sr_iload_n hA si_166_1 rfl ?_
  refine sr_VFi (c := 64) (ci := 8) (as := [.int (nI i)]) (st := []) hA si_166_2 sv_162 sk_166_174 (mc_isKey1 X g (n := n) hn (by omega) (by omega)) (by omega) rfl (by decide) (by decide) rfl sq_c_162 rfl (Nat.le_of_ble_eq_true rfl) ?_
  refine sr_if_eqN (tgt := 17) hA si_166_5 (by decide) (by omega) (fun c1 => absurd c1 (by omega)) (fun c1 => ?_)
  refine sr_iload_n hA si_166_8 rfl ?_
  refine sr_iconst (v := nI 1) hA si_166_9 (by decide) ?_
  refine sr_iconst (v := nI 5) hA si_166_10 (by decide) ?_
  refine sr_SFi (as := [.int (nI 5), .int (nI 1), .int (nI 5)]) (st := []) hA si_166_11 ss_135 sk_166_83 (mc_inN X g (by omega) (by omega) (by omega)) (by omega) rfl rfl (Nat.le_of_ble_eq_true rfl) ?_
  refine sr_if_neN (tgt := 19) hA si_166_14 (by decide) (by omega) (fun c2 => ?_) (fun c2 => absurd c2 (by omega))
  refine sr_aload_n hA si_166_19 rfl ?_
  refine sr_getR (r := 71) hA si_166_20 sf_166_33 (by decide) (by decide) rfl rfl rfl ?_
  refine sr_iload_n hA si_166_23 rfl ?_
  refine sr_ialdNv (v := nI 5) (n := 6) hA si_166_24 (by decide) rfl rfl (by omega) (by decide) hk ?_
  refine sr_istore_n (ls1 := [.ref 64, .int (nI i), .int (nI 5), .int (nI 5)]) hA si_166_25 rfl (by rw [sq_l_166]; decide) rfl ?_
  refine sr_iload_n hA si_166_26 rfl ?_
  refine sr_iload_n hA si_166_27 rfl ?_
  refine sr_icmp_eqN (tgt := 57) hA si_166_28 (by decide) (by omega) (by omega) (fun c3 => ?_) (fun c3 => absurd c3 (by omega))
  refine sr_iload_n hA si_166_57 rfl ?_
  refine sr_tswO (tgt := 130) hA si_166_58 (by decide) (by decide) ?_
  refine sr_aload_n hA si_166_130 rfl ?_
  refine sr_getIv (v := nI n) hA si_166_131 sf_166_142 (by decide) (by decide) rfl (by decide) hn ?_
  refine sr_aload_n hA si_166_134 rfl ?_
  refine sr_iconst (v := nI 0) hA si_166_135 (by decide) ?_
  refine sr_VFi (c := 64) (ci := 8) (as := [.int (nI 0)]) (st := [.int (nI n)]) hA si_166_136 sv_170 sk_166_183 (mc_canSet X g (f := 0) (n := n) hn (by omega) (by omega) hK) (by omega) rfl (by decide) (by decide) rfl sq_c_170 rfl (Nat.le_of_ble_eq_true rfl) ?_
  refine sr_SFi (as := [.int (nI (sp_st (fun i => sp_cb (g.1 71 i) (g.1 72 i) (g.1 75 (9 * 0 + i))) n))]) (st := [.int (nI n)]) hA si_166_139 ss_171 sk_166_186 (mc_bits X g (sp_st_64 _ (by omega))) (by omega) rfl rfl (Nat.le_of_ble_eq_true rfl) ?_
  refine sr_isub hA si_166_142 ?_
  exact sr_iretF hA si_166_143 sq_r_166 rfl rfl
