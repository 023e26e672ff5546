/-! pages of nine figures -/
def sp_gv (g : sp_G) (c j : Nat) : Nat → Int32 := fun i => g.1 c (9 * j + i)
def sp_sG (g : sp_G) (c j : Nat) (v : Nat → Int32) : sp_G := sp_wA g c (fun x => if 9 * j ≤ x ∧ x < 9 * j + 9 then v (x - 9 * j) else g.1 c x)
theorem sp_sG_rd {g : sp_G} {c j c' x : Nat} {v : Nat → Int32} : (sp_sG g c j v).1 c' x = if c' = c ∧ 9 * j ≤ x ∧ x < 9 * j + 9 then v (x - 9 * j) else g.1 c' x := by
  unfold sp_sG
  rw [sp_rdW]
  by_cases h : c' = c
  · subst h
    by_cases h2 : 9 * j ≤ x ∧ x < 9 * j + 9 <;> simp [h2]
  · simp [h]
theorem sp_sG_o {g : sp_G} {c j c' : Nat} {v : Nat → Int32} (h : c' ≠ c) : (sp_sG g c j v).1 c' = g.1 c' := funext fun x => by rw [sp_sG_rd, if_neg (fun q => h q.1)]
theorem sp_writeEq {g : sp_G} {s o c j : Nat} {w1 w2 w3 : Int32} (h1 : w1 = g.1 s 1) (h2 : w2 = g.1 s 2) (h3 : w3 = g.1 s 3) : sp_wI (sp_wI (sp_wI (sp_wA g c (va_cpy (g.1 o) (g.1 c) 0 (j * 9) 6)) c (j * 9 + 6) w1) c (j * 9 + 6 + 1) w2) c (j * 9 + 6 + 2) w3 = sp_sG g c j (sp_sv g s o) := sp_gext (fun c' x => by
  rw [sp_rd, sp_rd, sp_rd, sp_rdW, sp_sG_rd]
  unfold sp_sv
  by_cases h : c' = c
  · subst h
    by_cases x8 : x = j * 9 + 6 + 2
    · rw [if_pos ⟨rfl, x8⟩, if_pos (by omega), if_neg (by omega), show x - 9 * j - 5 = 3 by omega, h3]
    · rw [if_neg (fun q => x8 q.2)]
      by_cases x7 : x = j * 9 + 6 + 1
      · rw [if_pos ⟨rfl, x7⟩, if_pos (by omega), if_neg (by omega), show x - 9 * j - 5 = 2 by omega, h2]
      · rw [if_neg (fun q => x7 q.2)]
        by_cases x6 : x = j * 9 + 6
        · rw [if_pos ⟨rfl, x6⟩, if_pos (by omega), if_neg (by omega), show x - 9 * j - 5 = 1 by omega, h1]
        · rw [if_neg (fun q => x6 q.2), if_pos rfl]
          by_cases hin : j * 9 ≤ x ∧ x < j * 9 + 6
          · rw [pk_cpy_in hin.1 hin.2, if_pos (by omega), if_pos (by omega), show 0 + (x - j * 9) = x - 9 * j by omega]
          · rw [pk_cpy_out (by omega), if_neg (by omega)]
  · rw [if_neg (fun q => h q.1), if_neg (fun q => h q.1), if_neg (fun q => h q.1), if_neg h, if_neg (fun q => h q.1)]) rfl
theorem sp_tellEq {g : sp_G} {s o c j : Nat} (hso : o ≠ s) : sp_wI (sp_wI (sp_wI (sp_wA g o (va_cpy (g.1 c) (g.1 o) (j * 9) 0 6)) s 1 (g.1 c (j * 9 + 6))) s 2 (g.1 c (j * 9 + 6 + 1))) s 3 (g.1 c (j * 9 + 6 + 2)) = sp_sS g s o (sp_gv g c j) := sp_gext (fun c' x => by
  rw [sp_rd, sp_rd, sp_rd, sp_rdW, sp_sS_rd]
  unfold sp_gv
  by_cases h2 : c' = o
  · subst h2
    rw [if_neg (fun q => hso q.1), if_neg (fun q => hso q.1), if_neg (fun q => hso q.1), if_pos rfl]
    by_cases h6 : x < 6
    · rw [pk_cpy_in (by omega) (by omega), if_pos ⟨rfl, h6⟩, show j * 9 + (x - 0) = 9 * j + x by omega]
    · rw [pk_cpy_out (by omega), if_neg (fun q => h6 q.2), if_neg (fun q => hso q.1)]
  · rw [if_neg h2, if_neg (show ¬ (c' = o ∧ x < 6) from fun q => h2 q.1)]
    by_cases hs : c' = s
    · subst hs
      by_cases j3 : x = 3
      · subst j3
        rw [if_pos ⟨rfl, rfl⟩, if_pos (by omega)]
        exact congrArg (g.1 c) (by omega)
      · rw [if_neg (fun q => j3 q.2)]
        by_cases j2 : x = 2
        · subst j2
          rw [if_pos ⟨rfl, rfl⟩, if_pos (by omega)]
          exact congrArg (g.1 c) (by omega)
        · rw [if_neg (fun q => j2 q.2)]
          by_cases j1 : x = 1
          · subst j1
            rw [if_pos ⟨rfl, rfl⟩, if_pos (by omega)]
            exact congrArg (g.1 c) (by omega)
          · rw [if_neg (fun q => j1 q.2), if_neg (by omega)]
    · rw [if_neg (show ¬ (c' = s ∧ x = 3) from fun q => hs q.1), if_neg (show ¬ (c' = s ∧ x = 2) from fun q => hs q.1), if_neg (show ¬ (c' = s ∧ x = 1) from fun q => hs q.1), if_neg (show ¬ (c' = s ∧ 1 ≤ x ∧ x ≤ 3) from fun q => hs q.1)]) rfl
set_option maxRecDepth 20000 in
theorem xc_write (X : sp_X) (g : sp_G) {dm : Nat} (hd : g.1 47 1 = nI dm) (hdb : dm ≤ 60) : sp_Ct X 1 41 [.ref 47, .ref 41] g (sp_Fv (sp_sG g 48 dm (sp_sv g 41 42))) := by
  refine sp_walkN (n := 3) sq_p_41 sq_l_41 (Nat.le_of_ble_eq_true rfl) (fun a hA => ?_)
  show sp_Ev X a 41 0 [.ref 47, .ref 41, .null] [] g
  refine sr_aload_n hA si_41_0 rfl ?_
  refine sr_getIv (v := nI dm) hA si_41_1 sf_41_21 (by decide) (by decide) rfl (by decide) hd ?_
  refine sr_bipush (v := nI 9) hA si_41_4 (by decide) ?_
  refine sr_imulN hA si_41_6 ?_
  refine sr_istore_n (ls1 := [.ref 47, .ref 41, .int (nI (dm * 9))]) hA si_41_7 rfl (by rw [sq_l_41]; decide) rfl ?_
  refine sr_aload_n hA si_41_8 rfl ?_
  refine sr_getR (r := 42) hA si_41_9 sf_41_32 (by decide) (by decide) rfl rfl rfl ?_
  refine sr_iconst (v := nI 0) hA si_41_12 (by decide) ?_
  refine sr_aload_n hA si_41_13 rfl ?_
  refine sr_getR (r := 48) hA si_41_14 sf_41_11 (by decide) (by decide) rfl rfl rfl ?_
  refine sr_iload_n hA si_41_17 rfl ?_
  refine sr_bipush (v := nI 6) hA si_41_18 (by decide) ?_
  refine sr_copyN (n0 := 6) (n1 := 549) hA si_41_20 sk_41_35 sn_1 sn_2 sn_3 (by omega) (by decide) (by decide) rfl rfl rfl rfl (by omega) (by omega) (by decide) (by decide) (Nat.le_of_ble_eq_true rfl) ?_
  refine sr_aload_n hA si_41_23 rfl ?_
  refine sr_getR (r := 48) hA si_41_24 sf_41_11 (by decide) (by decide) rfl rfl rfl ?_
  refine sr_iload_n hA si_41_27 rfl ?_
  refine sr_bipush (v := nI 6) hA si_41_28 (by decide) ?_
  refine sr_iaddN hA si_41_30 ?_
  refine sr_aload_n hA si_41_31 rfl ?_
  refine sr_getIv (v := g.1 41 1) hA si_41_32 sf_41_41 (by decide) (by decide) rfl (by decide) rfl ?_
  refine sr_iastN (n := 549) hA si_41_35 (by decide) rfl rfl (by omega) (by decide) ?_
  refine sr_aload_n hA si_41_36 rfl ?_
  refine sr_getR (r := 48) hA si_41_37 sf_41_11 (by decide) (by decide) rfl rfl rfl ?_
  refine sr_iload_n hA si_41_40 rfl ?_
  refine sr_bipush (v := nI 6) hA si_41_41 (by decide) ?_
  refine sr_iaddN hA si_41_43 ?_
  refine sr_iconst (v := nI 1) hA si_41_44 (by decide) ?_
  refine sr_iaddN hA si_41_45 ?_
  refine sr_aload_n hA si_41_46 rfl ?_
  refine sr_getIv (v := g.1 41 2) hA si_41_47 sf_41_44 (by decide) (by decide) rfl (by decide) rfl ?_
  refine sr_iastN (n := 549) hA si_41_50 (by decide) rfl rfl (by omega) (by decide) ?_
  refine sr_aload_n hA si_41_51 rfl ?_
  refine sr_getR (r := 48) hA si_41_52 sf_41_11 (by decide) (by decide) rfl rfl rfl ?_
  refine sr_iload_n hA si_41_55 rfl ?_
  refine sr_bipush (v := nI 6) hA si_41_56 (by decide) ?_
  refine sr_iaddN hA si_41_58 ?_
  refine sr_iconst (v := nI 2) hA si_41_59 (by decide) ?_
  refine sr_iaddN hA si_41_60 ?_
  refine sr_aload_n hA si_41_61 rfl ?_
  refine sr_getIv (v := g.1 41 3) hA si_41_62 sf_41_47 (by decide) (by decide) rfl (by decide) rfl ?_
  refine sr_iastN (n := 549) hA si_41_65 (by decide) rfl rfl (by omega) (by decide) ?_
  exact sr_vretF hA si_41_66 sq_r_41 (sp_writeEq rfl rfl rfl)
set_option maxRecDepth 20000 in
theorem xc_full0 (X : sp_X) (g : sp_G) {dm : Nat} (hd : g.1 47 1 = nI dm) {q : Nat} (hq : dm + q ≤ 60) : sp_Ct X 0 54 [.ref 47, .int (nI q)] g (sp_Fi (nI 0) g) := by
  refine sp_walkN (n := 2) sq_p_54 sq_l_54 (Nat.le_of_ble_eq_true rfl) (fun a hA => ?_)
  show sp_Ev X a 54 0 [.ref 47, .int (nI q)] [] g
  refine sr_aload_n hA si_54_0 rfl ?_
  refine sr_getIv (v := nI dm) hA si_54_1 sf_54_21 (by decide) (by decide) rfl (by decide) hd ?_
  refine sr_iload_n hA si_54_4 rfl ?_
  refine sr_iaddN hA si_54_5 ?_
  refine sr_bipush (v := nI 60) hA si_54_6 (by decide) ?_
  refine sr_icmp_leN (tgt := 15) hA si_54_8 (by decide) (by omega) (by omega) (fun c1 => ?_) (fun c1 => absurd c1 (by omega))
  refine sr_iconst (v := nI 0) hA si_54_15 (by decide) ?_
  exact sr_zretF hA si_54_16 sq_r_54 (by decide) rfl rfl
set_option maxRecDepth 20000 in
theorem xc_full1 (X : sp_X) (g : sp_G) {dm : Nat} (hd : g.1 47 1 = nI dm) {q : Nat} (hq : 60 < dm + q) (hqb : q ≤ 60) (hdb : dm ≤ 60) : sp_Ct X 0 54 [.ref 47, .int (nI q)] g (sp_Fi (nI 1) g) := by
  refine sp_walkN (n := 2) sq_p_54 sq_l_54 (Nat.le_of_ble_eq_true rfl) (fun a hA => ?_)
  show sp_Ev X a 54 0 [.ref 47, .int (nI q)] [] g
  refine sr_aload_n hA si_54_0 rfl ?_
  refine sr_getIv (v := nI dm) hA si_54_1 sf_54_21 (by decide) (by decide) rfl (by decide) hd ?_
  refine sr_iload_n hA si_54_4 rfl ?_
  refine sr_iaddN hA si_54_5 ?_
  refine sr_bipush (v := nI 60) hA si_54_6 (by decide) ?_
  refine sr_icmp_leN (tgt := 15) hA si_54_8 (by decide) (by omega) (by omega) (fun c1 => absurd c1 (by omega)) (fun c1 => ?_)
  refine sr_iconst (v := nI 1) hA si_54_11 (by decide) ?_
  refine sr_goto (tgt := 16) hA si_54_12 (by decide) ?_
  exact sr_zretF hA si_54_16 sq_r_54 (by decide) rfl rfl
set_option maxRecDepth 20000 in
theorem xc_add (X : sp_X) (g : sp_G) {dm : Nat} (hd : g.1 47 1 = nI dm) (hdb : dm < 60) : sp_Ct X 2 58 [.ref 47, .ref 41] g (sp_Fv (sp_sG (sp_wI g 47 1 (nI (dm + 1))) 48 (dm + 1) (sp_sv g 41 42))) := by
  refine sp_walkN (n := 2) sq_p_58 sq_l_58 (Nat.le_of_ble_eq_true rfl) (fun a hA => ?_)
  show sp_Ev X a 58 0 [.ref 47, .ref 41] [] g
  refine sr_aload_n hA si_58_0 rfl ?_
  refine sr_iconst (v := nI 1) hA si_58_1 (by decide) ?_
  refine sr_VFi (c := 47) (ci := 6) (as := [.int (nI 1)]) (st := []) hA si_58_2 sv_54 sk_58_28 (xc_full0 X g hd (by omega)) (by omega) rfl (by decide) (by decide) rfl sq_c_54 rfl (Nat.le_of_ble_eq_true rfl) ?_
  refine sr_if_neN (tgt := 23) hA si_58_5 (by decide) (by omega) (fun c1 => absurd c1 (by omega)) (fun c1 => ?_)
  refine sr_aload_n hA si_58_8 rfl ?_
  refine sr_dup hA si_58_9 rfl ?_
  refine sr_getIv (v := nI dm) hA si_58_10 sf_58_21 (by decide) (by decide) rfl (by decide) hd ?_
  refine sr_iconst (v := nI 1) hA si_58_13 (by decide) ?_
  refine sr_iaddN hA si_58_14 ?_
  refine sr_putI hA si_58_15 sf_58_21 rfl rfl (by decide) (by decide) rfl rfl ?_
  refine sr_aload_n hA si_58_18 rfl ?_
  refine sr_aload_n hA si_58_19 rfl ?_
  refine sr_VFv (c := 47) (ci := 6) (as := [.ref 41]) (st := []) hA si_58_20 sv_41 sk_58_24 (xc_write X (sp_wI g 47 1 (nI (dm + 1))) rfl (by omega)) (by omega) rfl (by decide) (by decide) rfl sq_c_41 rfl (Nat.le_of_ble_eq_true rfl) ?_
  exact sr_vretF hA si_58_23 sq_r_58 rfl
set_option maxRecDepth 20000 in
theorem xc_isKey1 (X : sp_X) (g : sp_G) {k n : Nat} (hn : g.1 18 3 = nI n) (hk : k < n) (hb : n ≤ 6) : sp_Ct X 0 43 [.ref 18, .int (nI k)] g (sp_Fi (nI 1) g) := by
  refine sp_walkN (n := 2) sq_p_43 sq_l_43 (Nat.le_of_ble_eq_true rfl) (fun a hA => ?_)
  show sp_Ev X a 43 0 [.ref 18, .int (nI k)] [] g
  refine sr_iload_n hA si_43_0 rfl ?_
  refine sr_if_ltN (tgt := 16) hA si_43_1 (by decide) (by omega) ?_
  refine sr_iload_n hA si_43_4 rfl ?_
  refine sr_aload_n hA si_43_5 rfl ?_
  refine sr_getIv (v := nI n) hA si_43_6 sf_43_21 (by decide) (by decide) rfl (by decide) hn ?_
  refine sr_icmp_geN (tgt := 16) hA si_43_9 (by decide) (by omega) (by omega) (fun c2 => absurd c2 (by omega)) (fun c2 => ?_)
  refine sr_iconst (v := nI 1) hA si_43_12 (by decide) ?_
  refine sr_goto (tgt := 17) hA si_43_13 (by decide) ?_
  exact sr_zretF hA si_43_17 sq_r_43 (by decide) rfl rfl
set_option maxRecDepth 20000 in
theorem xc_isKeyH (X : sp_X) (g : sp_G) {k n : Nat} (hn : g.1 18 3 = nI n) (hk : n ≤ k) (hb : k < 2 ^ 31) : sp_Ct X 0 43 [.ref 18, .int (nI k)] g (sp_Fi (nI 0) g) := by
  refine sp_walkN (n := 2) sq_p_43 sq_l_43 (Nat.le_of_ble_eq_true rfl) (fun a hA => ?_)
  show sp_Ev X a 43 0 [.ref 18, .int (nI k)] [] g
  refine sr_iload_n hA si_43_0 rfl ?_
  refine sr_if_ltN (tgt := 16) hA si_43_1 (by decide) (by omega) ?_
  refine sr_iload_n hA si_43_4 rfl ?_
  refine sr_aload_n hA si_43_5 rfl ?_
  refine sr_getIv (v := nI n) hA si_43_6 sf_43_21 (by decide) (by decide) rfl (by decide) hn ?_
  refine sr_icmp_geN (tgt := 16) hA si_43_9 (by decide) (by omega) (by omega) (fun c2 => ?_) (fun c2 => absurd c2 (by omega))
  refine sr_iconst (v := nI 0) hA si_43_16 (by decide) ?_
  exact sr_zretF hA si_43_17 sq_r_43 (by decide) rfl rfl
set_option maxRecDepth 20000 in
theorem xc_isKeyM (X : sp_X) (g : sp_G) {x : Int32} (hx : x < 0) : sp_Ct X 0 43 [.ref 18, .int x] g (sp_Fi (nI 0) g) := by
  refine sp_walkN (n := 2) sq_p_43 sq_l_43 (Nat.le_of_ble_eq_true rfl) (fun a hA => ?_)
  show sp_Ev X a 43 0 [.ref 18, .int x] [] g
  refine sr_iload_n hA si_43_0 rfl ?_
  refine sr_if_lt (tgt := 16) hA si_43_1 (by decide) (fun c1 => ?_) (fun c1 => absurd hx c1)
  refine sr_iconst (v := nI 0) hA si_43_16 (by decide) ?_
  exact sr_zretF hA si_43_17 sq_r_43 (by decide) rfl rfl
theorem sp_rmS {g : sp_G} {dm i : Nat} (hi : i < 9) : sp_wI (sp_sG g 76 dm (fun j => if j < i then g.1 75 j else g.1 76 (9 * dm + j))) 76 (9 * dm + i) ((sp_sG g 76 dm (fun j => if j < i then g.1 75 j else g.1 76 (9 * dm + j))).1 75 (9 * 0 + i)) = sp_sG g 76 dm (fun j => if j < i + 1 then g.1 75 j else g.1 76 (9 * dm + j)) := sp_gext (fun c x => by
  rw [sp_rd, sp_sG_rd, sp_sG_rd, sp_sG_rd, if_neg (show ¬ (75 = 76 ∧ _) by omega)]
  by_cases h : c = 76 ∧ x = 9 * dm + i
  · rw [if_pos h, if_pos (by omega), if_pos (by omega)]
    exact congrArg (g.1 75) (by omega)
  · rw [if_neg h]
    by_cases h2 : c = 76 ∧ 9 * dm ≤ x ∧ x < 9 * dm + 9
    · rw [if_pos h2, if_pos h2]
      by_cases h3 : x - 9 * dm < i
      · rw [if_pos h3, if_pos (by omega)]
      · rw [if_neg h3, if_neg (by omega)]
    · rw [if_neg h2, if_neg h2]) rfl
theorem sp_rm0 {g : sp_G} {dm : Nat} : sp_sG g 76 dm (fun j => if j < 0 then g.1 75 j else g.1 76 (9 * dm + j)) = g := sp_gext (fun c x => by
  rw [sp_sG_rd]
  by_cases h2 : c = 76 ∧ 9 * dm ≤ x ∧ x < 9 * dm + 9
  · rw [if_pos h2, if_neg (by omega), h2.1, show 9 * dm + (x - 9 * dm) = x by omega]
  · rw [if_neg h2]) rfl
theorem sp_rm9 {g : sp_G} {dm : Nat} : sp_sG g 76 dm (fun j => if j < 9 then g.1 75 j else g.1 76 (9 * dm + j)) = sp_sG g 76 dm (g.1 75) := sp_gext (fun c x => by
  rw [sp_sG_rd, sp_sG_rd]
  by_cases h2 : c = 76 ∧ 9 * dm ≤ x ∧ x < 9 * dm + 9
  · rw [if_pos h2, if_pos h2, if_pos (by omega)]
  · rw [if_neg h2, if_neg h2]) rfl
set_option maxRecDepth 20000 in
theorem ml_remember {X : sp_X} {a : sp_Ac} {g : sp_G} {dm : Nat} (hd : g.1 64 21 = nI dm) (hdb : dm < 60) (hA : sp_Act X 174 1 (sp_Fv (sp_wI (sp_sG g 76 dm (g.1 75)) 64 21 (nI (dm + 1)))) a) : ∀ (m : Nat) (i : Nat), i + m = 9 → sp_Ev X a 174 2 [.ref 64, .int (nI i)] [] (sp_sG g 76 dm (fun j => if j < i then g.1 75 j else g.1 76 (9 * dm + j))) := by
  intro m
  induction m with
  | zero =>
    intro i h0_
    refine sr_iload_n hA si_174_2 rfl ?_
    refine sr_bipush (v := nI 9) hA si_174_3 (by decide) ?_
    refine sr_icmp_geN (tgt := 34) hA si_174_5 (by decide) (by omega) (by omega) (fun c1 => ?_) (fun c1 => absurd c1 (by omega))
    refine sr_aload_n hA si_174_34 rfl ?_
    refine sr_dup hA si_174_35 rfl ?_
    refine sr_getIv (v := nI dm) hA si_174_36 sf_174_149 (by decide) (by decide) rfl (by decide) (by rw [sp_sG_o (by decide)]; exact hd) ?_
    refine sr_iconst (v := nI 1) hA si_174_39 (by decide) ?_
    refine sr_iaddN hA si_174_40 ?_
    refine sr_putI hA si_174_41 sf_174_149 rfl rfl (by decide) (by decide) rfl rfl ?_
    exact sr_vretF hA si_174_44 sq_r_174 (by rw [show i = 9 by omega, sp_rm9])
  | succ m ih =>
    intro i h0_
    refine sr_iload_n hA si_174_2 rfl ?_
    refine sr_bipush (v := nI 9) hA si_174_3 (by decide) ?_
    refine sr_icmp_geN (tgt := 34) hA si_174_5 (by decide) (by omega) (by omega) (fun c1 => absurd c1 (by omega)) (fun c1 => ?_)
    refine sr_aload_n hA si_174_8 rfl ?_
    refine sr_getR (r := 76) hA si_174_9 sf_174_48 (by decide) (by decide) rfl rfl rfl ?_
    refine sr_bipush (v := nI 9) hA si_174_12 (by decide) ?_
    refine sr_aload_n hA si_174_14 rfl ?_
    refine sr_getIv (v := nI dm) hA si_174_15 sf_174_149 (by decide) (by decide) rfl (by decide) (by rw [sp_sG_o (by decide)]; exact hd) ?_
    refine sr_imulN hA si_174_18 ?_
    refine sr_iload_n hA si_174_19 rfl ?_
    refine sr_iaddN hA si_174_20 ?_
    refine sr_aload_n hA si_174_21 rfl ?_
    refine sr_iconst (v := nI 0) hA si_174_22 (by decide) ?_
    refine sr_iload_n hA si_174_23 rfl ?_
    refine sr_VFi (c := 64) (ci := 8) (as := [.int (nI 0), .int (nI i)]) (st := [.int (nI ((9 * dm) + i)), .ref 76]) hA si_174_24 sv_164 sk_174_152 (mc_v X (sp_sG g 76 dm (fun j => if j < i then g.1 75 j else g.1 76 (9 * dm + j))) (f := 0) (i := i) (by omega)) (by omega) rfl (by decide) (by decide) rfl sq_c_164 rfl (Nat.le_of_ble_eq_true rfl) ?_
    refine sr_iastN (n := 540) hA si_174_27 (by decide) rfl rfl (by omega) (by decide) ?_
    refine sr_iincN (x := i) (y := 1) (ls1 := [.ref 64, .int (nI (i + 1))]) hA si_174_28 rfl rfl (by rw [sq_l_174]; decide) rfl ?_
    refine sr_goto (tgt := 2) hA si_174_31 (by decide) ?_
    rw [sp_rmS (by omega)]
    exact ih (i + 1) (by omega)
set_option maxRecDepth 20000 in
theorem mc_remember (X : sp_X) (g : sp_G) {dm : Nat} (hd : g.1 64 21 = nI dm) (hdb : dm < 60) : sp_Ct X 1 174 [.ref 64] g (sp_Fv (sp_wI (sp_sG g 76 dm (g.1 75)) 64 21 (nI (dm + 1)))) := by
  refine sp_walkN (n := 2) sq_p_174 sq_l_174 (Nat.le_of_ble_eq_true rfl) (fun a hA => ?_)
  show sp_Ev X a 174 0 [.ref 64, .null] [] g
  refine sr_iconst (v := nI 0) hA si_174_0 (by decide) ?_
  refine sr_istore_n (ls1 := [.ref 64, .int (nI 0)]) hA si_174_1 rfl (by rw [sq_l_174]; decide) rfl ?_
  have h0 := ml_remember (g := g) hd hdb hA 9 0 (by omega)
  rw [sp_rm0] at h0
  exact h0
set_option maxRecDepth 20000 in
theorem mc_need0 (X : sp_X) (g : sp_G) {n dm : Nat} (hn : g.1 64 11 = nI n) (hn0 : 0 < n) (hb : n ≤ 6) (hd : g.1 64 21 = nI dm) (hdb : dm < 60) : sp_Ct X 0 180 [.ref 64] g (sp_Fi (nI 0) g) := by
  refine sp_walkN (n := 1) sq_p_180 sq_l_180 (Nat.le_of_ble_eq_true rfl) (fun a hA => ?_)
  show sp_Ev X a 180 0 [.ref 64] [] g
  refine sr_aload_n hA si_180_0 rfl ?_
  refine sr_getIv (v := nI n) hA si_180_1 sf_180_142 (by decide) (by decide) rfl (by decide) hn ?_
  refine sr_if_neN (tgt := 12) hA si_180_4 (by decide) (by omega) (fun c1 => ?_) (fun c1 => absurd c1 (by omega))
  refine sr_aload_n hA si_180_12 rfl ?_
  refine sr_getIv (v := nI dm) hA si_180_13 sf_180_149 (by decide) (by decide) rfl (by decide) hd ?_
  refine sr_bipush (v := nI 60) hA si_180_16 (by decide) ?_
  refine sr_icmp_neN (tgt := 26) hA si_180_18 (by decide) (by omega) (by omega) (fun c2 => ?_) (fun c2 => absurd c2 (by omega))
  refine sr_iconst (v := nI 0) hA si_180_26 (by decide) ?_
  exact sr_iretF hA si_180_27 sq_r_180 rfl rfl
set_option maxRecDepth 20000 in
theorem mc_needS (X : sp_X) (g : sp_G) (hn : g.1 64 11 = nI 0) : sp_Ct X 0 180 [.ref 64] g (sp_Fi (-4) g) := by
  refine sp_walkN (n := 1) sq_p_180 sq_l_180 (Nat.le_of_ble_eq_true rfl) (fun a hA => ?_)
  show sp_Ev X a 180 0 [.ref 64] [] g
  refine sr_aload_n hA si_180_0 rfl ?_
  refine sr_getIv (v := nI 0) hA si_180_1 sf_180_142 (by decide) (by decide) rfl (by decide) hn ?_
  refine sr_if_neN (tgt := 12) hA si_180_4 (by decide) (by omega) (fun c1 => absurd c1 (by omega)) (fun c1 => ?_)
  refine sr_bipush (v := (-4)) hA si_180_7 (by decide) ?_
  refine sr_goto (tgt := 27) hA si_180_9 (by decide) ?_
  exact sr_iretF hA si_180_27 sq_r_180 rfl rfl
set_option maxRecDepth 20000 in
theorem mc_needF (X : sp_X) (g : sp_G) {n : Nat} (hn : g.1 64 11 = nI n) (hn0 : 0 < n) (hb : n ≤ 6) (hd : g.1 64 21 = nI 60) : sp_Ct X 0 180 [.ref 64] g (sp_Fi (-2) g) := by
  refine sp_walkN (n := 1) sq_p_180 sq_l_180 (Nat.le_of_ble_eq_true rfl) (fun a hA => ?_)
  show sp_Ev X a 180 0 [.ref 64] [] g
  refine sr_aload_n hA si_180_0 rfl ?_
  refine sr_getIv (v := nI n) hA si_180_1 sf_180_142 (by decide) (by decide) rfl (by decide) hn ?_
  refine sr_if_neN (tgt := 12) hA si_180_4 (by decide) (by omega) (fun c1 => ?_) (fun c1 => absurd c1 (by omega))
  refine sr_aload_n hA si_180_12 rfl ?_
  refine sr_getIv (v := nI 60) hA si_180_13 sf_180_149 (by decide) (by decide) rfl (by decide) hd ?_
  refine sr_bipush (v := nI 60) hA si_180_16 (by decide) ?_
  refine sr_icmp_neN (tgt := 26) hA si_180_18 (by decide) (by omega) (by omega) (fun c2 => absurd c2 (by omega)) (fun c2 => ?_)
  refine sr_bipush (v := (-2)) hA si_180_21 (by decide) ?_
  refine sr_goto (tgt := 27) hA si_180_23 (by decide) ?_
  exact sr_iretF hA si_180_27 sq_r_180 rfl rfl
