/-! bets: the shares of the wind -/
theorem nL_mulU (a b : Nat) : nL a * nL b = nL (a * b) := by unfold nL; rw [← Int64.ofNat_mul]
theorem nL_addU (a b : Nat) : nL a + nL b = nL (a + b) := by unfold nL; rw [← Int64.ofNat_add]
theorem sp_d60 {c : Nat} (h : c ≤ 6) : (60 : Int64) / nL c = nL (60 / c) := by
  show nL 60 / nL c = _
  exact nL_div (by omega) (by omega)
theorem sp_m60 (w : Nat) : nL w * (60 : Int64) = nL (w * 60) := nL_mulU w 60
def sp_sh (n key : Nat) (K T P : Nat → Int32) : Nat → (Nat → Int32) → Nat
  | 0, v => if sp_cb (K key) (T key) (v key) = true then 1 else 0
  | m + 1, v => sp_kfo (fun i s => if sp_cb (K i) (T i) (v i) = true then s + sp_sh n key K T P m (sp_pl n K P v i) else s) 0 n * (60 / sp_pc (sp_set n K T v))
def sp_ss (n key : Nat) (K T P : Nat → Int32) (m : Nat) (v : Nat → Int32) (i : Nat) : Nat := sp_kfo (fun i s => if sp_cb (K i) (T i) (v i) = true then s + sp_sh n key K T P m (sp_pl n K P v i) else s) 0 i
theorem sp_ss1 {n key : Nat} {K T P : Nat → Int32} {m : Nat} {v : Nat → Int32} {i : Nat} (h : sp_cb (K i) (T i) (v i) = true) : sp_ss n key K T P m v (i + 1) = sp_ss n key K T P m v i + sp_sh n key K T P m (sp_pl n K P v i) := if_pos h
theorem sp_ss0 {n key : Nat} {K T P : Nat → Int32} {m : Nat} {v : Nat → Int32} {i : Nat} (h : ¬ sp_cb (K i) (T i) (v i) = true) : sp_ss n key K T P m v (i + 1) = sp_ss n key K T P m v i := if_neg h
theorem sp_shS {n key : Nat} {K T P : Nat → Int32} {m : Nat} {v : Nat → Int32} : sp_sh n key K T P (m + 1) v = sp_ss n key K T P m v n * (60 / sp_pc (sp_set n K T v)) := rfl
theorem sp_sh_le {n key : Nat} {K T P : Nat → Int32} (hn : n ≤ 6) : ∀ (m : Nat) (v : Nat → Int32), sp_sh n key K T P m v ≤ 360 ^ m
  | 0, v => by unfold sp_sh; split <;> decide
  | m + 1, v => by
    have key2 : ∀ i, sp_ss n key K T P m v i ≤ i * 360 ^ m := fun i => by
      induction i with
      | zero => rw [Nat.zero_mul]; exact Nat.le_refl _
      | succ i ih =>
        rw [Nat.succ_mul]
        by_cases hc : sp_cb (K i) (T i) (v i) = true
        · rw [sp_ss1 hc]
          have := sp_sh_le (key := key) (K := K) (T := T) (P := P) hn m (sp_pl n K P v i)
          omega
        · rw [sp_ss0 hc]; exact Nat.le_trans ih (Nat.le_add_right _ _)
    have h1 := key2 n
    have h2 : n * 360 ^ m ≤ 6 * 360 ^ m := Nat.mul_le_mul_right _ hn
    have h4 : 60 / sp_pc (sp_set n K T v) ≤ 60 := Nat.div_le_self _ _
    rw [sp_shS]
    have h3 : 360 ^ (m + 1) = 6 * 360 ^ m * 60 := by rw [Nat.pow_succ]; omega
    rw [h3]
    exact Nat.mul_le_mul (by omega) h4
theorem sp_60c {c : Nat} (x : Nat) (h : c ≤ 6) (h0 : c ≠ 0) : 60 * x / c = x * (60 / c) := by
  have : c = 1 ∨ c = 2 ∨ c = 3 ∨ c = 4 ∨ c = 5 ∨ c = 6 := by omega
  rcases this with rfl | rfl | rfl | rfl | rfl | rfl <;> omega
theorem sp_dw {c m M : Nat} (h : c ≤ 6) (h0 : c ≠ 0) (hb : 60 ^ (m + 1) * M < 2 ^ 40) : nL (60 ^ (m + 1) * M) / nL c = nL (60 ^ m * (M * (60 / c))) := by
  rw [nL_div (by omega) (by omega)]
  congr 1
  rw [Nat.pow_succ, Nat.mul_comm (60 ^ m) 60, Nat.mul_assoc, sp_60c _ h h0, Nat.mul_assoc]
theorem sp_dwb {c m M : Nat} (hb : 60 ^ (m + 1) * M < 2 ^ 40) : 60 ^ m * (M * (60 / c)) < 2 ^ 40 := by
  have h4 : 60 / c ≤ 60 := Nat.div_le_self _ _
  refine Nat.lt_of_le_of_lt ?_ hb
  rw [Nat.pow_succ, Nat.mul_assoc]
  refine Nat.mul_le_mul_left _ ?_
  rw [Nat.mul_comm 60 M]
  exact Nat.mul_le_mul_left _ h4
set_option maxRecDepth 20000 in
theorem xb_shA (X : sp_X) (g : sp_G) {d n key : Nat} {K T P v : Nat → Int32} (hd : d ≤ 6) (hK : sp_KX n K T P g) (hkn : key < n) (hv : sp_h8 g (23 + d) (30 + d) v) (hcb : sp_cb (K key) (T key) (v key) = true) : sp_Ct X 5 116 [.ref 17, .int (nI d), .int (nI 0), .int (nI key)] g (sp_Fl (nL 1) g) := by
  have hn6 := hK.2.1
  refine sp_walkN (n := 8) sq_p_116 sq_l_116 (Nat.le_of_ble_eq_true rfl) (fun a hA => ?_)
  show sp_Ev X a 116 0 [.ref 17, .int (nI d), .int (nI 0), .int (nI key), .null, .null, .null, .null] [] g
  refine sr_iload_n hA si_116_0 rfl ?_
  refine sr_if_neN (tgt := 27) hA si_116_1 (by decide) (by omega) (fun c1 => absurd c1 (by omega)) (fun c1 => ?_)
  refine sr_aload_n hA si_116_4 rfl ?_
  refine sr_getR (r := 18) hA si_116_5 sf_116_12 (by decide) (by decide) rfl rfl rfl ?_
  refine sr_iload_n hA si_116_8 rfl ?_
  refine sr_aload_n hA si_116_9 rfl ?_
  refine sr_getR (r := 22) hA si_116_10 sf_116_20 (by decide) (by decide) rfl rfl rfl ?_
  refine sr_iload_n hA si_116_13 rfl ?_
  refine sr_aaldN (r := (23 + d)) (n := 7) hA si_116_14 (by decide) (by decide) rfl (by omega) (by decide) (sp_bhr (by omega)) ?_
  refine sr_VFi (c := 18) (ci := 0) (as := [.int (nI key), .ref (23 + d)]) (st := []) hA si_116_15 sv_45 sk_116_69 (xb_bears1 X g (s := 23 + d) (o := 30 + d) (sp_bh (by omega)) hK hkn hv hcb) (by omega) rfl (by decide) (by decide) rfl sq_c_45 rfl (Nat.le_of_ble_eq_true rfl) ?_
  refine sr_if_eqN (tgt := 25) hA si_116_18 (by decide) (by omega) (fun c2 => absurd c2 (by omega)) (fun c2 => ?_)
  refine sr_lconst (v := 1) hA si_116_21 rfl ?_
  refine sr_goto (tgt := 26) hA si_116_22 (by decide) ?_
  exact sr_lretF hA si_116_26 sq_r_116 rfl rfl
set_option maxRecDepth 20000 in
theorem xb_shB (X : sp_X) (g : sp_G) {d n key : Nat} {K T P v : Nat → Int32} (hd : d ≤ 6) (hK : sp_KX n K T P g) (hkn : key < n) (hv : sp_h8 g (23 + d) (30 + d) v) (hcb : ¬ sp_cb (K key) (T key) (v key) = true) : sp_Ct X 5 116 [.ref 17, .int (nI d), .int (nI 0), .int (nI key)] g (sp_Fl (nL 0) g) := by
  have hn6 := hK.2.1
  refine sp_walkN (n := 8) sq_p_116 sq_l_116 (Nat.le_of_ble_eq_true rfl) (fun a hA => ?_)
  show sp_Ev X a 116 0 [.ref 17, .int (nI d), .int (nI 0), .int (nI key), .null, .null, .null, .null] [] g
  refine sr_iload_n hA si_116_0 rfl ?_
  refine sr_if_neN (tgt := 27) hA si_116_1 (by decide) (by omega) (fun c1 => absurd c1 (by omega)) (fun c1 => ?_)
  refine sr_aload_n hA si_116_4 rfl ?_
  refine sr_getR (r := 18) hA si_116_5 sf_116_12 (by decide) (by decide) rfl rfl rfl ?_
  refine sr_iload_n hA si_116_8 rfl ?_
  refine sr_aload_n hA si_116_9 rfl ?_
  refine sr_getR (r := 22) hA si_116_10 sf_116_20 (by decide) (by decide) rfl rfl rfl ?_
  refine sr_iload_n hA si_116_13 rfl ?_
  refine sr_aaldN (r := (23 + d)) (n := 7) hA si_116_14 (by decide) (by decide) rfl (by omega) (by decide) (sp_bhr (by omega)) ?_
  refine sr_VFi (c := 18) (ci := 0) (as := [.int (nI key), .ref (23 + d)]) (st := []) hA si_116_15 sv_45 sk_116_69 (xb_bears0 X g (s := 23 + d) (o := 30 + d) (sp_bh (by omega)) hK hkn hv hcb) (by omega) rfl (by decide) (by decide) rfl sq_c_45 rfl (Nat.le_of_ble_eq_true rfl) ?_
  refine sr_if_eqN (tgt := 25) hA si_116_18 (by decide) (by omega) (fun c2 => ?_) (fun c2 => absurd c2 (by omega))
  refine sr_lconst (v := 0) hA si_116_25 rfl ?_
  exact sr_lretF hA si_116_26 sq_r_116 rfl rfl
set_option maxRecDepth 20000 in
theorem xb_shZ (X : sp_X) (g : sp_G) {d m n key : Nat} {K T P v : Nat → Int32} (hd : d ≤ 6) (hm : m < 2 ^ 20) (hK : sp_KX n K T P g) (hkn : key < n) (hv : sp_h8 g (23 + d) (30 + d) v) (hz : sp_pc (sp_set n K T v) = 0) : sp_Ct X (m + 6) 116 [.ref 17, .int (nI d), .int (nI (m + 1)), .int (nI key)] g (sp_Fl (nL 0) g) := by
  have hn6 := hK.2.1
  obtain ⟨c, ec⟩ : ∃ z, z = sp_pc (sp_set n K T v) := ⟨_, rfl⟩
  have hc6 : c ≤ 6 := by rw [ec]; exact sp_pc6 _ (sp_set64 hn6)
  refine sp_walkN (n := 8) sq_p_116 sq_l_116 (Nat.le_of_ble_eq_true rfl) (fun a hA => ?_)
  show sp_Ev X a 116 0 [.ref 17, .int (nI d), .int (nI (m + 1)), .int (nI key), .null, .null, .null, .null] [] g
  refine sr_iload_n hA si_116_0 rfl ?_
  refine sr_if_neN (tgt := 27) hA si_116_1 (by decide) (by omega) (fun c1 => ?_) (fun c1 => absurd c1 (by omega))
  refine sr_aload_n hA si_116_27 rfl ?_
  refine sr_getR (r := 18) hA si_116_28 sf_116_12 (by decide) (by decide) rfl rfl rfl ?_
  refine sr_aload_n hA si_116_31 rfl ?_
  refine sr_getR (r := 22) hA si_116_32 sf_116_20 (by decide) (by decide) rfl rfl rfl ?_
  refine sr_iload_n hA si_116_35 rfl ?_
  refine sr_aaldN (r := (23 + d)) (n := 7) hA si_116_36 (by decide) (by decide) rfl (by omega) (by decide) (sp_bhr (by omega)) ?_
  refine sr_VFi (c := 18) (ci := 0) (as := [.ref (23 + d)]) (st := []) hA si_116_37 sv_50 sk_116_147 (xb_playable X g (s := 23 + d) (o := 30 + d) (sp_bh (by omega)) hK hv) (by omega) rfl (by decide) (by decide) rfl sq_c_50 rfl (Nat.le_of_ble_eq_true rfl) ?_
  refine sr_SFi (as := [.int (nI (sp_set n K T v))]) (st := []) hA si_116_40 ss_51 sk_116_151 (xc_bitCount X g (t := sp_set n K T v) (sp_set64 hn6)) (by omega) rfl rfl (Nat.le_of_ble_eq_true rfl) ?_
  rw [← ec]
  refine sr_istore (ls1 := [.ref 17, .int (nI d), .int (nI (m + 1)), .int (nI key), .int (nI c), .null, .null, .null]) hA si_116_43 (by rw [sq_l_116]; decide) rfl ?_
  refine sr_iload hA si_116_45 rfl ?_
  refine sr_if_neN (tgt := 52) hA si_116_47 (by decide) (by omega) (fun c2 => absurd c2 (by omega)) (fun c2 => ?_)
  refine sr_lconst (v := 0) hA si_116_50 rfl ?_
  exact sr_lretF hA si_116_51 sq_r_116 rfl rfl
set_option maxRecDepth 20000 in
theorem xl_sh {X : sp_X} {ac : sp_Ac} {g : sp_G} {n d m key A Bq : Nat} {K T P v : Nat → Int32} (hd : d + (m + 1) ≤ 5) (hK : sp_KX n K T P g) (hv : sp_h8 g (23 + d) (30 + d) v) (hB : sp_oB n A Bq v) (hAb : A < 2 ^ 20) (hBb : Bq < 2 ^ 20) {c : Nat} (ec : c = sp_pc (sp_set n K T v)) (hc6 : c ≤ 6) (hc0 : c ≠ 0) (IH : ∀ (v : Nat → Int32) (g : sp_G), sp_KX n K T P g → sp_h8 g (23 + (d + 1)) (30 + (d + 1)) v → sp_oB n (A + 2) (Bq + 2) v → sp_Ct X (m + 5) 116 [.ref 17, .int (nI (d + 1)), .int (nI m), .int (nI key)] g (sp_Rl (fun x g' => x = nL (sp_sh n key K T P m v) ∧ sp_lvx (d + 1) g g'))) (hA : sp_Act X 116 (m + 6) (sp_Rl (fun x g' => x = nL (sp_sh n key K T P (m + 1) v) ∧ sp_lvx d g g')) ac) : ∀ (k : Nat) (i : Nat) (gg : sp_G) (ak : Nat), i + k = n → sp_lvx d g gg → ak = sp_ss n key K T P m v i → sp_Ev X ac 116 58 [.ref 17, .int (nI d), .int (nI (m + 1)), .int (nI key), .int (nI c), .long (nL ak), .null, .int (nI i)] [] gg := by
  intro k
  induction k with
  | zero =>
    intro i gg ak h0_ h1_ h2_
    have hn6 := hK.2.1
    refine sr_iload hA si_116_58 rfl ?_
    refine sr_aload_n hA si_116_60 rfl ?_
    refine sr_getR (r := 18) hA si_116_61 sf_116_12 (by decide) (by decide) rfl rfl rfl ?_
    refine sr_getIv (v := nI n) hA si_116_64 sf_116_96 (by decide) (by decide) rfl (by decide) (hK.xa h1_.xa).1 ?_
    refine sr_icmp_geN (tgt := 102) hA si_116_67 (by decide) (by omega) (by omega) (fun c1 => ?_) (fun c1 => absurd c1 (by omega))
    refine sr_lload hA si_116_102 rfl ?_
    refine sr_ldc2 hA si_116_104 sc_116_141 ?_
    refine sr_iload hA si_116_107 rfl ?_
    refine sr_i2l hA si_116_109 ?_
    rw [nL_i (by omega)]
    refine sr_ldiv hA si_116_110 (nL_ne (by omega) hc0) ?_
    rw [sp_d60 hc6]
    refine sr_lmul hA si_116_111 ?_
    rw [nL_mulU]
    exact sr_lretR hA si_116_112 sq_r_116 ⟨by rw [sp_shS, ← ec, h2_, show i = n by omega], h1_⟩
  | succ k ih =>
    intro i gg ak h0_ h1_ h2_
    have hn6 := hK.2.1
    refine sr_iload hA si_116_58 rfl ?_
    refine sr_aload_n hA si_116_60 rfl ?_
    refine sr_getR (r := 18) hA si_116_61 sf_116_12 (by decide) (by decide) rfl rfl rfl ?_
    refine sr_getIv (v := nI n) hA si_116_64 sf_116_96 (by decide) (by decide) rfl (by decide) (hK.xa h1_.xa).1 ?_
    refine sr_icmp_geN (tgt := 102) hA si_116_67 (by decide) (by omega) (by omega) (fun c1 => absurd c1 (by omega)) (fun c1 => ?_)
    refine sr_aload_n hA si_116_70 rfl ?_
    refine sr_iload_n hA si_116_71 rfl ?_
    refine sr_iload hA si_116_72 rfl ?_
    by_cases hcb : sp_cb (K i) (T i) (v i) = true
    · refine sr_VRi (c := 17) (ci := 4) (as := [.int (nI d), .int (nI i)]) (st := []) hA si_116_74 sv_88 sk_116_107 (xb_step1 X gg (d := d) (i := i) (by omega) (hK.xa h1_.xa) (by omega) (hv.dx h1_ (by omega)) hB (by omega) hcb) (by omega) rfl (by decide) (by decide) rfl sq_c_88 rfl (Nat.le_of_ble_eq_true rfl) (fun xs g1 qs => ?_)
      obtain ⟨exs, qs⟩ := qs
      subst exs
      have hl1 := h1_.tr (qs.dx (by omega))
      refine sr_if_eqN (tgt := 96) hA si_116_77 (by decide) (by omega) (fun c2 => absurd c2 (by omega)) (fun c2 => ?_)
      refine sr_lload hA si_116_80 rfl ?_
      refine sr_aload_n hA si_116_82 rfl ?_
      refine sr_iload_n hA si_116_83 rfl ?_
      refine sr_iconst (v := nI 1) hA si_116_84 (by decide) ?_
      refine sr_iaddN hA si_116_85 ?_
      refine sr_iload_n hA si_116_86 rfl ?_
      refine sr_iconst (v := nI 1) hA si_116_87 (by decide) ?_
      refine sr_isubN hA si_116_88 (by omega) ?_
      rw [show m + 1 - 1 = m by omega]
      refine sr_iload_n hA si_116_89 rfl ?_
      refine sr_VRl (c := 17) (ci := 4) (as := [.int (nI (d + 1)), .int (nI m), .int (nI key)]) (st := [.long (nL ak)]) hA si_116_90 sv_116 sk_116_143 (IH (sp_pl n K P v i) g1 (hK.xa hl1.xa) qs.2.2.2.2.1 (sp_oB.pl hB hn6 (by omega) (by omega) (by omega))) (by omega) rfl (by decide) (by decide) rfl sq_c_116 rfl (Nat.le_of_ble_eq_true rfl) (fun xv g2 q2 => ?_)
      obtain ⟨exv, hl2⟩ := q2
      subst exv
      refine sr_ladd hA si_116_93 ?_
      rw [nL_addU]
      refine sr_lstore (ls1 := [.ref 17, .int (nI d), .int (nI (m + 1)), .int (nI key), .int (nI c), .long (nL (ak + sp_sh n key K T P m (sp_pl n K P v i))), .null, .int (nI i)]) hA si_116_94 (by rw [sq_l_116]; decide) rfl ?_
      refine sr_iincN (x := i) (y := 1) (ls1 := [.ref 17, .int (nI d), .int (nI (m + 1)), .int (nI key), .int (nI c), .long (nL (ak + sp_sh n key K T P m (sp_pl n K P v i))), .null, .int (nI (i + 1))]) hA si_116_96 rfl rfl (by rw [sq_l_116]; decide) rfl ?_
      refine sr_goto (tgt := 58) hA si_116_99 (by decide) ?_
      exact ih (i + 1) g2 (ak + sp_sh n key K T P m (sp_pl n K P v i)) (by omega) (hl1.tr (hl2.lo (by omega))) (by rw [sp_ss1 hcb, h2_])
    · refine sr_VFi (c := 17) (ci := 4) (as := [.int (nI d), .int (nI i)]) (st := []) hA si_116_74 sv_88 sk_116_107 (xb_step0 X gg (d := d) (i := i) (by omega) (hK.xa h1_.xa) (by omega) (hv.dx h1_ (by omega)) hcb) (by omega) rfl (by decide) (by decide) rfl sq_c_88 rfl (Nat.le_of_ble_eq_true rfl) ?_
      refine sr_if_eqN (tgt := 96) hA si_116_77 (by decide) (by omega) (fun c3 => ?_) (fun c3 => absurd c3 (by omega))
      refine sr_iincN (x := i) (y := 1) (ls1 := [.ref 17, .int (nI d), .int (nI (m + 1)), .int (nI key), .int (nI c), .long (nL ak), .null, .int (nI (i + 1))]) hA si_116_96 rfl rfl (by rw [sq_l_116]; decide) rfl ?_
      refine sr_goto (tgt := 58) hA si_116_99 (by decide) ?_
      exact ih (i + 1) gg ak (by omega) h1_ (by rw [sp_ss0 hcb]; exact h2_)
set_option maxRecDepth 20000 in
theorem xb_shS {X : sp_X} {g : sp_G} {n d m key A Bq : Nat} {K T P v : Nat → Int32} (hd : d + (m + 1) ≤ 5) (hK : sp_KX n K T P g) (hv : sp_h8 g (23 + d) (30 + d) v) (hB : sp_oB n A Bq v) (hAb : A < 2 ^ 20) (hBb : Bq < 2 ^ 20) (hz : sp_pc (sp_set n K T v) ≠ 0) (IH : ∀ (v : Nat → Int32) (g : sp_G), sp_KX n K T P g → sp_h8 g (23 + (d + 1)) (30 + (d + 1)) v → sp_oB n (A + 2) (Bq + 2) v → sp_Ct X (m + 5) 116 [.ref 17, .int (nI (d + 1)), .int (nI m), .int (nI key)] g (sp_Rl (fun x g' => x = nL (sp_sh n key K T P m v) ∧ sp_lvx (d + 1) g g'))) : sp_Ct X (m + 6) 116 [.ref 17, .int (nI d), .int (nI (m + 1)), .int (nI key)] g (sp_Rl (fun x g' => x = nL (sp_sh n key K T P (m + 1) v) ∧ sp_lvx d g g')) := by
  have hn6 := hK.2.1
  obtain ⟨c, ec⟩ : ∃ z, z = sp_pc (sp_set n K T v) := ⟨_, rfl⟩
  have hc6 : c ≤ 6 := by rw [ec]; exact sp_pc6 _ (sp_set64 hn6)
  refine sp_walkN (n := 8) sq_p_116 sq_l_116 (Nat.le_of_ble_eq_true rfl) (fun ac hA => ?_)
  show sp_Ev X ac 116 0 [.ref 17, .int (nI d), .int (nI (m + 1)), .int (nI key), .null, .null, .null, .null] [] g
  refine sr_iload_n hA si_116_0 rfl ?_
  refine sr_if_neN (tgt := 27) hA si_116_1 (by decide) (by omega) (fun c1 => ?_) (fun c1 => absurd c1 (by omega))
  refine sr_aload_n hA si_116_27 rfl ?_
  refine sr_getR (r := 18) hA si_116_28 sf_116_12 (by decide) (by decide) rfl rfl rfl ?_
  refine sr_aload_n hA si_116_31 rfl ?_
  refine sr_getR (r := 22) hA si_116_32 sf_116_20 (by decide) (by decide) rfl rfl rfl ?_
  refine sr_iload_n hA si_116_35 rfl ?_
  refine sr_aaldN (r := (23 + d)) (n := 7) hA si_116_36 (by decide) (by decide) rfl (by omega) (by decide) (sp_bhr (by omega)) ?_
  refine sr_VFi (c := 18) (ci := 0) (as := [.ref (23 + d)]) (st := []) hA si_116_37 sv_50 sk_116_147 (xb_playable X g (s := 23 + d) (o := 30 + d) (sp_bh (by omega)) hK hv) (by omega) rfl (by decide) (by decide) rfl sq_c_50 rfl (Nat.le_of_ble_eq_true rfl) ?_
  refine sr_SFi (as := [.int (nI (sp_set n K T v))]) (st := []) hA si_116_40 ss_51 sk_116_151 (xc_bitCount X g (t := sp_set n K T v) (sp_set64 hn6)) (by omega) rfl rfl (Nat.le_of_ble_eq_true rfl) ?_
  rw [← ec]
  refine sr_istore (ls1 := [.ref 17, .int (nI d), .int (nI (m + 1)), .int (nI key), .int (nI c), .null, .null, .null]) hA si_116_43 (by rw [sq_l_116]; decide) rfl ?_
  refine sr_iload hA si_116_45 rfl ?_
  refine sr_if_neN (tgt := 52) hA si_116_47 (by decide) (by omega) (fun c2 => ?_) (fun c2 => absurd c2 (by omega))
  refine sr_lconst (v := 0) hA si_116_52 rfl ?_
  refine sr_lstore (ls1 := [.ref 17, .int (nI d), .int (nI (m + 1)), .int (nI key), .int (nI c), .long 0, .null, .null]) hA si_116_53 (by rw [sq_l_116]; decide) rfl ?_
  refine sr_iconst (v := nI 0) hA si_116_55 (by decide) ?_
  refine sr_istore (ls1 := [.ref 17, .int (nI d), .int (nI (m + 1)), .int (nI key), .int (nI c), .long 0, .null, .int (nI 0)]) hA si_116_56 (by rw [sq_l_116]; decide) rfl ?_
  exact xl_sh hd hK hv hB hAb hBb ec hc6 (by omega) IH hA n 0 g 0 (by omega) sp_lvx.rf rfl
theorem xb_sh (X : sp_X) {n key : Nat} {K T P : Nat → Int32} (hkn : key < n) : ∀ (m d A Bq : Nat) (v : Nat → Int32) (g : sp_G), d + m ≤ 5 → A + 2 * m < 2 ^ 20 → Bq + 2 * m < 2 ^ 20 → sp_KX n K T P g → sp_h8 g (23 + d) (30 + d) v → sp_oB n A Bq v → sp_Ct X (m + 5) 116 [.ref 17, .int (nI d), .int (nI m), .int (nI key)] g (sp_Rl (fun x g' => x = nL (sp_sh n key K T P m v) ∧ sp_lvx d g g'))
  | 0, d, A, Bq, v, g, hd, hA, hB, hK, hv, hO => by
    by_cases hcb : sp_cb (K key) (T key) (v key) = true
    · refine (xb_shA X g (by omega) hK hkn hv hcb).mono (fun r g' q1 => ?_)
      obtain ⟨e1, rfl⟩ := q1
      exact ⟨_, e1, by rw [show sp_sh n key K T P 0 v = 1 from if_pos hcb], sp_lvx.rf⟩
    · refine (xb_shB X g (by omega) hK hkn hv hcb).mono (fun r g' q1 => ?_)
      obtain ⟨e1, rfl⟩ := q1
      exact ⟨_, e1, by rw [show sp_sh n key K T P 0 v = 0 from if_neg hcb], sp_lvx.rf⟩
  | m + 1, d, A, Bq, v, g, hd, hA, hB, hK, hv, hO => by
    by_cases hz : sp_pc (sp_set n K T v) = 0
    · refine (xb_shZ X g (d := d) (m := m) (by omega) (by omega) hK hkn hv hz).mono (fun r g' q1 => ?_)
      obtain ⟨e1, rfl⟩ := q1
      exact ⟨_, e1, by rw [sp_shS, hz, Nat.div_zero, Nat.mul_zero], sp_lvx.rf⟩
    · exact xb_shS hd hK hv hO (by omega) (by omega) hz (fun v' g' a1 a2 a3 => xb_sh X hkn m (d + 1) (A + 2) (Bq + 2) v' g' (by omega) (by omega) (by omega) a1 a2 a3)
set_option maxRecDepth 20000 in
theorem xb_ws (X : sp_X) (g : sp_G) {n q key A Bq : Nat} {K T P v : Nat → Int32} (hq5 : q ≤ 5) (hkn : key < n) (hK : sp_KX n K T P g) (hv : sp_h8 g 41 42 v) (hB : sp_oB n A Bq v) (hAb : A < 2 ^ 19) (hBb : Bq < 2 ^ 19) : sp_Ct X (q + 6) 115 [.ref 17, .ref 41, .int (nI key), .int (nI q)] g (sp_Rl (fun x g' => x = nL (sp_sh n key K T P q v) ∧ sp_xa g g')) := by
  refine sp_walkN (n := 4) sq_p_115 sq_l_115 (Nat.le_of_ble_eq_true rfl) (fun ac hA => ?_)
  show sp_Ev X ac 115 0 [.ref 17, .ref 41, .int (nI key), .int (nI q)] [] g
  refine sr_aload_n hA si_115_0 rfl ?_
  refine sr_aload_n hA si_115_1 rfl ?_
  refine sr_VRv (c := 17) (ci := 4) (as := [.ref 41]) (st := []) hA si_115_2 sv_78 sk_115_77 (xb_begin X g sp_sd41 (by unfold sp_ap; omega) hv) (by omega) rfl (by decide) (by decide) rfl sq_c_78 rfl (Nat.le_of_ble_eq_true rfl) (fun g1 q1 => ?_)
  refine sr_aload_n hA si_115_5 rfl ?_
  refine sr_iconst (v := nI 0) hA si_115_6 (by decide) ?_
  refine sr_iload_n hA si_115_7 rfl ?_
  refine sr_iload_n hA si_115_8 rfl ?_
  refine sr_VRl (c := 17) (ci := 4) (as := [.int (nI 0), .int (nI q), .int (nI key)]) (st := []) hA si_115_9 sv_116 sk_115_143 (xb_sh X hkn q 0 A Bq v g1 (by omega) (by omega) (by omega) (hK.xa q1.xa) q1.2.2.1 hB) (by omega) rfl (by decide) (by decide) rfl sq_c_116 rfl (Nat.le_of_ble_eq_true rfl) (fun xv g2 q2 => ?_)
  obtain ⟨exv, hl2⟩ := q2
  subst exv
  exact sr_lretR hA si_115_12 sq_r_115 ⟨rfl, q1.xa.tr hl2.xa⟩
set_option maxRecDepth 20000 in
theorem xl_whs {X : sp_X} {ac : sp_Ac} {g : sp_G} {q : Nat} (hq5 : q ≤ 5) (hA : sp_Act X 117 0 (sp_Fl (nL (60 ^ q)) g) ac) : ∀ (m : Nat) (i : Nat) (w : Nat), i + m = q → w = 60 ^ i → sp_Ev X ac 117 4 [.int (nI q), .long (nL w), .null, .int (nI i)] [] g := by
  intro m
  induction m with
  | zero =>
    intro i w h0_ h1_
    refine sr_iload_n hA si_117_4 rfl ?_
    refine sr_iload_n hA si_117_5 rfl ?_
    refine sr_icmp_geN (tgt := 21) hA si_117_6 (by decide) (by omega) (by omega) (fun c1 => ?_) (fun c1 => absurd c1 (by omega))
    refine sr_lload_n hA si_117_21 rfl ?_
    exact sr_lretF hA si_117_22 sq_r_117 (by rw [h1_, show i = q by omega]) rfl
  | succ m ih =>
    intro i w h0_ h1_
    refine sr_iload_n hA si_117_4 rfl ?_
    refine sr_iload_n hA si_117_5 rfl ?_
    refine sr_icmp_geN (tgt := 21) hA si_117_6 (by decide) (by omega) (by omega) (fun c1 => absurd c1 (by omega)) (fun c1 => ?_)
    refine sr_lload_n hA si_117_9 rfl ?_
    refine sr_ldc2 hA si_117_10 sc_117_141 ?_
    refine sr_lmul hA si_117_13 ?_
    rw [sp_m60]
    refine sr_lstore_n (ls1 := [.int (nI q), .long (nL (w * 60)), .null, .int (nI i)]) hA si_117_14 rfl (by rw [sq_l_117]; decide) rfl ?_
    refine sr_iincN (x := i) (y := 1) (ls1 := [.int (nI q), .long (nL (w * 60)), .null, .int (nI (i + 1))]) hA si_117_15 rfl rfl (by rw [sq_l_117]; decide) rfl ?_
    refine sr_goto (tgt := 4) hA si_117_18 (by decide) ?_
    exact ih (i + 1) (w * 60) (by omega) (by rw [h1_, Nat.pow_succ])
set_option maxRecDepth 20000 in
theorem xb_whs (X : sp_X) (g : sp_G) {q : Nat} (hq5 : q ≤ 5) : sp_Ct X 0 117 [.int (nI q)] g (sp_Fl (nL (60 ^ q)) g) := by
  refine sp_walkN (n := 4) sq_p_117 sq_l_117 (Nat.le_of_ble_eq_true rfl) (fun ac hA => ?_)
  show sp_Ev X ac 117 0 [.int (nI q), .null, .null, .null] [] g
  refine sr_lconst (v := 1) hA si_117_0 rfl ?_
  refine sr_lstore_n (ls1 := [.int (nI q), .long 1, .null, .null]) hA si_117_1 rfl (by rw [sq_l_117]; decide) rfl ?_
  refine sr_iconst (v := nI 0) hA si_117_2 (by decide) ?_
  refine sr_istore_n (ls1 := [.int (nI q), .long 1, .null, .int (nI 0)]) hA si_117_3 rfl (by rw [sq_l_117]; decide) rfl ?_
  exact xl_whs hq5 hA q 0 1 (by omega) rfl
set_option maxRecDepth 20000 in
theorem xc_bet_a (X : sp_X) (g : sp_G) {k : Int32} (hk : k < 0) (q : Int32) : sp_Ct X 9 114 [.ref 0, .int k, .int q] g (sp_Fi (-1) g) := by
  refine sp_walkN (n := 3) sq_p_114 sq_l_114 (Nat.le_of_ble_eq_true rfl) (fun a hA => ?_)
  show sp_Ev X a 114 0 [.ref 0, .int k, .int q] [] g
  refine sr_aload_n hA si_114_0 rfl ?_
  refine sr_getR (r := 18) hA si_114_1 sf_114_32 (by decide) (by decide) rfl rfl rfl ?_
  refine sr_iload_n hA si_114_4 rfl ?_
  refine sr_VFi (c := 18) (ci := 0) (as := [.int k]) (st := []) hA si_114_5 sv_43 sk_114_148 (xc_isKeyM X g hk) (by omega) rfl (by decide) (by decide) rfl sq_c_43 rfl (Nat.le_of_ble_eq_true rfl) ?_
  refine sr_if_eqN (tgt := 20) hA si_114_8 (by decide) (by omega) (fun c1 => ?_) (fun c1 => absurd c1 (by omega))
  refine sr_iconst (v := (-1)) hA si_114_20 (by decide) ?_
  exact sr_iretF hA si_114_21 sq_r_114 rfl rfl
set_option maxRecDepth 20000 in
theorem xc_bet_b (X : sp_X) (g : sp_G) {k n : Nat} (hn : g.1 18 3 = nI n) (hb : n ≤ 6) (hk : n ≤ k) (hkb : k < 2 ^ 31) (q : Int32) : sp_Ct X 9 114 [.ref 0, .int (nI k), .int q] g (sp_Fi (-1) g) := by
  refine sp_walkN (n := 3) sq_p_114 sq_l_114 (Nat.le_of_ble_eq_true rfl) (fun a hA => ?_)
  show sp_Ev X a 114 0 [.ref 0, .int (nI k), .int q] [] g
  refine sr_aload_n hA si_114_0 rfl ?_
  refine sr_getR (r := 18) hA si_114_1 sf_114_32 (by decide) (by decide) rfl rfl rfl ?_
  refine sr_iload_n hA si_114_4 rfl ?_
  refine sr_VFi (c := 18) (ci := 0) (as := [.int (nI k)]) (st := []) hA si_114_5 sv_43 sk_114_148 (xc_isKeyH X g (n := n) hn (by omega) (by omega)) (by omega) rfl (by decide) (by decide) rfl sq_c_43 rfl (Nat.le_of_ble_eq_true rfl) ?_
  refine sr_if_eqN (tgt := 20) hA si_114_8 (by decide) (by omega) (fun c1 => ?_) (fun c1 => absurd c1 (by omega))
  refine sr_iconst (v := (-1)) hA si_114_20 (by decide) ?_
  exact sr_iretF hA si_114_21 sq_r_114 rfl rfl
set_option maxRecDepth 20000 in
theorem xc_bet_c (X : sp_X) (g : sp_G) {k n : Nat} (hn : g.1 18 3 = nI n) (hb : n ≤ 6) (hk : k < n) {q : Int32} (hq : q < 0) : sp_Ct X 9 114 [.ref 0, .int (nI k), .int q] g (sp_Fi (-1) g) := by
  refine sp_walkN (n := 3) sq_p_114 sq_l_114 (Nat.le_of_ble_eq_true rfl) (fun a hA => ?_)
  show sp_Ev X a 114 0 [.ref 0, .int (nI k), .int q] [] g
  refine sr_aload_n hA si_114_0 rfl ?_
  refine sr_getR (r := 18) hA si_114_1 sf_114_32 (by decide) (by decide) rfl rfl rfl ?_
  refine sr_iload_n hA si_114_4 rfl ?_
  refine sr_VFi (c := 18) (ci := 0) (as := [.int (nI k)]) (st := []) hA si_114_5 sv_43 sk_114_148 (xc_isKey1 X g (n := n) hn (by omega) (by omega)) (by omega) rfl (by decide) (by decide) rfl sq_c_43 rfl (Nat.le_of_ble_eq_true rfl) ?_
  refine sr_if_eqN (tgt := 20) hA si_114_8 (by decide) (by omega) (fun c1 => absurd c1 (by omega)) (fun c1 => ?_)
  refine sr_iload_n hA si_114_11 rfl ?_
  refine sr_if_lt (tgt := 20) hA si_114_12 (by decide) (fun c2 => ?_) (fun c2 => absurd hq c2)
  refine sr_iconst (v := (-1)) hA si_114_20 (by decide) ?_
  exact sr_iretF hA si_114_21 sq_r_114 rfl rfl
set_option maxRecDepth 20000 in
theorem xc_bet_d (X : sp_X) (g : sp_G) {k n : Nat} (hn : g.1 18 3 = nI n) (hb : n ≤ 6) (hk : k < n) {q : Nat} (hq : 6 ≤ q) (hqb : q < 2 ^ 31) : sp_Ct X 9 114 [.ref 0, .int (nI k), .int (nI q)] g (sp_Fi (-1) g) := by
  refine sp_walkN (n := 3) sq_p_114 sq_l_114 (Nat.le_of_ble_eq_true rfl) (fun a hA => ?_)
  show sp_Ev X a 114 0 [.ref 0, .int (nI k), .int (nI q)] [] g
  refine sr_aload_n hA si_114_0 rfl ?_
  refine sr_getR (r := 18) hA si_114_1 sf_114_32 (by decide) (by decide) rfl rfl rfl ?_
  refine sr_iload_n hA si_114_4 rfl ?_
  refine sr_VFi (c := 18) (ci := 0) (as := [.int (nI k)]) (st := []) hA si_114_5 sv_43 sk_114_148 (xc_isKey1 X g (n := n) hn (by omega) (by omega)) (by omega) rfl (by decide) (by decide) rfl sq_c_43 rfl (Nat.le_of_ble_eq_true rfl) ?_
  refine sr_if_eqN (tgt := 20) hA si_114_8 (by decide) (by omega) (fun c1 => absurd c1 (by omega)) (fun c1 => ?_)
  refine sr_iload_n hA si_114_11 rfl ?_
  refine sr_if_ltN (tgt := 20) hA si_114_12 (by decide) (by omega) ?_
  refine sr_iload_n hA si_114_15 rfl ?_
  refine sr_iconst (v := nI 5) hA si_114_16 (by decide) ?_
  refine sr_icmp_leN (tgt := 22) hA si_114_17 (by decide) (by omega) (by omega) (fun c3 => absurd c3 (by omega)) (fun c3 => ?_)
  refine sr_iconst (v := (-1)) hA si_114_20 (by decide) ?_
  exact sr_iretF hA si_114_21 sq_r_114 rfl rfl
set_option maxRecDepth 20000 in
theorem xc_bet_go (X : sp_X) (g : sp_G) {k n : Nat} (hn : g.1 18 3 = nI n) (hb : n ≤ 6) (hk : k < n) {q : Nat} (hq5 : q ≤ 5) {K T P v : Nat → Int32} {A Bq : Nat} (hK : sp_KX n K T P g) (hv : sp_h8 g 41 42 v) (hB : sp_oB n A Bq v) (hAb : A < 2 ^ 19) (hBb : Bq < 2 ^ 19) : sp_Ct X (q + 8) 114 [.ref 0, .int (nI k), .int (nI q)] g (sp_Ri (fun x g' => x = nI 1 ∧ ∃ gm, sp_xa g gm ∧ g' = sp_cx gm ((sp_sh n k K T P q v), 60 ^ q))) := by
  refine sp_walkN (n := 3) sq_p_114 sq_l_114 (Nat.le_of_ble_eq_true rfl) (fun ac hA => ?_)
  show sp_Ev X ac 114 0 [.ref 0, .int (nI k), .int (nI q)] [] g
  refine sr_aload_n hA si_114_0 rfl ?_
  refine sr_getR (r := 18) hA si_114_1 sf_114_32 (by decide) (by decide) rfl rfl rfl ?_
  refine sr_iload_n hA si_114_4 rfl ?_
  refine sr_VFi (c := 18) (ci := 0) (as := [.int (nI k)]) (st := []) hA si_114_5 sv_43 sk_114_148 (xc_isKey1 X g (n := n) hn (by omega) (by omega)) (by omega) rfl (by decide) (by decide) rfl sq_c_43 rfl (Nat.le_of_ble_eq_true rfl) ?_
  refine sr_if_eqN (tgt := 20) hA si_114_8 (by decide) (by omega) (fun c1 => absurd c1 (by omega)) (fun c1 => ?_)
  refine sr_iload_n hA si_114_11 rfl ?_
  refine sr_if_ltN (tgt := 20) hA si_114_12 (by decide) (by omega) ?_
  refine sr_iload_n hA si_114_15 rfl ?_
  refine sr_iconst (v := nI 5) hA si_114_16 (by decide) ?_
  refine sr_icmp_leN (tgt := 22) hA si_114_17 (by decide) (by omega) (by omega) (fun c3 => ?_) (fun c3 => absurd c3 (by omega))
  refine sr_aload_n hA si_114_22 rfl ?_
  refine sr_aload_n hA si_114_23 rfl ?_
  refine sr_getR (r := 17) hA si_114_24 sf_114_24 (by decide) (by decide) rfl rfl rfl ?_
  refine sr_aload_n hA si_114_27 rfl ?_
  refine sr_getR (r := 41) hA si_114_28 sf_114_36 (by decide) (by decide) rfl rfl rfl ?_
  refine sr_iload_n hA si_114_31 rfl ?_
  refine sr_iload_n hA si_114_32 rfl ?_
  refine sr_VRl (c := 17) (ci := 4) (as := [.ref 41, .int (nI k), .int (nI q)]) (st := [.ref 0]) hA si_114_33 sv_115 sk_114_278 (xb_ws X g (q := q) (key := k) (v := v) hq5 hk hK hv hB hAb hBb) (by omega) rfl (by decide) (by decide) rfl sq_c_115 rfl (Nat.le_of_ble_eq_true rfl) (fun xv g1 q1 => ?_)
  obtain ⟨exv, ax⟩ := q1
  subst exv
  have hU : (sp_sh n k K T P q v) < 2 ^ 63 := Nat.lt_of_le_of_lt (Nat.le_trans (sp_sh_le hb q v) (Nat.pow_le_pow_right (by omega) hq5)) (by decide)
  have h60 : 60 ^ q < 2 ^ 30 := Nat.lt_of_le_of_lt (Nat.pow_le_pow_right (by omega) hq5) (by decide)
  have h61 : 0 < 60 ^ q := Nat.pow_pos (by omega)
  obtain ⟨u, eu⟩ : ∃ z, z = (sp_sh n k K T P q v) := ⟨_, rfl⟩
  obtain ⟨l, el⟩ : ∃ z, z = 60 ^ q := ⟨_, rfl⟩
  rw [← eu] at hU ⊢
  rw [← el] at h60 h61
  refine sr_iload_n hA si_114_36 rfl ?_
  refine sr_SFl (as := [.int (nI q)]) (st := [.long (nL u), .ref 0]) hA si_114_37 ss_117 sk_114_282 (xb_whs X g1 hq5) (by omega) rfl rfl (Nat.le_of_ble_eq_true rfl) ?_
  rw [← el]
  refine sr_VFi (c := 0) (ci := 7) (as := [.long (nL u), .long (nL l)]) (st := []) hA si_114_40 sv_112 sk_114_274 (xc_tellCh X g1 (u := u) (l := l) hU (by omega) (sp_eu_le 60 199 u l (by omega) (sp_eu_of 30 u l h60)) (Nat.gcd_pos_of_pos_right _ h61)) (by omega) rfl (by decide) (by decide) rfl sq_c_112 rfl (Nat.le_of_ble_eq_true rfl) ?_
  exact sr_iretR hA si_114_43 sq_r_114 ⟨rfl, g1, ax, by rw [← eu, ← el]⟩
set_option maxRecDepth 20000 in
theorem mb_bfA (X : sp_X) (g : sp_G) {f n key : Nat} {K T P v : Nat → Int32} (hf : f ≤ 5) (hK : sp_KM n K T P g) (hkn : key < n) (hv : sp_f8 g f v) {M : Nat} (hcb : sp_cb (K key) (T key) (v key) = true) : sp_Ct X 5 220 [.ref 64, .int (nI f), .int (nI 0), .int (nI key), .long (nL (60 ^ 0 * M))] g (sp_Fl (nL M) g) := by
  have hn6 := hK.2.1
  obtain ⟨S, eS⟩ : ∃ z, z = sp_set n K T v := ⟨_, rfl⟩
  have hS64 : S < 64 := by rw [eS]; exact sp_set64 hn6
  refine sp_walkN (n := 10) sq_p_220 sq_l_220 (Nat.le_of_ble_eq_true rfl) (fun a hA => ?_)
  show sp_Ev X a 220 0 [.ref 64, .int (nI f), .int (nI 0), .int (nI key), .long (nL (60 ^ 0 * M)), .null, .null, .null, .null, .null] [] g
  refine sr_aload_n hA si_220_0 rfl ?_
  refine sr_iload_n hA si_220_1 rfl ?_
  refine sr_VFi (c := 64) (ci := 8) (as := [.int (nI f)]) (st := []) hA si_220_2 sv_170 sk_220_183 (mb_canSet X g (f := f) (by omega) hK hv) (by omega) rfl (by decide) (by decide) rfl sq_c_170 rfl (Nat.le_of_ble_eq_true rfl) ?_
  rw [← eS]
  refine sr_istore (ls1 := [.ref 64, .int (nI f), .int (nI 0), .int (nI key), .long (nL (60 ^ 0 * M)), .null, .int (nI S), .null, .null, .null]) hA si_220_5 (by rw [sq_l_220]; decide) rfl ?_
  refine sr_iload_n hA si_220_7 rfl ?_
  refine sr_if_eqN (tgt := 16) hA si_220_8 (by decide) (by omega) (fun c1 => ?_) (fun c1 => absurd c1 (by omega))
  refine sr_iload hA si_220_16 rfl ?_
  refine sr_iload_n hA si_220_18 rfl ?_
  refine sr_SFi (as := [.int (nI S), .int (nI key)]) (st := []) hA si_220_19 ss_203 sk_220_232 (mc_has1 X g (t := S) (k := key) hS64 (by omega) (by rw [eS, sp_set_bit, if_pos ⟨hkn, hcb⟩])) (by omega) rfl rfl (Nat.le_of_ble_eq_true rfl) ?_
  refine sr_if_eqN (tgt := 30) hA si_220_22 (by decide) (by omega) (fun c2 => absurd c2 (by omega)) (fun c2 => ?_)
  refine sr_lload hA si_220_25 rfl ?_
  refine sr_goto (tgt := 31) hA si_220_27 (by decide) ?_
  exact sr_lretF hA si_220_31 sq_r_220 (by rw [Nat.pow_zero, Nat.one_mul]) rfl
set_option maxRecDepth 20000 in
theorem mb_bfB (X : sp_X) (g : sp_G) {f n key : Nat} {K T P v : Nat → Int32} (hf : f ≤ 5) (hK : sp_KM n K T P g) (hkn : key < n) (hv : sp_f8 g f v) {M : Nat} (hcb : ¬ sp_cb (K key) (T key) (v key) = true) : sp_Ct X 5 220 [.ref 64, .int (nI f), .int (nI 0), .int (nI key), .long (nL (60 ^ 0 * M))] g (sp_Fl (nL 0) g) := by
  have hn6 := hK.2.1
  obtain ⟨S, eS⟩ : ∃ z, z = sp_set n K T v := ⟨_, rfl⟩
  have hS64 : S < 64 := by rw [eS]; exact sp_set64 hn6
  refine sp_walkN (n := 10) sq_p_220 sq_l_220 (Nat.le_of_ble_eq_true rfl) (fun a hA => ?_)
  show sp_Ev X a 220 0 [.ref 64, .int (nI f), .int (nI 0), .int (nI key), .long (nL (60 ^ 0 * M)), .null, .null, .null, .null, .null] [] g
  refine sr_aload_n hA si_220_0 rfl ?_
  refine sr_iload_n hA si_220_1 rfl ?_
  refine sr_VFi (c := 64) (ci := 8) (as := [.int (nI f)]) (st := []) hA si_220_2 sv_170 sk_220_183 (mb_canSet X g (f := f) (by omega) hK hv) (by omega) rfl (by decide) (by decide) rfl sq_c_170 rfl (Nat.le_of_ble_eq_true rfl) ?_
  rw [← eS]
  refine sr_istore (ls1 := [.ref 64, .int (nI f), .int (nI 0), .int (nI key), .long (nL (60 ^ 0 * M)), .null, .int (nI S), .null, .null, .null]) hA si_220_5 (by rw [sq_l_220]; decide) rfl ?_
  refine sr_iload_n hA si_220_7 rfl ?_
  refine sr_if_eqN (tgt := 16) hA si_220_8 (by decide) (by omega) (fun c1 => ?_) (fun c1 => absurd c1 (by omega))
  refine sr_iload hA si_220_16 rfl ?_
  refine sr_iload_n hA si_220_18 rfl ?_
  refine sr_SFi (as := [.int (nI S), .int (nI key)]) (st := []) hA si_220_19 ss_203 sk_220_232 (mc_has0 X g (t := S) (k := key) hS64 (by omega) (by rw [eS, sp_set_bit, if_neg (fun q => hcb q.2)])) (by omega) rfl rfl (Nat.le_of_ble_eq_true rfl) ?_
  refine sr_if_eqN (tgt := 30) hA si_220_22 (by decide) (by omega) (fun c2 => ?_) (fun c2 => absurd c2 (by omega))
  refine sr_lconst (v := 0) hA si_220_30 rfl ?_
  exact sr_lretF hA si_220_31 sq_r_220 rfl rfl
set_option maxRecDepth 20000 in
theorem mb_bfZ (X : sp_X) (g : sp_G) {f m n key : Nat} {K T P v : Nat → Int32} (hm : m < 2 ^ 20) (hf : f ≤ 5) (hK : sp_KM n K T P g) (hkn : key < n) (hv : sp_f8 g f v) (wt : Int64) (hz : sp_set n K T v = 0) : sp_Ct X (m + 6) 220 [.ref 64, .int (nI f), .int (nI (m + 1)), .int (nI key), .long wt] g (sp_Fl (nL 0) g) := by
  have hn6 := hK.2.1
  obtain ⟨S, eS⟩ : ∃ z, z = sp_set n K T v := ⟨_, rfl⟩
  have hS64 : S < 64 := by rw [eS]; exact sp_set64 hn6
  refine sp_walkN (n := 10) sq_p_220 sq_l_220 (Nat.le_of_ble_eq_true rfl) (fun a hA => ?_)
  show sp_Ev X a 220 0 [.ref 64, .int (nI f), .int (nI (m + 1)), .int (nI key), .long wt, .null, .null, .null, .null, .null] [] g
  refine sr_aload_n hA si_220_0 rfl ?_
  refine sr_iload_n hA si_220_1 rfl ?_
  refine sr_VFi (c := 64) (ci := 8) (as := [.int (nI f)]) (st := []) hA si_220_2 sv_170 sk_220_183 (mb_canSet X g (f := f) (by omega) hK hv) (by omega) rfl (by decide) (by decide) rfl sq_c_170 rfl (Nat.le_of_ble_eq_true rfl) ?_
  rw [← eS]
  refine sr_istore (ls1 := [.ref 64, .int (nI f), .int (nI (m + 1)), .int (nI key), .long wt, .null, .int (nI S), .null, .null, .null]) hA si_220_5 (by rw [sq_l_220]; decide) rfl ?_
  refine sr_iload_n hA si_220_7 rfl ?_
  refine sr_if_eqN (tgt := 16) hA si_220_8 (by decide) (by omega) (fun c1 => absurd c1 (by omega)) (fun c1 => ?_)
  refine sr_iload hA si_220_11 rfl ?_
  refine sr_if_neN (tgt := 32) hA si_220_13 (by decide) (by omega) (fun c2 => absurd c2 (by omega)) (fun c2 => ?_)
  refine sr_iload hA si_220_16 rfl ?_
  refine sr_iload_n hA si_220_18 rfl ?_
  refine sr_SFi (as := [.int (nI S), .int (nI key)]) (st := []) hA si_220_19 ss_203 sk_220_232 (mc_has0 X g (t := S) (k := key) hS64 (by omega) (by rw [eS, hz, Nat.zero_div])) (by omega) rfl rfl (Nat.le_of_ble_eq_true rfl) ?_
  refine sr_if_eqN (tgt := 30) hA si_220_22 (by decide) (by omega) (fun c3 => ?_) (fun c3 => absurd c3 (by omega))
  refine sr_lconst (v := 0) hA si_220_30 rfl ?_
  exact sr_lretF hA si_220_31 sq_r_220 rfl rfl
set_option maxRecDepth 20000 in
theorem ml_bf {X : sp_X} {ac : sp_Ac} {g : sp_G} {n f m key M : Nat} {K T P v : Nat → Int32} (hf : f + (m + 1) ≤ 5) (hMb : 60 ^ (m + 1) * M < 2 ^ 40) (hK : sp_KM n K T P g) (hv : sp_f8 g f v) {S c : Nat} (eS : S = sp_set n K T v) (hS64 : S < 64) (ec : c = sp_pc S) (hc6 : c ≤ 6) (hc0 : c ≠ 0) (IH : ∀ (M : Nat) (v : Nat → Int32) (g : sp_G), 60 ^ m * M < 2 ^ 40 → sp_KM n K T P g → sp_f8 g (f + 1) v → sp_Ct X (m + 5) 220 [.ref 64, .int (nI (f + 1)), .int (nI m), .int (nI key), .long (nL (60 ^ m * M))] g (sp_Rl (fun x g' => x = nL (M * sp_sh n key K T P m v) ∧ sp_dm (f + 1) 0 g g'))) (hA : sp_Act X 220 (m + 6) (sp_Rl (fun x g' => x = nL (M * sp_sh n key K T P (m + 1) v) ∧ sp_dm f 0 g g')) ac) : ∀ (k : Nat) (i : Nat) (gg : sp_G) (ak : Nat), i + k = n → sp_dm f 0 g gg → ak = (M * (60 / c)) * sp_ss n key K T P m v i → sp_Ev X ac 220 38 [.ref 64, .int (nI f), .int (nI (m + 1)), .int (nI key), .long (nL (60 ^ (m + 1) * M)), .null, .int (nI S), .long (nL ak), .null, .int (nI i)] [] gg := by
  intro k
  induction k with
  | zero =>
    intro i gg ak h0_ h1_ h2_
    have hn6 := hK.2.1
    refine sr_iload hA si_220_38 rfl ?_
    refine sr_aload_n hA si_220_40 rfl ?_
    refine sr_getIv (v := nI n) hA si_220_41 sf_220_142 (by decide) (by decide) rfl (by decide) (hK.ma h1_.ma).1 ?_
    refine sr_icmp_geN (tgt := 105) hA si_220_44 (by decide) (by omega) (by omega) (fun c1 => ?_) (fun c1 => absurd c1 (by omega))
    refine sr_lload hA si_220_105 rfl ?_
    exact sr_lretR hA si_220_107 sq_r_220 ⟨by rw [sp_shS, ← eS, ← ec, h2_, show i = n by omega, Nat.mul_assoc, Nat.mul_comm (60 / c)], h1_⟩
  | succ k ih =>
    intro i gg ak h0_ h1_ h2_
    have hn6 := hK.2.1
    refine sr_iload hA si_220_38 rfl ?_
    refine sr_aload_n hA si_220_40 rfl ?_
    refine sr_getIv (v := nI n) hA si_220_41 sf_220_142 (by decide) (by decide) rfl (by decide) (hK.ma h1_.ma).1 ?_
    refine sr_icmp_geN (tgt := 105) hA si_220_44 (by decide) (by omega) (by omega) (fun c1 => absurd c1 (by omega)) (fun c1 => ?_)
    refine sr_iload hA si_220_47 rfl ?_
    refine sr_iload hA si_220_49 rfl ?_
    by_cases hcb : sp_cb (K i) (T i) (v i) = true
    · refine sr_SFi (as := [.int (nI S), .int (nI i)]) (st := []) hA si_220_51 ss_203 sk_220_232 (mc_has1 X gg (t := S) (k := i) hS64 (by omega) (by rw [eS, sp_set_bit, if_pos ⟨by omega, hcb⟩])) (by omega) rfl rfl (Nat.le_of_ble_eq_true rfl) ?_
      refine sr_if_eqN (tgt := 99) hA si_220_54 (by decide) (by omega) (fun c2 => absurd c2 (by omega)) (fun c2 => ?_)
      refine sr_aload_n hA si_220_57 rfl ?_
      refine sr_iload_n hA si_220_58 rfl ?_
      refine sr_iload_n hA si_220_59 rfl ?_
      refine sr_iconst (v := nI 1) hA si_220_60 (by decide) ?_
      refine sr_iaddN hA si_220_61 ?_
      refine sr_VRv (c := 64) (ci := 8) (as := [.int (nI f), .int (nI (f + 1))]) (st := []) hA si_220_62 sv_192 sk_220_212 (mb_copyTo X gg (f := f) (t := f + 1) (by omega) (by omega) (by omega) (hv.dm h1_ (by omega))) (by omega) rfl (by decide) (by decide) rfl sq_c_192 rfl (Nat.le_of_ble_eq_true rfl) (fun g1 q1 => ?_)
      refine sr_aload_n hA si_220_65 rfl ?_
      refine sr_iload_n hA si_220_66 rfl ?_
      refine sr_iconst (v := nI 1) hA si_220_67 (by decide) ?_
      refine sr_iaddN hA si_220_68 ?_
      refine sr_iload hA si_220_69 rfl ?_
      refine sr_VRv (c := 64) (ci := 8) (as := [.int (nI (f + 1)), .int (nI i)]) (st := []) hA si_220_71 sv_175 sk_220_192 (mb_plays X g1 (f := f + 1) (i := i) (by omega) ((hK.ma h1_.ma).ma (sp_ma.rf.fx q1.1 (by omega))) (by omega) q1.2.1) (by omega) rfl (by decide) (by decide) rfl sq_c_175 rfl (Nat.le_of_ble_eq_true rfl) (fun g2 q2 => ?_)
      have qs := sp_sm2.mk (F := f) q1 q2
      have hl1 := h1_.tr (qs.dm (d := 0) (by omega))
      refine sr_lload hA si_220_74 rfl ?_
      refine sr_aload_n hA si_220_76 rfl ?_
      refine sr_iload_n hA si_220_77 rfl ?_
      refine sr_iconst (v := nI 1) hA si_220_78 (by decide) ?_
      refine sr_iaddN hA si_220_79 ?_
      refine sr_iload_n hA si_220_80 rfl ?_
      refine sr_iconst (v := nI 1) hA si_220_81 (by decide) ?_
      refine sr_isubN hA si_220_82 (by omega) ?_
      rw [show m + 1 - 1 = m by omega]
      refine sr_iload_n hA si_220_83 rfl ?_
      refine sr_lload hA si_220_84 rfl ?_
      refine sr_iload hA si_220_86 rfl ?_
      refine sr_SFi (as := [.int (nI S)]) (st := [.long (nL (60 ^ (m + 1) * M)), .int (nI key), .int (nI m), .int (nI (f + 1)), .ref 64, .long (nL ak)]) hA si_220_88 ss_171 sk_220_186 (mc_bits X g2 (t := S) hS64) (by omega) rfl rfl (Nat.le_of_ble_eq_true rfl) ?_
      rw [← ec]
      refine sr_i2l hA si_220_91 ?_
      rw [nL_i (by omega)]
      refine sr_ldiv hA si_220_92 (nL_ne (by omega) hc0) ?_
      rw [sp_dw hc6 hc0 hMb]
      refine sr_VRl (c := 64) (ci := 8) (as := [.int (nI (f + 1)), .int (nI m), .int (nI key), .long (nL (60 ^ m * (M * (60 / c))))]) (st := [.long (nL ak)]) hA si_220_93 sv_220 sk_220_275 (IH (M * (60 / c)) (sp_pl n K P v i) g2 (sp_dwb hMb) (hK.ma hl1.ma) qs.2.2.2.1) (by omega) rfl (by decide) (by decide) rfl sq_c_220 rfl (Nat.le_of_ble_eq_true rfl) (fun xv g3 q3 => ?_)
      obtain ⟨exv, hl3⟩ := q3
      subst exv
      refine sr_ladd hA si_220_96 ?_
      rw [nL_addU]
      refine sr_lstore (ls1 := [.ref 64, .int (nI f), .int (nI (m + 1)), .int (nI key), .long (nL (60 ^ (m + 1) * M)), .null, .int (nI S), .long (nL (ak + (M * (60 / c)) * sp_sh n key K T P m (sp_pl n K P v i))), .null, .int (nI i)]) hA si_220_97 (by rw [sq_l_220]; decide) rfl ?_
      refine sr_iincN (x := i) (y := 1) (ls1 := [.ref 64, .int (nI f), .int (nI (m + 1)), .int (nI key), .long (nL (60 ^ (m + 1) * M)), .null, .int (nI S), .long (nL (ak + (M * (60 / c)) * sp_sh n key K T P m (sp_pl n K P v i))), .null, .int (nI (i + 1))]) hA si_220_99 rfl rfl (by rw [sq_l_220]; decide) rfl ?_
      refine sr_goto (tgt := 38) hA si_220_102 (by decide) ?_
      exact ih (i + 1) g3 (ak + (M * (60 / c)) * sp_sh n key K T P m (sp_pl n K P v i)) (by omega) (hl1.tr (hl3.lo (by omega) (by omega))) (by rw [sp_ss1 hcb, h2_, Nat.mul_add])
    · refine sr_SFi (as := [.int (nI S), .int (nI i)]) (st := []) hA si_220_51 ss_203 sk_220_232 (mc_has0 X gg (t := S) (k := i) hS64 (by omega) (by rw [eS, sp_set_bit, if_neg (fun q => hcb q.2)])) (by omega) rfl rfl (Nat.le_of_ble_eq_true rfl) ?_
      refine sr_if_eqN (tgt := 99) hA si_220_54 (by decide) (by omega) (fun c3 => ?_) (fun c3 => absurd c3 (by omega))
      refine sr_iincN (x := i) (y := 1) (ls1 := [.ref 64, .int (nI f), .int (nI (m + 1)), .int (nI key), .long (nL (60 ^ (m + 1) * M)), .null, .int (nI S), .long (nL ak), .null, .int (nI (i + 1))]) hA si_220_99 rfl rfl (by rw [sq_l_220]; decide) rfl ?_
      refine sr_goto (tgt := 38) hA si_220_102 (by decide) ?_
      exact ih (i + 1) gg ak (by omega) h1_ (by rw [sp_ss0 hcb]; exact h2_)
set_option maxRecDepth 20000 in
theorem mb_bfS {X : sp_X} {g : sp_G} {n f m key M : Nat} {K T P v : Nat → Int32} (hf : f + (m + 1) ≤ 5) (hMb : 60 ^ (m + 1) * M < 2 ^ 40) (hK : sp_KM n K T P g) (hv : sp_f8 g f v) (hz : sp_set n K T v ≠ 0) (IH : ∀ (M : Nat) (v : Nat → Int32) (g : sp_G), 60 ^ m * M < 2 ^ 40 → sp_KM n K T P g → sp_f8 g (f + 1) v → sp_Ct X (m + 5) 220 [.ref 64, .int (nI (f + 1)), .int (nI m), .int (nI key), .long (nL (60 ^ m * M))] g (sp_Rl (fun x g' => x = nL (M * sp_sh n key K T P m v) ∧ sp_dm (f + 1) 0 g g'))) : sp_Ct X (m + 6) 220 [.ref 64, .int (nI f), .int (nI (m + 1)), .int (nI key), .long (nL (60 ^ (m + 1) * M))] g (sp_Rl (fun x g' => x = nL (M * sp_sh n key K T P (m + 1) v) ∧ sp_dm f 0 g g')) := by
  have hn6 := hK.2.1
  obtain ⟨S, eS⟩ : ∃ z, z = sp_set n K T v := ⟨_, rfl⟩
  have hS64 : S < 64 := by rw [eS]; exact sp_set64 hn6
  obtain ⟨c, ec⟩ : ∃ z, z = sp_pc S := ⟨_, rfl⟩
  have hc6 : c ≤ 6 := by rw [ec]; exact sp_pc6 _ hS64
  have hc0 : c ≠ 0 := fun e => hz (by rw [← eS]; exact (sp_pc0 _ hS64).mp (ec.symm.trans e))
  refine sp_walkN (n := 10) sq_p_220 sq_l_220 (Nat.le_of_ble_eq_true rfl) (fun ac hA => ?_)
  show sp_Ev X ac 220 0 [.ref 64, .int (nI f), .int (nI (m + 1)), .int (nI key), .long (nL (60 ^ (m + 1) * M)), .null, .null, .null, .null, .null] [] g
  refine sr_aload_n hA si_220_0 rfl ?_
  refine sr_iload_n hA si_220_1 rfl ?_
  refine sr_VFi (c := 64) (ci := 8) (as := [.int (nI f)]) (st := []) hA si_220_2 sv_170 sk_220_183 (mb_canSet X g (f := f) (by omega) hK hv) (by omega) rfl (by decide) (by decide) rfl sq_c_170 rfl (Nat.le_of_ble_eq_true rfl) ?_
  rw [← eS]
  refine sr_istore (ls1 := [.ref 64, .int (nI f), .int (nI (m + 1)), .int (nI key), .long (nL (60 ^ (m + 1) * M)), .null, .int (nI S), .null, .null, .null]) hA si_220_5 (by rw [sq_l_220]; decide) rfl ?_
  refine sr_iload_n hA si_220_7 rfl ?_
  refine sr_if_eqN (tgt := 16) hA si_220_8 (by decide) (by omega) (fun c1 => absurd c1 (by omega)) (fun c1 => ?_)
  refine sr_iload hA si_220_11 rfl ?_
  refine sr_if_neN (tgt := 32) hA si_220_13 (by decide) (by omega) (fun c2 => ?_) (fun c2 => absurd c2 (by omega))
  refine sr_lconst (v := 0) hA si_220_32 rfl ?_
  refine sr_lstore (ls1 := [.ref 64, .int (nI f), .int (nI (m + 1)), .int (nI key), .long (nL (60 ^ (m + 1) * M)), .null, .int (nI S), .long 0, .null, .null]) hA si_220_33 (by rw [sq_l_220]; decide) rfl ?_
  refine sr_iconst (v := nI 0) hA si_220_35 (by decide) ?_
  refine sr_istore (ls1 := [.ref 64, .int (nI f), .int (nI (m + 1)), .int (nI key), .long (nL (60 ^ (m + 1) * M)), .null, .int (nI S), .long 0, .null, .int (nI 0)]) hA si_220_36 (by rw [sq_l_220]; decide) rfl ?_
  exact ml_bf hf hMb hK hv eS hS64 ec hc6 hc0 IH hA n 0 g 0 (by omega) sp_dm.rf (Nat.mul_zero _).symm
theorem mb_bf (X : sp_X) {n key : Nat} {K T P : Nat → Int32} (hkn : key < n) : ∀ (m f M : Nat) (v : Nat → Int32) (g : sp_G), f + m ≤ 5 → 60 ^ m * M < 2 ^ 40 → sp_KM n K T P g → sp_f8 g f v → sp_Ct X (m + 5) 220 [.ref 64, .int (nI f), .int (nI m), .int (nI key), .long (nL (60 ^ m * M))] g (sp_Rl (fun x g' => x = nL (M * sp_sh n key K T P m v) ∧ sp_dm f 0 g g'))
  | 0, f, M, v, g, hf, hM, hK, hv => by
    by_cases hcb : sp_cb (K key) (T key) (v key) = true
    · refine (mb_bfA X g (by omega) hK hkn hv (M := M) hcb).mono (fun r g' q1 => ?_)
      obtain ⟨e1, rfl⟩ := q1
      exact ⟨_, e1, by rw [show sp_sh n key K T P 0 v = 1 from if_pos hcb, Nat.mul_one], sp_dm.rf⟩
    · refine (mb_bfB X g (by omega) hK hkn hv (M := M) hcb).mono (fun r g' q1 => ?_)
      obtain ⟨e1, rfl⟩ := q1
      exact ⟨_, e1, by rw [show sp_sh n key K T P 0 v = 0 from if_neg hcb, Nat.mul_zero], sp_dm.rf⟩
  | m + 1, f, M, v, g, hf, hM, hK, hv => by
    by_cases hz : sp_set n K T v = 0
    · refine (mb_bfZ X g (f := f) (m := m) (by omega) (by omega) hK hkn hv _ hz).mono (fun r g' q1 => ?_)
      obtain ⟨e1, rfl⟩ := q1
      exact ⟨_, e1, by rw [sp_shS, hz, show sp_pc 0 = 0 from rfl, Nat.div_zero, Nat.mul_zero, Nat.mul_zero], sp_dm.rf⟩
    · exact mb_bfS hf hM hK hv hz (fun M' v' g' a1 a2 a3 => mb_bf X hkn m (f + 1) M' v' g' (by omega) a1 a2 a3)
set_option maxRecDepth 20000 in
theorem mc_bet_a (X : sp_X) (g : sp_G) {k : Int32} {n : Nat} (hn : g.1 64 11 = nI n) (hb : n ≤ 6) (hk : k < 0) (q : Int32) : sp_Ct X 9 219 [.ref 64, .int k, .int q] g (sp_Fi (-1) g) := by
  refine sp_walkN (n := 6) sq_p_219 sq_l_219 (Nat.le_of_ble_eq_true rfl) (fun a hA => ?_)
  show sp_Ev X a 219 0 [.ref 64, .int k, .int q, .null, .null, .null] [] g
  refine sr_aload_n hA si_219_0 rfl ?_
  refine sr_iload_n hA si_219_1 rfl ?_
  refine sr_VFi (c := 64) (ci := 8) (as := [.int k]) (st := []) hA si_219_2 sv_162 sk_219_174 (mc_isKeyM X g (n := n) hn hk) (by omega) rfl (by decide) (by decide) rfl sq_c_162 rfl (Nat.le_of_ble_eq_true rfl) ?_
  refine sr_if_eqN (tgt := 17) hA si_219_5 (by decide) (by omega) (fun c1 => ?_) (fun c1 => absurd c1 (by omega))
  refine sr_iconst (v := (-1)) hA si_219_17 (by decide) ?_
  exact sr_iretF hA si_219_18 sq_r_219 rfl rfl
set_option maxRecDepth 20000 in
theorem mc_bet_b (X : sp_X) (g : sp_G) {k n : Nat} (hn : g.1 64 11 = nI n) (hb : n ≤ 6) (hk : n ≤ k) (hkb : k < 2 ^ 31) (q : Int32) : sp_Ct X 9 219 [.ref 64, .int (nI k), .int q] g (sp_Fi (-1) g) := by
  refine sp_walkN (n := 6) sq_p_219 sq_l_219 (Nat.le_of_ble_eq_true rfl) (fun a hA => ?_)
  show sp_Ev X a 219 0 [.ref 64, .int (nI k), .int q, .null, .null, .null] [] g
  refine sr_aload_n hA si_219_0 rfl ?_
  refine sr_iload_n hA si_219_1 rfl ?_
  refine sr_VFi (c := 64) (ci := 8) (as := [.int (nI k)]) (st := []) hA si_219_2 sv_162 sk_219_174 (mc_isKeyH X g (n := n) hn (by omega) (by omega)) (by omega) rfl (by decide) (by decide) rfl sq_c_162 rfl (Nat.le_of_ble_eq_true rfl) ?_
  refine sr_if_eqN (tgt := 17) hA si_219_5 (by decide) (by omega) (fun c1 => ?_) (fun c1 => absurd c1 (by omega))
  refine sr_iconst (v := (-1)) hA si_219_17 (by decide) ?_
  exact sr_iretF hA si_219_18 sq_r_219 rfl rfl
set_option maxRecDepth 20000 in
theorem mc_bet_c (X : sp_X) (g : sp_G) {k n : Nat} (hn : g.1 64 11 = nI n) (hb : n ≤ 6) (hk : k < n) {q : Int32} (hq : q < 0) : sp_Ct X 9 219 [.ref 64, .int (nI k), .int q] g (sp_Fi (-1) g) := by
  refine sp_walkN (n := 6) sq_p_219 sq_l_219 (Nat.le_of_ble_eq_true rfl) (fun a hA => ?_)
  show sp_Ev X a 219 0 [.ref 64, .int (nI k), .int q, .null, .null, .null] [] g
  refine sr_aload_n hA si_219_0 rfl ?_
  refine sr_iload_n hA si_219_1 rfl ?_
  refine sr_VFi (c := 64) (ci := 8) (as := [.int (nI k)]) (st := []) hA si_219_2 sv_162 sk_219_174 (mc_isKey1 X g (n := n) hn (by omega) (by omega)) (by omega) rfl (by decide) (by decide) rfl sq_c_162 rfl (Nat.le_of_ble_eq_true rfl) ?_
  refine sr_if_eqN (tgt := 17) hA si_219_5 (by decide) (by omega) (fun c1 => absurd c1 (by omega)) (fun c1 => ?_)
  refine sr_iload_n hA si_219_8 rfl ?_
  refine sr_iconst (v := nI 0) hA si_219_9 (by decide) ?_
  refine sr_iconst (v := nI 5) hA si_219_10 (by decide) ?_
  refine sr_SFi (as := [.int q, .int (nI 0), .int (nI 5)]) (st := []) hA si_219_11 ss_135 sk_219_83 (mc_inM X g hq (by omega)) (by omega) rfl rfl (Nat.le_of_ble_eq_true rfl) ?_
  refine sr_if_neN (tgt := 19) hA si_219_14 (by decide) (by omega) (fun c2 => absurd c2 (by omega)) (fun c2 => ?_)
  refine sr_iconst (v := (-1)) hA si_219_17 (by decide) ?_
  exact sr_iretF hA si_219_18 sq_r_219 rfl rfl
set_option maxRecDepth 20000 in
theorem mc_bet_d (X : sp_X) (g : sp_G) {k n : Nat} (hn : g.1 64 11 = nI n) (hb : n ≤ 6) (hk : k < n) {q : Nat} (hq : 6 ≤ q) (hqb : q < 2 ^ 31) : sp_Ct X 9 219 [.ref 64, .int (nI k), .int (nI q)] g (sp_Fi (-1) g) := by
  refine sp_walkN (n := 6) sq_p_219 sq_l_219 (Nat.le_of_ble_eq_true rfl) (fun a hA => ?_)
  show sp_Ev X a 219 0 [.ref 64, .int (nI k), .int (nI q), .null, .null, .null] [] g
  refine sr_aload_n hA si_219_0 rfl ?_
  refine sr_iload_n hA si_219_1 rfl ?_
  refine sr_VFi (c := 64) (ci := 8) (as := [.int (nI k)]) (st := []) hA si_219_2 sv_162 sk_219_174 (mc_isKey1 X g (n := n) hn (by omega) (by omega)) (by omega) rfl (by decide) (by decide) rfl sq_c_162 rfl (Nat.le_of_ble_eq_true rfl) ?_
  refine sr_if_eqN (tgt := 17) hA si_219_5 (by decide) (by omega) (fun c1 => absurd c1 (by omega)) (fun c1 => ?_)
  refine sr_iload_n hA si_219_8 rfl ?_
  refine sr_iconst (v := nI 0) hA si_219_9 (by decide) ?_
  refine sr_iconst (v := nI 5) hA si_219_10 (by decide) ?_
  refine sr_SFi (as := [.int (nI q), .int (nI 0), .int (nI 5)]) (st := []) hA si_219_11 ss_135 sk_219_83 (mc_inH X g (by omega) (by omega)) (by omega) rfl rfl (Nat.le_of_ble_eq_true rfl) ?_
  refine sr_if_neN (tgt := 19) hA si_219_14 (by decide) (by omega) (fun c2 => absurd c2 (by omega)) (fun c2 => ?_)
  refine sr_iconst (v := (-1)) hA si_219_17 (by decide) ?_
  exact sr_iretF hA si_219_18 sq_r_219 rfl rfl
set_option maxRecDepth 20000 in
theorem ml_bet {X : sp_X} {dd : Nat} {ac : sp_Ac} {g : sp_G} {q k : Nat} {Rt : sp_Rt} (hq5 : q ≤ 5) (kk : sp_Ev X ac 219 42 [.ref 64, .int (nI k), .int (nI q), .long (nL (60 ^ q)), .null, .null] [] g) (hA : sp_Act X 219 dd Rt ac) : ∀ (m : Nat) (i : Nat) (w : Nat), i + m = q → w = 60 ^ i → sp_Ev X ac 219 24 [.ref 64, .int (nI k), .int (nI q), .long (nL w), .null, .int (nI i)] [] g := by
  intro m
  induction m with
  | zero =>
    intro i w h0_ h1_
    refine sr_iload hA si_219_24 rfl ?_
    refine sr_iload_n hA si_219_26 rfl ?_
    refine sr_icmp_geN (tgt := 42) hA si_219_27 (by decide) (by omega) (by omega) (fun c1 => ?_) (fun c1 => absurd c1 (by omega))
    refine sr_fg (ls1 := [.ref 64, .int (nI k), .int (nI q), .long (nL w), .null, .null]) ⟨Or.inr rfl, Or.inr rfl, Or.inr rfl, Or.inr rfl, Or.inl rfl, Or.inl rfl, trivial⟩ ?_
    rw [h1_, show i = q by omega]
    exact kk
  | succ m ih =>
    intro i w h0_ h1_
    refine sr_iload hA si_219_24 rfl ?_
    refine sr_iload_n hA si_219_26 rfl ?_
    refine sr_icmp_geN (tgt := 42) hA si_219_27 (by decide) (by omega) (by omega) (fun c1 => absurd c1 (by omega)) (fun c1 => ?_)
    refine sr_lload_n hA si_219_30 rfl ?_
    refine sr_ldc2 hA si_219_31 sc_219_279 ?_
    refine sr_lmul hA si_219_34 ?_
    rw [sp_m60]
    refine sr_lstore_n (ls1 := [.ref 64, .int (nI k), .int (nI q), .long (nL (w * 60)), .null, .int (nI i)]) hA si_219_35 rfl (by rw [sq_l_219]; decide) rfl ?_
    refine sr_iincN (x := i) (y := 1) (ls1 := [.ref 64, .int (nI k), .int (nI q), .long (nL (w * 60)), .null, .int (nI (i + 1))]) hA si_219_36 rfl rfl (by rw [sq_l_219]; decide) rfl ?_
    refine sr_goto (tgt := 24) hA si_219_39 (by decide) ?_
    exact ih (i + 1) (w * 60) (by omega) (by rw [h1_, Nat.pow_succ])
set_option maxRecDepth 20000 in
theorem mc_bet_go (X : sp_X) (g : sp_G) {k n : Nat} (hn : g.1 64 11 = nI n) (hb : n ≤ 6) (hk : k < n) {q : Nat} (hq5 : q ≤ 5) {K T P v : Nat → Int32} (hK : sp_KM n K T P g) (hv : sp_f8 g 0 v) : sp_Ct X (q + 7) 219 [.ref 64, .int (nI k), .int (nI q)] g (sp_Ri (fun x g' => x = nI 1 ∧ ∃ gm, sp_ma g gm ∧ g' = sp_cm gm ((sp_sh n k K T P q v), 60 ^ q))) := by
  have hU : (sp_sh n k K T P q v) < 2 ^ 63 := Nat.lt_of_le_of_lt (Nat.le_trans (sp_sh_le hb q v) (Nat.pow_le_pow_right (by omega) hq5)) (by decide)
  have h60 : 60 ^ q < 2 ^ 30 := Nat.lt_of_le_of_lt (Nat.pow_le_pow_right (by omega) hq5) (by decide)
  have h61 : 0 < 60 ^ q := Nat.pow_pos (by omega)
  have hbf := mb_bf X hk q 0 1 v g (by omega) (by omega) hK hv
  rw [Nat.mul_one] at hbf
  obtain ⟨u, eu⟩ : ∃ z, z = (sp_sh n k K T P q v) := ⟨_, rfl⟩
  obtain ⟨l, el⟩ : ∃ z, z = 60 ^ q := ⟨_, rfl⟩
  rw [← eu] at hU
  rw [← el] at h60 h61 hbf
  refine sp_walkN (n := 6) sq_p_219 sq_l_219 (Nat.le_of_ble_eq_true rfl) (fun ac hA => ?_)
  show sp_Ev X ac 219 0 [.ref 64, .int (nI k), .int (nI q), .null, .null, .null] [] g
  refine sr_aload_n hA si_219_0 rfl ?_
  refine sr_iload_n hA si_219_1 rfl ?_
  refine sr_VFi (c := 64) (ci := 8) (as := [.int (nI k)]) (st := []) hA si_219_2 sv_162 sk_219_174 (mc_isKey1 X g (n := n) hn (by omega) (by omega)) (by omega) rfl (by decide) (by decide) rfl sq_c_162 rfl (Nat.le_of_ble_eq_true rfl) ?_
  refine sr_if_eqN (tgt := 17) hA si_219_5 (by decide) (by omega) (fun c1 => absurd c1 (by omega)) (fun c1 => ?_)
  refine sr_iload_n hA si_219_8 rfl ?_
  refine sr_iconst (v := nI 0) hA si_219_9 (by decide) ?_
  refine sr_iconst (v := nI 5) hA si_219_10 (by decide) ?_
  refine sr_SFi (as := [.int (nI q), .int (nI 0), .int (nI 5)]) (st := []) hA si_219_11 ss_135 sk_219_83 (mc_inN X g (by omega) (by omega) (by omega)) (by omega) rfl rfl (Nat.le_of_ble_eq_true rfl) ?_
  refine sr_if_neN (tgt := 19) hA si_219_14 (by decide) (by omega) (fun c2 => ?_) (fun c2 => absurd c2 (by omega))
  refine sr_lconst (v := 1) hA si_219_19 rfl ?_
  refine sr_lstore_n (ls1 := [.ref 64, .int (nI k), .int (nI q), .long 1, .null, .null]) hA si_219_20 rfl (by rw [sq_l_219]; decide) rfl ?_
  refine sr_iconst (v := nI 0) hA si_219_21 (by decide) ?_
  refine sr_istore (ls1 := [.ref 64, .int (nI k), .int (nI q), .long 1, .null, .int (nI 0)]) hA si_219_22 (by rw [sq_l_219]; decide) rfl ?_
  refine ml_bet hq5 ?_ hA q 0 1 (by omega) rfl
  rw [← el]
  refine sr_aload_n hA si_219_42 rfl ?_
  refine sr_aload_n hA si_219_43 rfl ?_
  refine sr_iconst (v := nI 0) hA si_219_44 (by decide) ?_
  refine sr_iload_n hA si_219_45 rfl ?_
  refine sr_iload_n hA si_219_46 rfl ?_
  refine sr_lload_n hA si_219_47 rfl ?_
  refine sr_VRl (c := 64) (ci := 8) (as := [.int (nI 0), .int (nI q), .int (nI k), .long (nL l)]) (st := [.ref 64]) hA si_219_48 sv_220 sk_219_275 hbf (by omega) rfl (by decide) (by decide) rfl sq_c_220 rfl (Nat.le_of_ble_eq_true rfl) (fun xv g1 q1 => ?_)
  obtain ⟨exv, hl⟩ := q1
  rw [Nat.one_mul, ← eu] at exv
  subst exv
  refine sr_lload_n hA si_219_51 rfl ?_
  refine sr_VFi (c := 64) (ci := 8) (as := [.long (nL u), .long (nL l)]) (st := []) hA si_219_52 sv_218 sk_219_271 (mc_part X g1 (u := u) (l := l) hU (by omega) (sp_eu_le 60 199 u l (by omega) (sp_eu_of 30 u l h60)) (Nat.gcd_pos_of_pos_right _ h61)) (by omega) rfl (by decide) (by decide) rfl sq_c_218 rfl (Nat.le_of_ble_eq_true rfl) ?_
  exact sr_iretR hA si_219_55 sq_r_219 ⟨rfl, g1, hl.ma, by rw [← eu, ← el]⟩
theorem pr_bet {X : sp_X} {g : sp_G} (h : sp_Rel g) (k q : Int32) : sp_Pi X 114 219 [.int k, .int q] g := by
  obtain ⟨hF, hR, hT, n, dm, hK, hS, hP⟩ := id h
  obtain ⟨k1, k2, k3, k4⟩ := id hK
  have hS1 := hS.1
  rcases sp_cls k with hk | ⟨k, hkb, rfl⟩
  · exact sp_pF (xc_bet_a X g hk q) (mc_bet_a X g k3 k1 hk q) (by omega) (by omega) h
  by_cases hk : k < n
  rotate_left
  · exact sp_pF (xc_bet_b X g k2 k1 (by omega) hkb q) (mc_bet_b X g k3 k1 (by omega) hkb q) (by omega) (by omega) h
  rcases sp_cls q with hq | ⟨q, hqb, rfl⟩
  · exact sp_pF (xc_bet_c X g k2 k1 hk hq) (mc_bet_c X g k3 k1 hk hq) (by omega) (by omega) h
  by_cases hq : q ≤ 5
  rotate_left
  · exact sp_pF (xc_bet_d X g k2 k1 hk (by omega) hqb) (mc_bet_d X g k3 k1 hk (by omega) hqb) (by omega) (by omega) h
  refine ⟨q + 8, _, by omega, xc_bet_go X g k2 k1 hk hq (sp_Rel.KX hK) hS.hS.d8 (sp_nowk hS) (by omega) (by omega), fun v g1 q1 => ?_⟩
  obtain ⟨rfl, gm, ax, rfl⟩ := q1
  have m1 := (sp_Rel.KM hK).xa ax
  have m3 := (sp_hP0 (g := g)).xa ax
  refine ⟨q + 7, _, by omega, mc_bet_go X (sp_cx gm _) m1.1 k1 hk hq m1 m3.d8, fun v g2 q2 => ?_⟩
  obtain ⟨rfl, gn, am, rfl⟩ := q2
  exact ⟨rfl, (h.xa ax).ch am⟩
