theorem sp_rpA {p q : Nat → Bool} {n : Nat} (hn : n ≤ 6) : nI (sp_st p n) &&& nI (sp_st q n) = nI (sp_st (fun j => p j && q j) n) := by rw [sp_andE _ (sp_st_64 p hn) _ (sp_st_64 q hn), sp_st_and]
theorem sp_rpN {p q : Nat → Bool} {n : Nat} (hn : n ≤ 6) : nI (sp_st p n) &&& (nI (sp_st q n) ^^^ (-1)) = nI (sp_st (fun j => p j && !(q j)) n) := by rw [sp_andnE _ (sp_st_64 p hn) _ (sp_st_64 q hn), sp_st_andn p q hn]
theorem sp_pj1 {f : Nat → Int32} {k a : Nat} (ea : f (2 * k) = nI a) (ha : a < 6) (es : f (2 * k + 1) = nI 1) : (fun j => sp_pj f k j && sp_sg a j) = sp_pj f (k + 1) := funext fun j => by
  show _ = (sp_pj f k j && (sp_sg (f (2 * k)).toNatClampNeg j == decide (f (2 * k + 1) = nI 1)))
  rw [ea, es, nI_clamp (by omega)]
  simp
theorem sp_pj0 {f : Nat → Int32} {k a : Nat} (ea : f (2 * k) = nI a) (ha : a < 6) (es : f (2 * k + 1) = nI 0) : (fun j => sp_pj f k j && !(sp_sg a j)) = sp_pj f (k + 1) := funext fun j => by
  show _ = (sp_pj f k j && (sp_sg (f (2 * k)).toNatClampNeg j == decide (f (2 * k + 1) = nI 1)))
  rw [ea, es, nI_clamp (by omega), show decide (nI 0 = nI 1) = false by decide]
  simp
theorem sp_pj_c {f f' : Nat → Int32} : ∀ {k : Nat}, (∀ i, i < 2 * k → f i = f' i) → sp_pj f k = sp_pj f' k
  | 0, _ => rfl
  | k + 1, h => funext fun j => by
    show (sp_pj f k j && _) = (sp_pj f' k j && _)
    rw [sp_pj_c (fun i hi => h i (by omega)), h (2 * k) (by omega), h (2 * k + 1) (by omega)]
theorem sp_ib {b : Bool} : (if b = true then 1 else 0) < 2 := by cases b <;> decide
set_option maxRecDepth 20000 in
theorem xl_rp {X : sp_X} {ac : sp_Ac} {g : sp_G} {r z n : Nat} (hr : r < 6) (hz : g.1 9 r = nI z) (hzb : z ≤ 40) (hn : g.1 18 3 = nI n) (hb : n ≤ 6) (hev : z % 2 = 0) (hg : ∀ i, i < z → sp_eg (fun i => g.1 (3 + r) i) n i) (hA : sp_Act X 107 3 (sp_Fi (nI (sp_st (sp_pj (fun i => g.1 (3 + r) i) (z / 2)) n)) g) ac) : ∀ (m : Nat) (k : Nat) (s : Nat), 2 * k + 2 * m = z → s = sp_st (sp_pj (fun i => g.1 (3 + r) i) k) n → sp_Ev X ac 107 10 [.ref 0, .int (nI r), .int (nI s), .int (nI (2 * k)), .null] [] g := by
  intro m
  induction m with
  | zero =>
    intro k s h0_ h1_
    refine sr_iload_n hA si_107_10 rfl ?_
    refine sr_iconst (v := nI 1) hA si_107_11 (by decide) ?_
    refine sr_iaddN hA si_107_12 ?_
    refine sr_aload_n hA si_107_13 rfl ?_
    refine sr_getR (r := 1) hA si_107_14 sf_107_14 (by decide) (by decide) rfl rfl rfl ?_
    refine sr_iload_n hA si_107_17 rfl ?_
    refine sr_VFi (c := 1) (ci := 5) (as := [.int (nI r)]) (st := [.int (nI ((2 * k) + 1))]) hA si_107_18 sv_26 sk_107_114 (xc_sizeR X g (z := nI z) (by omega) hz) (by omega) rfl (by decide) (by decide) rfl sq_c_26 rfl (Nat.le_of_ble_eq_true rfl) ?_
    refine sr_icmp_geN (tgt := 75) hA si_107_21 (by decide) (by omega) (by omega) (fun c1 => ?_) (fun c1 => absurd c1 (by omega))
    refine sr_iload_n hA si_107_75 rfl ?_
    exact sr_iretF hA si_107_76 sq_r_107 (by rw [h1_, show k = z / 2 by omega]) rfl
  | succ m ih =>
    intro k s h0_ h1_
    obtain ⟨a, ha, ea⟩ := (hg (2 * k) (by omega)).1 (by omega)
    obtain ⟨s2, hs2, es⟩ := (hg (2 * k + 1) (by omega)).2 (by omega)
    have hs6 := sp_st_64 (sp_pj (fun i => g.1 (3 + r) i) k) hb
    have hs3 : s2 = 0 ∨ s2 = 1 := by omega
    rcases hs3 with rfl | rfl
    · refine sr_iload_n hA si_107_10 rfl ?_
      refine sr_iconst (v := nI 1) hA si_107_11 (by decide) ?_
      refine sr_iaddN hA si_107_12 ?_
      refine sr_aload_n hA si_107_13 rfl ?_
      refine sr_getR (r := 1) hA si_107_14 sf_107_14 (by decide) (by decide) rfl rfl rfl ?_
      refine sr_iload_n hA si_107_17 rfl ?_
      refine sr_VFi (c := 1) (ci := 5) (as := [.int (nI r)]) (st := [.int (nI ((2 * k) + 1))]) hA si_107_18 sv_26 sk_107_114 (xc_sizeR X g (z := nI z) (by omega) hz) (by omega) rfl (by decide) (by decide) rfl sq_c_26 rfl (Nat.le_of_ble_eq_true rfl) ?_
      refine sr_icmp_geN (tgt := 75) hA si_107_21 (by decide) (by omega) (by omega) (fun c1 => absurd c1 (by omega)) (fun c1 => ?_)
      refine sr_aload_n hA si_107_24 rfl ?_
      refine sr_getR (r := 18) hA si_107_25 sf_107_32 (by decide) (by decide) rfl rfl rfl ?_
      refine sr_aload_n hA si_107_28 rfl ?_
      refine sr_getR (r := 1) hA si_107_29 sf_107_14 (by decide) (by decide) rfl rfl rfl ?_
      refine sr_iload_n hA si_107_32 rfl ?_
      refine sr_iload_n hA si_107_33 rfl ?_
      refine sr_VFi (c := 1) (ci := 5) (as := [.int (nI r), .int (nI (2 * k))]) (st := [.ref 18]) hA si_107_34 sv_18 sk_107_88 (xc_getR X g (v := nI a) (by omega) (by omega) ea) (by omega) rfl (by decide) (by decide) rfl sq_c_18 rfl (Nat.le_of_ble_eq_true rfl) ?_
      refine sr_VFi (c := 18) (ci := 0) (as := [.int (nI a)]) (st := []) hA si_107_37 sv_109 sk_107_271 (xc_near X g (a := a) hn hb (by omega)) (by omega) rfl (by decide) (by decide) rfl sq_c_109 rfl (Nat.le_of_ble_eq_true rfl) ?_
      refine sr_istore (ls1 := [.ref 0, .int (nI r), .int (nI s), .int (nI (2 * k)), .int (nI (sp_st (sp_sg a) n))]) hA si_107_40 (by rw [sq_l_107]; decide) rfl ?_
      refine sr_iload_n hA si_107_42 rfl ?_
      refine sr_aload_n hA si_107_43 rfl ?_
      refine sr_getR (r := 1) hA si_107_44 sf_107_14 (by decide) (by decide) rfl rfl rfl ?_
      refine sr_iload_n hA si_107_47 rfl ?_
      refine sr_iload_n hA si_107_48 rfl ?_
      refine sr_iconst (v := nI 1) hA si_107_49 (by decide) ?_
      refine sr_iaddN hA si_107_50 ?_
      refine sr_VFi (c := 1) (ci := 5) (as := [.int (nI r), .int (nI ((2 * k) + 1))]) (st := [.int (nI s)]) hA si_107_51 sv_18 sk_107_88 (xc_getR X g (v := nI 0) (by omega) (by omega) es) (by omega) rfl (by decide) (by decide) rfl sq_c_18 rfl (Nat.le_of_ble_eq_true rfl) ?_
      refine sr_iconst (v := nI 1) hA si_107_54 (by decide) ?_
      refine sr_icmp_neN (tgt := 63) hA si_107_55 (by decide) (by omega) (by omega) (fun c2 => ?_) (fun c2 => absurd c2 (by omega))
      refine sr_iload hA si_107_63 rfl ?_
      refine sr_iconst (v := (-1)) hA si_107_65 (by decide) ?_
      refine sr_ixor hA si_107_66 ?_
      refine sr_iand hA si_107_67 ?_
      refine sr_istore_n (ls1 := [.ref 0, .int (nI r), .int ((nI s) &&& ((nI (sp_st (sp_sg a) n)) ^^^ (-1))), .int (nI (2 * k)), .int (nI (sp_st (sp_sg a) n))]) hA si_107_68 rfl (by rw [sq_l_107]; decide) rfl ?_
      refine sr_iincN (x := (2 * k)) (y := 2) (ls1 := [.ref 0, .int (nI r), .int ((nI s) &&& ((nI (sp_st (sp_sg a) n)) ^^^ (-1))), .int (nI (2 * k + 2)), .int (nI (sp_st (sp_sg a) n))]) hA si_107_69 rfl rfl (by rw [sq_l_107]; decide) rfl ?_
      refine sr_goto (tgt := 10) hA si_107_72 (by decide) ?_
      refine sr_fg (ls1 := [.ref 0, .int (nI r), .int ((nI s) &&& ((nI (sp_st (sp_sg a) n)) ^^^ (-1))), .int (nI (2 * k + 2)), .null]) ⟨Or.inr rfl, Or.inr rfl, Or.inr rfl, Or.inr rfl, Or.inl rfl, trivial⟩ ?_
      subst h1_
      rw [sp_rpN hb, sp_pj0 (f := (fun i => g.1 (3 + r) i)) ea (by omega) es, show 2 * k + 2 = 2 * (k + 1) by omega]
      exact ih (k + 1) _ (by omega) rfl
    · refine sr_iload_n hA si_107_10 rfl ?_
      refine sr_iconst (v := nI 1) hA si_107_11 (by decide) ?_
      refine sr_iaddN hA si_107_12 ?_
      refine sr_aload_n hA si_107_13 rfl ?_
      refine sr_getR (r := 1) hA si_107_14 sf_107_14 (by decide) (by decide) rfl rfl rfl ?_
      refine sr_iload_n hA si_107_17 rfl ?_
      refine sr_VFi (c := 1) (ci := 5) (as := [.int (nI r)]) (st := [.int (nI ((2 * k) + 1))]) hA si_107_18 sv_26 sk_107_114 (xc_sizeR X g (z := nI z) (by omega) hz) (by omega) rfl (by decide) (by decide) rfl sq_c_26 rfl (Nat.le_of_ble_eq_true rfl) ?_
      refine sr_icmp_geN (tgt := 75) hA si_107_21 (by decide) (by omega) (by omega) (fun c1 => absurd c1 (by omega)) (fun c1 => ?_)
      refine sr_aload_n hA si_107_24 rfl ?_
      refine sr_getR (r := 18) hA si_107_25 sf_107_32 (by decide) (by decide) rfl rfl rfl ?_
      refine sr_aload_n hA si_107_28 rfl ?_
      refine sr_getR (r := 1) hA si_107_29 sf_107_14 (by decide) (by decide) rfl rfl rfl ?_
      refine sr_iload_n hA si_107_32 rfl ?_
      refine sr_iload_n hA si_107_33 rfl ?_
      refine sr_VFi (c := 1) (ci := 5) (as := [.int (nI r), .int (nI (2 * k))]) (st := [.ref 18]) hA si_107_34 sv_18 sk_107_88 (xc_getR X g (v := nI a) (by omega) (by omega) ea) (by omega) rfl (by decide) (by decide) rfl sq_c_18 rfl (Nat.le_of_ble_eq_true rfl) ?_
      refine sr_VFi (c := 18) (ci := 0) (as := [.int (nI a)]) (st := []) hA si_107_37 sv_109 sk_107_271 (xc_near X g (a := a) hn hb (by omega)) (by omega) rfl (by decide) (by decide) rfl sq_c_109 rfl (Nat.le_of_ble_eq_true rfl) ?_
      refine sr_istore (ls1 := [.ref 0, .int (nI r), .int (nI s), .int (nI (2 * k)), .int (nI (sp_st (sp_sg a) n))]) hA si_107_40 (by rw [sq_l_107]; decide) rfl ?_
      refine sr_iload_n hA si_107_42 rfl ?_
      refine sr_aload_n hA si_107_43 rfl ?_
      refine sr_getR (r := 1) hA si_107_44 sf_107_14 (by decide) (by decide) rfl rfl rfl ?_
      refine sr_iload_n hA si_107_47 rfl ?_
      refine sr_iload_n hA si_107_48 rfl ?_
      refine sr_iconst (v := nI 1) hA si_107_49 (by decide) ?_
      refine sr_iaddN hA si_107_50 ?_
      refine sr_VFi (c := 1) (ci := 5) (as := [.int (nI r), .int (nI ((2 * k) + 1))]) (st := [.int (nI s)]) hA si_107_51 sv_18 sk_107_88 (xc_getR X g (v := nI 1) (by omega) (by omega) es) (by omega) rfl (by decide) (by decide) rfl sq_c_18 rfl (Nat.le_of_ble_eq_true rfl) ?_
      refine sr_iconst (v := nI 1) hA si_107_54 (by decide) ?_
      refine sr_icmp_neN (tgt := 63) hA si_107_55 (by decide) (by omega) (by omega) (fun c2 => absurd c2 (by omega)) (fun c2 => ?_)
      refine sr_iload hA si_107_58 rfl ?_
      refine sr_goto (tgt := 67) hA si_107_60 (by decide) ?_
      refine sr_iand hA si_107_67 ?_
      refine sr_istore_n (ls1 := [.ref 0, .int (nI r), .int ((nI s) &&& (nI (sp_st (sp_sg a) n))), .int (nI (2 * k)), .int (nI (sp_st (sp_sg a) n))]) hA si_107_68 rfl (by rw [sq_l_107]; decide) rfl ?_
      refine sr_iincN (x := (2 * k)) (y := 2) (ls1 := [.ref 0, .int (nI r), .int ((nI s) &&& (nI (sp_st (sp_sg a) n))), .int (nI (2 * k + 2)), .int (nI (sp_st (sp_sg a) n))]) hA si_107_69 rfl rfl (by rw [sq_l_107]; decide) rfl ?_
      refine sr_goto (tgt := 10) hA si_107_72 (by decide) ?_
      refine sr_fg (ls1 := [.ref 0, .int (nI r), .int ((nI s) &&& (nI (sp_st (sp_sg a) n))), .int (nI (2 * k + 2)), .null]) ⟨Or.inr rfl, Or.inr rfl, Or.inr rfl, Or.inr rfl, Or.inl rfl, trivial⟩ ?_
      subst h1_
      rw [sp_rpA hb, sp_pj1 (f := (fun i => g.1 (3 + r) i)) ea (by omega) es, show 2 * k + 2 = 2 * (k + 1) by omega]
      exact ih (k + 1) _ (by omega) rfl
set_option maxRecDepth 20000 in
theorem xc_rp (X : sp_X) (g : sp_G) {r z n : Nat} (hr : r < 6) (hz : g.1 9 r = nI z) (hzb : z ≤ 40) (hn : g.1 18 3 = nI n) (hb : n ≤ 6) (hev : z % 2 = 0) (hg : ∀ i, i < z → sp_eg (fun i => g.1 (3 + r) i) n i) : sp_Ct X 3 107 [.ref 0, .int (nI r)] g (sp_Fi (nI (sp_st (sp_pj (fun i => g.1 (3 + r) i) (z / 2)) n)) g) := by
  refine sp_walkN (n := 5) sq_p_107 sq_l_107 (Nat.le_of_ble_eq_true rfl) (fun ac hA => ?_)
  show sp_Ev X ac 107 0 [.ref 0, .int (nI r), .null, .null, .null] [] g
  refine sr_aload_n hA si_107_0 rfl ?_
  refine sr_getR (r := 18) hA si_107_1 sf_107_32 (by decide) (by decide) rfl rfl rfl ?_
  refine sr_VFi (c := 18) (ci := 0) (as := []) (st := []) hA si_107_4 sv_108 sk_107_310 (xc_all X g hn hb) (by omega) rfl (by decide) (by decide) rfl sq_c_108 rfl (Nat.le_of_ble_eq_true rfl) ?_
  refine sr_istore_n (ls1 := [.ref 0, .int (nI r), .int (nI (2 ^ n - 1)), .null, .null]) hA si_107_7 rfl (by rw [sq_l_107]; decide) rfl ?_
  refine sr_iconst (v := nI 0) hA si_107_8 (by decide) ?_
  refine sr_istore_n (ls1 := [.ref 0, .int (nI r), .int (nI (2 ^ n - 1)), .int (nI 0), .null]) hA si_107_9 rfl (by rw [sq_l_107]; decide) rfl ?_
  exact xl_rp hr hz hzb hn hb hev hg hA (z / 2) 0 (2 ^ n - 1) (by omega) (sp_st_all n).symm
theorem mc_sings1 (X : sp_X) (g : sp_G) {a j : Nat} (ha : a < 6) (hj : j < 6) (h : sp_sg a j = true) : sp_Ct X 1 215 [.int (nI a), .int (nI j)] g (sp_Fi (nI 1) g) := by
  have h2 := (sp_sgE a ha j hj).mpr h
  refine sp_walkN (n := 2) sq_p_215 sq_l_215 (Nat.le_of_ble_eq_true rfl) (fun ac hA => ?_)
  show sp_Ev X ac 215 0 [.int (nI a), .int (nI j)] [] g
  refine sr_iload_n hA si_215_0 rfl ?_
  refine sr_iload_n hA si_215_1 rfl ?_
  refine sr_isub hA si_215_2 ?_
  refine sr_iconst (v := (-1)) hA si_215_3 (by decide) ?_
  refine sr_iconst (v := nI 1) hA si_215_4 (by decide) ?_
  refine sr_SFi (as := [.int ((nI a) - (nI j)), .int (-1), .int (nI 1)]) (st := []) hA si_215_5 ss_135 sk_215_83 (mc_in1 X g h2.1 h2.2) (by omega) rfl rfl (Nat.le_of_ble_eq_true rfl) ?_
  exact sr_zretF hA si_215_8 sq_r_215 (by decide) rfl rfl
theorem mc_sings0 (X : sp_X) (g : sp_G) {a j : Nat} (ha : a < 6) (hj : j < 6) (h : ¬ sp_sg a j = true) : sp_Ct X 1 215 [.int (nI a), .int (nI j)] g (sp_Fi (nI 0) g) := by
  have h2 := fun q => h ((sp_sgE a ha j hj).mp q)
  refine sp_walkN (n := 2) sq_p_215 sq_l_215 (Nat.le_of_ble_eq_true rfl) (fun ac hA => ?_)
  show sp_Ev X ac 215 0 [.int (nI a), .int (nI j)] [] g
  refine sr_iload_n hA si_215_0 rfl ?_
  refine sr_iload_n hA si_215_1 rfl ?_
  refine sr_isub hA si_215_2 ?_
  refine sr_iconst (v := (-1)) hA si_215_3 (by decide) ?_
  refine sr_iconst (v := nI 1) hA si_215_4 (by decide) ?_
  refine sr_SFi (as := [.int ((nI a) - (nI j)), .int (-1), .int (nI 1)]) (st := []) hA si_215_5 ss_135 sk_215_83 (mc_in0 X g h2) (by omega) rfl rfl (Nat.le_of_ble_eq_true rfl) ?_
  exact sr_zretF hA si_215_8 sq_r_215 (by decide) rfl rfl
set_option maxRecDepth 20000 in
theorem ml_usI {X : sp_X} {dd : Nat} {ac : sp_Ac} {g : sp_G} {r z n : Nat} (hr : r < 6) (hz : g.1 66 r = nI z) (hzb : z ≤ 40) (hn : g.1 64 11 = nI n) (hb : n ≤ 6) (hev : z % 2 = 0) (hg : ∀ i, i < z → sp_eg (fun i => g.1 67 (40 * r + i)) n i) {Rt : sp_Rt} {s j : Nat} (hj : j < n) (hdd : 2 ≤ dd) (kk : sp_Ev X ac 214 79 [.ref 64, .int (nI r), .int (nI s), .int (nI j), .int (nI (if sp_pj (fun i => g.1 67 (40 * r + i)) (z / 2) j = true then 1 else 0)), .null] [] g) (hA : sp_Act X 214 dd Rt ac) : ∀ (m : Nat) (k : Nat) (c : Nat), 2 * k + 2 * m = z → c = (if sp_pj (fun i => g.1 67 (40 * r + i)) k j = true then 1 else 0) → sp_Ev X ac 214 18 [.ref 64, .int (nI r), .int (nI s), .int (nI j), .int (nI c), .int (nI (2 * k))] [] g := by
  intro m
  induction m with
  | zero =>
    intro k c h0_ h1_
    refine sr_iload hA si_214_18 rfl ?_
    refine sr_aload_n hA si_214_20 rfl ?_
    refine sr_getR (r := 66) hA si_214_21 sf_214_17 (by decide) (by decide) rfl rfl rfl ?_
    refine sr_iload_n hA si_214_24 rfl ?_
    refine sr_ialdNv (v := nI z) (n := 6) hA si_214_25 (by decide) rfl rfl (by omega) (by decide) hz ?_
    refine sr_icmp_geN (tgt := 79) hA si_214_26 (by decide) (by omega) (by omega) (fun c1 => ?_) (fun c1 => absurd c1 (by omega))
    refine sr_fg (ls1 := [.ref 64, .int (nI r), .int (nI s), .int (nI j), .int (nI c), .null]) ⟨Or.inr rfl, Or.inr rfl, Or.inr rfl, Or.inr rfl, Or.inr rfl, Or.inl rfl, trivial⟩ ?_
    rw [h1_, show k = z / 2 by omega]
    exact kk
  | succ m ih =>
    intro k c h0_ h1_
    obtain ⟨a, ha, ea⟩ := (hg (2 * k) (by omega)).1 (by omega)
    obtain ⟨s2, hs2, es⟩ := (hg (2 * k + 1) (by omega)).2 (by omega)
    have hs3 : s2 = 0 ∨ s2 = 1 := by omega
    rcases hs3 with rfl | rfl <;> by_cases hpj : sp_pj (fun i => g.1 67 (40 * r + i)) k j = true <;> by_cases hsg : sp_sg a j = true
    · have hc : c = 1 := by rw [h1_]; simp [hpj]
      refine sr_iload hA si_214_18 rfl ?_
      refine sr_aload_n hA si_214_20 rfl ?_
      refine sr_getR (r := 66) hA si_214_21 sf_214_17 (by decide) (by decide) rfl rfl rfl ?_
      refine sr_iload_n hA si_214_24 rfl ?_
      refine sr_ialdNv (v := nI z) (n := 6) hA si_214_25 (by decide) rfl rfl (by omega) (by decide) hz ?_
      refine sr_icmp_geN (tgt := 79) hA si_214_26 (by decide) (by omega) (by omega) (fun c1 => absurd c1 (by omega)) (fun c1 => ?_)
      refine sr_iload hA si_214_29 rfl ?_
      refine sr_if_eqN (tgt := 70) hA si_214_31 (by decide) (by omega) (fun c2 => absurd c2 (by omega)) (fun c2 => ?_)
      refine sr_aload_n hA si_214_34 rfl ?_
      refine sr_iload_n hA si_214_35 rfl ?_
      refine sr_iload hA si_214_36 rfl ?_
      refine sr_VFi (c := 64) (ci := 8) (as := [.int (nI r), .int (nI (2 * k))]) (st := []) hA si_214_38 sv_143 sk_214_101 (by have h := mc_rowAt X g (r := r) (i := (2 * k)) (by omega); rw [show g.1 67 (40 * r + (2 * k)) = nI a from ea] at h; exact h) (by omega) rfl (by decide) (by decide) rfl sq_c_143 rfl (Nat.le_of_ble_eq_true rfl) ?_
      refine sr_iload_n hA si_214_41 rfl ?_
      refine sr_SFi (as := [.int (nI a), .int (nI j)]) (st := []) hA si_214_42 ss_215 sk_214_262 (mc_sings1 X g (a := a) (j := j) (by omega) (by omega) hsg) (by omega) rfl rfl (Nat.le_of_ble_eq_true rfl) ?_
      refine sr_aload_n hA si_214_45 rfl ?_
      refine sr_iload_n hA si_214_46 rfl ?_
      refine sr_iload hA si_214_47 rfl ?_
      refine sr_iconst (v := nI 1) hA si_214_49 (by decide) ?_
      refine sr_iaddN hA si_214_50 ?_
      refine sr_VFi (c := 64) (ci := 8) (as := [.int (nI r), .int (nI ((2 * k) + 1))]) (st := [.int (nI 1)]) hA si_214_51 sv_143 sk_214_101 (by have h := mc_rowAt X g (r := r) (i := ((2 * k) + 1)) (by omega); rw [show g.1 67 (40 * r + ((2 * k) + 1)) = nI 0 from es] at h; exact h) (by omega) rfl (by decide) (by decide) rfl sq_c_143 rfl (Nat.le_of_ble_eq_true rfl) ?_
      refine sr_iconst (v := nI 1) hA si_214_54 (by decide) ?_
      refine sr_icmp_neN (tgt := 62) hA si_214_55 (by decide) (by omega) (by omega) (fun c3 => ?_) (fun c3 => absurd c3 (by omega))
      refine sr_iconst (v := nI 0) hA si_214_62 (by decide) ?_
      refine sr_icmp_neN (tgt := 70) hA si_214_63 (by decide) (by omega) (by omega) (fun c4 => ?_) (fun c4 => absurd c4 (by omega))
      refine sr_iconst (v := nI 0) hA si_214_70 (by decide) ?_
      refine sr_istore (ls1 := [.ref 64, .int (nI r), .int (nI s), .int (nI j), .int (nI 0), .int (nI (2 * k))]) hA si_214_71 (by rw [sq_l_214]; decide) rfl ?_
      refine sr_iincN (x := (2 * k)) (y := 2) (ls1 := [.ref 64, .int (nI r), .int (nI s), .int (nI j), .int (nI 0), .int (nI (2 * k + 2))]) hA si_214_73 rfl rfl (by rw [sq_l_214]; decide) rfl ?_
      refine sr_goto (tgt := 18) hA si_214_76 (by decide) ?_
      rw [show 2 * k + 2 = 2 * (k + 1) by omega]
      exact ih (k + 1) 0 (by omega) (by rw [← sp_pj0 (f := (fun i => g.1 67 (40 * r + i))) ea (by omega) es]; simp [hpj, hsg])
    · have hc : c = 1 := by rw [h1_]; simp [hpj]
      refine sr_iload hA si_214_18 rfl ?_
      refine sr_aload_n hA si_214_20 rfl ?_
      refine sr_getR (r := 66) hA si_214_21 sf_214_17 (by decide) (by decide) rfl rfl rfl ?_
      refine sr_iload_n hA si_214_24 rfl ?_
      refine sr_ialdNv (v := nI z) (n := 6) hA si_214_25 (by decide) rfl rfl (by omega) (by decide) hz ?_
      refine sr_icmp_geN (tgt := 79) hA si_214_26 (by decide) (by omega) (by omega) (fun c1 => absurd c1 (by omega)) (fun c1 => ?_)
      refine sr_iload hA si_214_29 rfl ?_
      refine sr_if_eqN (tgt := 70) hA si_214_31 (by decide) (by omega) (fun c2 => absurd c2 (by omega)) (fun c2 => ?_)
      refine sr_aload_n hA si_214_34 rfl ?_
      refine sr_iload_n hA si_214_35 rfl ?_
      refine sr_iload hA si_214_36 rfl ?_
      refine sr_VFi (c := 64) (ci := 8) (as := [.int (nI r), .int (nI (2 * k))]) (st := []) hA si_214_38 sv_143 sk_214_101 (by have h := mc_rowAt X g (r := r) (i := (2 * k)) (by omega); rw [show g.1 67 (40 * r + (2 * k)) = nI a from ea] at h; exact h) (by omega) rfl (by decide) (by decide) rfl sq_c_143 rfl (Nat.le_of_ble_eq_true rfl) ?_
      refine sr_iload_n hA si_214_41 rfl ?_
      refine sr_SFi (as := [.int (nI a), .int (nI j)]) (st := []) hA si_214_42 ss_215 sk_214_262 (mc_sings0 X g (a := a) (j := j) (by omega) (by omega) hsg) (by omega) rfl rfl (Nat.le_of_ble_eq_true rfl) ?_
      refine sr_aload_n hA si_214_45 rfl ?_
      refine sr_iload_n hA si_214_46 rfl ?_
      refine sr_iload hA si_214_47 rfl ?_
      refine sr_iconst (v := nI 1) hA si_214_49 (by decide) ?_
      refine sr_iaddN hA si_214_50 ?_
      refine sr_VFi (c := 64) (ci := 8) (as := [.int (nI r), .int (nI ((2 * k) + 1))]) (st := [.int (nI 0)]) hA si_214_51 sv_143 sk_214_101 (by have h := mc_rowAt X g (r := r) (i := ((2 * k) + 1)) (by omega); rw [show g.1 67 (40 * r + ((2 * k) + 1)) = nI 0 from es] at h; exact h) (by omega) rfl (by decide) (by decide) rfl sq_c_143 rfl (Nat.le_of_ble_eq_true rfl) ?_
      refine sr_iconst (v := nI 1) hA si_214_54 (by decide) ?_
      refine sr_icmp_neN (tgt := 62) hA si_214_55 (by decide) (by omega) (by omega) (fun c3 => ?_) (fun c3 => absurd c3 (by omega))
      refine sr_iconst (v := nI 0) hA si_214_62 (by decide) ?_
      refine sr_icmp_neN (tgt := 70) hA si_214_63 (by decide) (by omega) (by omega) (fun c4 => absurd c4 (by omega)) (fun c4 => ?_)
      refine sr_iconst (v := nI 1) hA si_214_66 (by decide) ?_
      refine sr_goto (tgt := 71) hA si_214_67 (by decide) ?_
      refine sr_istore (ls1 := [.ref 64, .int (nI r), .int (nI s), .int (nI j), .int (nI 1), .int (nI (2 * k))]) hA si_214_71 (by rw [sq_l_214]; decide) rfl ?_
      refine sr_iincN (x := (2 * k)) (y := 2) (ls1 := [.ref 64, .int (nI r), .int (nI s), .int (nI j), .int (nI 1), .int (nI (2 * k + 2))]) hA si_214_73 rfl rfl (by rw [sq_l_214]; decide) rfl ?_
      refine sr_goto (tgt := 18) hA si_214_76 (by decide) ?_
      rw [show 2 * k + 2 = 2 * (k + 1) by omega]
      exact ih (k + 1) 1 (by omega) (by rw [← sp_pj0 (f := (fun i => g.1 67 (40 * r + i))) ea (by omega) es]; simp [hpj, hsg])
    · have hc : c = 0 := by rw [h1_]; simp [hpj]
      refine sr_iload hA si_214_18 rfl ?_
      refine sr_aload_n hA si_214_20 rfl ?_
      refine sr_getR (r := 66) hA si_214_21 sf_214_17 (by decide) (by decide) rfl rfl rfl ?_
      refine sr_iload_n hA si_214_24 rfl ?_
      refine sr_ialdNv (v := nI z) (n := 6) hA si_214_25 (by decide) rfl rfl (by omega) (by decide) hz ?_
      refine sr_icmp_geN (tgt := 79) hA si_214_26 (by decide) (by omega) (by omega) (fun c1 => absurd c1 (by omega)) (fun c1 => ?_)
      refine sr_iload hA si_214_29 rfl ?_
      refine sr_if_eqN (tgt := 70) hA si_214_31 (by decide) (by omega) (fun c2 => ?_) (fun c2 => absurd c2 (by omega))
      refine sr_iconst (v := nI 0) hA si_214_70 (by decide) ?_
      refine sr_istore (ls1 := [.ref 64, .int (nI r), .int (nI s), .int (nI j), .int (nI 0), .int (nI (2 * k))]) hA si_214_71 (by rw [sq_l_214]; decide) rfl ?_
      refine sr_iincN (x := (2 * k)) (y := 2) (ls1 := [.ref 64, .int (nI r), .int (nI s), .int (nI j), .int (nI 0), .int (nI (2 * k + 2))]) hA si_214_73 rfl rfl (by rw [sq_l_214]; decide) rfl ?_
      refine sr_goto (tgt := 18) hA si_214_76 (by decide) ?_
      rw [show 2 * k + 2 = 2 * (k + 1) by omega]
      exact ih (k + 1) 0 (by omega) (by rw [← sp_pj0 (f := (fun i => g.1 67 (40 * r + i))) ea (by omega) es]; simp [hpj, hsg])
    · have hc : c = 0 := by rw [h1_]; simp [hpj]
      refine sr_iload hA si_214_18 rfl ?_
      refine sr_aload_n hA si_214_20 rfl ?_
      refine sr_getR (r := 66) hA si_214_21 sf_214_17 (by decide) (by decide) rfl rfl rfl ?_
      refine sr_iload_n hA si_214_24 rfl ?_
      refine sr_ialdNv (v := nI z) (n := 6) hA si_214_25 (by decide) rfl rfl (by omega) (by decide) hz ?_
      refine sr_icmp_geN (tgt := 79) hA si_214_26 (by decide) (by omega) (by omega) (fun c1 => absurd c1 (by omega)) (fun c1 => ?_)
      refine sr_iload hA si_214_29 rfl ?_
      refine sr_if_eqN (tgt := 70) hA si_214_31 (by decide) (by omega) (fun c2 => ?_) (fun c2 => absurd c2 (by omega))
      refine sr_iconst (v := nI 0) hA si_214_70 (by decide) ?_
      refine sr_istore (ls1 := [.ref 64, .int (nI r), .int (nI s), .int (nI j), .int (nI 0), .int (nI (2 * k))]) hA si_214_71 (by rw [sq_l_214]; decide) rfl ?_
      refine sr_iincN (x := (2 * k)) (y := 2) (ls1 := [.ref 64, .int (nI r), .int (nI s), .int (nI j), .int (nI 0), .int (nI (2 * k + 2))]) hA si_214_73 rfl rfl (by rw [sq_l_214]; decide) rfl ?_
      refine sr_goto (tgt := 18) hA si_214_76 (by decide) ?_
      rw [show 2 * k + 2 = 2 * (k + 1) by omega]
      exact ih (k + 1) 0 (by omega) (by rw [← sp_pj0 (f := (fun i => g.1 67 (40 * r + i))) ea (by omega) es]; simp [hpj, hsg])
    · have hc : c = 1 := by rw [h1_]; simp [hpj]
      refine sr_iload hA si_214_18 rfl ?_
      refine sr_aload_n hA si_214_20 rfl ?_
      refine sr_getR (r := 66) hA si_214_21 sf_214_17 (by decide) (by decide) rfl rfl rfl ?_
      refine sr_iload_n hA si_214_24 rfl ?_
      refine sr_ialdNv (v := nI z) (n := 6) hA si_214_25 (by decide) rfl rfl (by omega) (by decide) hz ?_
      refine sr_icmp_geN (tgt := 79) hA si_214_26 (by decide) (by omega) (by omega) (fun c1 => absurd c1 (by omega)) (fun c1 => ?_)
      refine sr_iload hA si_214_29 rfl ?_
      refine sr_if_eqN (tgt := 70) hA si_214_31 (by decide) (by omega) (fun c2 => absurd c2 (by omega)) (fun c2 => ?_)
      refine sr_aload_n hA si_214_34 rfl ?_
      refine sr_iload_n hA si_214_35 rfl ?_
      refine sr_iload hA si_214_36 rfl ?_
      refine sr_VFi (c := 64) (ci := 8) (as := [.int (nI r), .int (nI (2 * k))]) (st := []) hA si_214_38 sv_143 sk_214_101 (by have h := mc_rowAt X g (r := r) (i := (2 * k)) (by omega); rw [show g.1 67 (40 * r + (2 * k)) = nI a from ea] at h; exact h) (by omega) rfl (by decide) (by decide) rfl sq_c_143 rfl (Nat.le_of_ble_eq_true rfl) ?_
      refine sr_iload_n hA si_214_41 rfl ?_
      refine sr_SFi (as := [.int (nI a), .int (nI j)]) (st := []) hA si_214_42 ss_215 sk_214_262 (mc_sings1 X g (a := a) (j := j) (by omega) (by omega) hsg) (by omega) rfl rfl (Nat.le_of_ble_eq_true rfl) ?_
      refine sr_aload_n hA si_214_45 rfl ?_
      refine sr_iload_n hA si_214_46 rfl ?_
      refine sr_iload hA si_214_47 rfl ?_
      refine sr_iconst (v := nI 1) hA si_214_49 (by decide) ?_
      refine sr_iaddN hA si_214_50 ?_
      refine sr_VFi (c := 64) (ci := 8) (as := [.int (nI r), .int (nI ((2 * k) + 1))]) (st := [.int (nI 1)]) hA si_214_51 sv_143 sk_214_101 (by have h := mc_rowAt X g (r := r) (i := ((2 * k) + 1)) (by omega); rw [show g.1 67 (40 * r + ((2 * k) + 1)) = nI 1 from es] at h; exact h) (by omega) rfl (by decide) (by decide) rfl sq_c_143 rfl (Nat.le_of_ble_eq_true rfl) ?_
      refine sr_iconst (v := nI 1) hA si_214_54 (by decide) ?_
      refine sr_icmp_neN (tgt := 62) hA si_214_55 (by decide) (by omega) (by omega) (fun c3 => absurd c3 (by omega)) (fun c3 => ?_)
      refine sr_iconst (v := nI 1) hA si_214_58 (by decide) ?_
      refine sr_goto (tgt := 63) hA si_214_59 (by decide) ?_
      refine sr_icmp_neN (tgt := 70) hA si_214_63 (by decide) (by omega) (by omega) (fun c4 => absurd c4 (by omega)) (fun c4 => ?_)
      refine sr_iconst (v := nI 1) hA si_214_66 (by decide) ?_
      refine sr_goto (tgt := 71) hA si_214_67 (by decide) ?_
      refine sr_istore (ls1 := [.ref 64, .int (nI r), .int (nI s), .int (nI j), .int (nI 1), .int (nI (2 * k))]) hA si_214_71 (by rw [sq_l_214]; decide) rfl ?_
      refine sr_iincN (x := (2 * k)) (y := 2) (ls1 := [.ref 64, .int (nI r), .int (nI s), .int (nI j), .int (nI 1), .int (nI (2 * k + 2))]) hA si_214_73 rfl rfl (by rw [sq_l_214]; decide) rfl ?_
      refine sr_goto (tgt := 18) hA si_214_76 (by decide) ?_
      rw [show 2 * k + 2 = 2 * (k + 1) by omega]
      exact ih (k + 1) 1 (by omega) (by rw [← sp_pj1 (f := (fun i => g.1 67 (40 * r + i))) ea (by omega) es]; simp [hpj, hsg])
    · have hc : c = 1 := by rw [h1_]; simp [hpj]
      refine sr_iload hA si_214_18 rfl ?_
      refine sr_aload_n hA si_214_20 rfl ?_
      refine sr_getR (r := 66) hA si_214_21 sf_214_17 (by decide) (by decide) rfl rfl rfl ?_
      refine sr_iload_n hA si_214_24 rfl ?_
      refine sr_ialdNv (v := nI z) (n := 6) hA si_214_25 (by decide) rfl rfl (by omega) (by decide) hz ?_
      refine sr_icmp_geN (tgt := 79) hA si_214_26 (by decide) (by omega) (by omega) (fun c1 => absurd c1 (by omega)) (fun c1 => ?_)
      refine sr_iload hA si_214_29 rfl ?_
      refine sr_if_eqN (tgt := 70) hA si_214_31 (by decide) (by omega) (fun c2 => absurd c2 (by omega)) (fun c2 => ?_)
      refine sr_aload_n hA si_214_34 rfl ?_
      refine sr_iload_n hA si_214_35 rfl ?_
      refine sr_iload hA si_214_36 rfl ?_
      refine sr_VFi (c := 64) (ci := 8) (as := [.int (nI r), .int (nI (2 * k))]) (st := []) hA si_214_38 sv_143 sk_214_101 (by have h := mc_rowAt X g (r := r) (i := (2 * k)) (by omega); rw [show g.1 67 (40 * r + (2 * k)) = nI a from ea] at h; exact h) (by omega) rfl (by decide) (by decide) rfl sq_c_143 rfl (Nat.le_of_ble_eq_true rfl) ?_
      refine sr_iload_n hA si_214_41 rfl ?_
      refine sr_SFi (as := [.int (nI a), .int (nI j)]) (st := []) hA si_214_42 ss_215 sk_214_262 (mc_sings0 X g (a := a) (j := j) (by omega) (by omega) hsg) (by omega) rfl rfl (Nat.le_of_ble_eq_true rfl) ?_
      refine sr_aload_n hA si_214_45 rfl ?_
      refine sr_iload_n hA si_214_46 rfl ?_
      refine sr_iload hA si_214_47 rfl ?_
      refine sr_iconst (v := nI 1) hA si_214_49 (by decide) ?_
      refine sr_iaddN hA si_214_50 ?_
      refine sr_VFi (c := 64) (ci := 8) (as := [.int (nI r), .int (nI ((2 * k) + 1))]) (st := [.int (nI 0)]) hA si_214_51 sv_143 sk_214_101 (by have h := mc_rowAt X g (r := r) (i := ((2 * k) + 1)) (by omega); rw [show g.1 67 (40 * r + ((2 * k) + 1)) = nI 1 from es] at h; exact h) (by omega) rfl (by decide) (by decide) rfl sq_c_143 rfl (Nat.le_of_ble_eq_true rfl) ?_
      refine sr_iconst (v := nI 1) hA si_214_54 (by decide) ?_
      refine sr_icmp_neN (tgt := 62) hA si_214_55 (by decide) (by omega) (by omega) (fun c3 => absurd c3 (by omega)) (fun c3 => ?_)
      refine sr_iconst (v := nI 1) hA si_214_58 (by decide) ?_
      refine sr_goto (tgt := 63) hA si_214_59 (by decide) ?_
      refine sr_icmp_neN (tgt := 70) hA si_214_63 (by decide) (by omega) (by omega) (fun c4 => ?_) (fun c4 => absurd c4 (by omega))
      refine sr_iconst (v := nI 0) hA si_214_70 (by decide) ?_
      refine sr_istore (ls1 := [.ref 64, .int (nI r), .int (nI s), .int (nI j), .int (nI 0), .int (nI (2 * k))]) hA si_214_71 (by rw [sq_l_214]; decide) rfl ?_
      refine sr_iincN (x := (2 * k)) (y := 2) (ls1 := [.ref 64, .int (nI r), .int (nI s), .int (nI j), .int (nI 0), .int (nI (2 * k + 2))]) hA si_214_73 rfl rfl (by rw [sq_l_214]; decide) rfl ?_
      refine sr_goto (tgt := 18) hA si_214_76 (by decide) ?_
      rw [show 2 * k + 2 = 2 * (k + 1) by omega]
      exact ih (k + 1) 0 (by omega) (by rw [← sp_pj1 (f := (fun i => g.1 67 (40 * r + i))) ea (by omega) es]; simp [hpj, hsg])
    · have hc : c = 0 := by rw [h1_]; simp [hpj]
      refine sr_iload hA si_214_18 rfl ?_
      refine sr_aload_n hA si_214_20 rfl ?_
      refine sr_getR (r := 66) hA si_214_21 sf_214_17 (by decide) (by decide) rfl rfl rfl ?_
      refine sr_iload_n hA si_214_24 rfl ?_
      refine sr_ialdNv (v := nI z) (n := 6) hA si_214_25 (by decide) rfl rfl (by omega) (by decide) hz ?_
      refine sr_icmp_geN (tgt := 79) hA si_214_26 (by decide) (by omega) (by omega) (fun c1 => absurd c1 (by omega)) (fun c1 => ?_)
      refine sr_iload hA si_214_29 rfl ?_
      refine sr_if_eqN (tgt := 70) hA si_214_31 (by decide) (by omega) (fun c2 => ?_) (fun c2 => absurd c2 (by omega))
      refine sr_iconst (v := nI 0) hA si_214_70 (by decide) ?_
      refine sr_istore (ls1 := [.ref 64, .int (nI r), .int (nI s), .int (nI j), .int (nI 0), .int (nI (2 * k))]) hA si_214_71 (by rw [sq_l_214]; decide) rfl ?_
      refine sr_iincN (x := (2 * k)) (y := 2) (ls1 := [.ref 64, .int (nI r), .int (nI s), .int (nI j), .int (nI 0), .int (nI (2 * k + 2))]) hA si_214_73 rfl rfl (by rw [sq_l_214]; decide) rfl ?_
      refine sr_goto (tgt := 18) hA si_214_76 (by decide) ?_
      rw [show 2 * k + 2 = 2 * (k + 1) by omega]
      exact ih (k + 1) 0 (by omega) (by rw [← sp_pj1 (f := (fun i => g.1 67 (40 * r + i))) ea (by omega) es]; simp [hpj, hsg])
    · have hc : c = 0 := by rw [h1_]; simp [hpj]
      refine sr_iload hA si_214_18 rfl ?_
      refine sr_aload_n hA si_214_20 rfl ?_
      refine sr_getR (r := 66) hA si_214_21 sf_214_17 (by decide) (by decide) rfl rfl rfl ?_
      refine sr_iload_n hA si_214_24 rfl ?_
      refine sr_ialdNv (v := nI z) (n := 6) hA si_214_25 (by decide) rfl rfl (by omega) (by decide) hz ?_
      refine sr_icmp_geN (tgt := 79) hA si_214_26 (by decide) (by omega) (by omega) (fun c1 => absurd c1 (by omega)) (fun c1 => ?_)
      refine sr_iload hA si_214_29 rfl ?_
      refine sr_if_eqN (tgt := 70) hA si_214_31 (by decide) (by omega) (fun c2 => ?_) (fun c2 => absurd c2 (by omega))
      refine sr_iconst (v := nI 0) hA si_214_70 (by decide) ?_
      refine sr_istore (ls1 := [.ref 64, .int (nI r), .int (nI s), .int (nI j), .int (nI 0), .int (nI (2 * k))]) hA si_214_71 (by rw [sq_l_214]; decide) rfl ?_
      refine sr_iincN (x := (2 * k)) (y := 2) (ls1 := [.ref 64, .int (nI r), .int (nI s), .int (nI j), .int (nI 0), .int (nI (2 * k + 2))]) hA si_214_73 rfl rfl (by rw [sq_l_214]; decide) rfl ?_
      refine sr_goto (tgt := 18) hA si_214_76 (by decide) ?_
      rw [show 2 * k + 2 = 2 * (k + 1) by omega]
      exact ih (k + 1) 0 (by omega) (by rw [← sp_pj1 (f := (fun i => g.1 67 (40 * r + i))) ea (by omega) es]; simp [hpj, hsg])
set_option maxRecDepth 20000 in
theorem ml_us {X : sp_X} {ac : sp_Ac} {g : sp_G} {r z n : Nat} (hr : r < 6) (hz : g.1 66 r = nI z) (hzb : z ≤ 40) (hn : g.1 64 11 = nI n) (hb : n ≤ 6) (hev : z % 2 = 0) (hg : ∀ i, i < z → sp_eg (fun i => g.1 67 (40 * r + i)) n i) (hA : sp_Act X 214 3 (sp_Fi (nI (sp_st (sp_pj (fun i => g.1 67 (40 * r + i)) (z / 2)) n)) g) ac) : ∀ (m : Nat) (j : Nat) (s : Nat), j + m = n → s = sp_st (sp_pj (fun i => g.1 67 (40 * r + i)) (z / 2)) j → sp_Ev X ac 214 4 [.ref 64, .int (nI r), .int (nI s), .int (nI j), .null, .null] [] g := by
  intro m
  induction m with
  | zero =>
    intro j s h0_ h1_
    refine sr_iload_n hA si_214_4 rfl ?_
    refine sr_aload_n hA si_214_5 rfl ?_
    refine sr_getIv (v := nI n) hA si_214_6 sf_214_142 (by decide) (by decide) rfl (by decide) hn ?_
    refine sr_icmp_geN (tgt := 100) hA si_214_9 (by decide) (by omega) (by omega) (fun c1 => ?_) (fun c1 => absurd c1 (by omega))
    refine sr_iload_n hA si_214_100 rfl ?_
    exact sr_iretF hA si_214_101 sq_r_214 (by rw [h1_, show j = n by omega]) rfl
  | succ m ih =>
    intro j s h0_ h1_
    by_cases hpj : (sp_pj (fun i => g.1 67 (40 * r + i)) (z / 2)) j = true
    · refine sr_iload_n hA si_214_4 rfl ?_
      refine sr_aload_n hA si_214_5 rfl ?_
      refine sr_getIv (v := nI n) hA si_214_6 sf_214_142 (by decide) (by decide) rfl (by decide) hn ?_
      refine sr_icmp_geN (tgt := 100) hA si_214_9 (by decide) (by omega) (by omega) (fun c1 => absurd c1 (by omega)) (fun c1 => ?_)
      refine sr_iconst (v := nI 1) hA si_214_12 (by decide) ?_
      refine sr_istore (ls1 := [.ref 64, .int (nI r), .int (nI s), .int (nI j), .int (nI 1), .null]) hA si_214_13 (by rw [sq_l_214]; decide) rfl ?_
      refine sr_iconst (v := nI 0) hA si_214_15 (by decide) ?_
      refine sr_istore (ls1 := [.ref 64, .int (nI r), .int (nI s), .int (nI j), .int (nI 1), .int (nI 0)]) hA si_214_16 (by rw [sq_l_214]; decide) rfl ?_
      refine ml_usI hr hz hzb hn hb hev hg (s := s) (j := j) (by omega) (by omega) ?_ hA (z / 2) 0 1 (by omega) rfl
      rw [if_pos hpj]
      refine sr_iload_n hA si_214_79 rfl ?_
      refine sr_iload hA si_214_80 rfl ?_
      refine sr_if_eqN (tgt := 91) hA si_214_82 (by decide) (by omega) (fun c2 => absurd c2 (by omega)) (fun c2 => ?_)
      refine sr_iconst (v := nI 1) hA si_214_85 (by decide) ?_
      refine sr_iload_n hA si_214_86 rfl ?_
      refine sr_ishl hA si_214_87 ?_
      refine sr_goto (tgt := 92) hA si_214_88 (by decide) ?_
      refine sr_ior hA si_214_92 ?_
      refine sr_istore_n (ls1 := [.ref 64, .int (nI r), .int ((nI s) ||| ((nI 1) <<< ((nI j) &&& 31))), .int (nI j), .int (nI 1), .null]) hA si_214_93 rfl (by rw [sq_l_214]; decide) rfl ?_
      refine sr_iincN (x := j) (y := 1) (ls1 := [.ref 64, .int (nI r), .int ((nI s) ||| ((nI 1) <<< ((nI j) &&& 31))), .int (nI (j + 1)), .int (nI 1), .null]) hA si_214_94 rfl rfl (by rw [sq_l_214]; decide) rfl ?_
      refine sr_goto (tgt := 4) hA si_214_97 (by decide) ?_
      refine sr_fg (ls1 := [.ref 64, .int (nI r), .int ((nI s) ||| ((nI 1) <<< ((nI j) &&& 31))), .int (nI (j + 1)), .null, .null]) ⟨Or.inr rfl, Or.inr rfl, Or.inr rfl, Or.inr rfl, Or.inl rfl, Or.inl rfl, trivial⟩ ?_
      subst h1_
      rw [sp_orb j (by omega) _ (sp_st_lt _ j)]
      exact ih (j + 1) _ (by omega) (by show _ = sp_st (sp_pj (fun i => g.1 67 (40 * r + i)) (z / 2)) j + (if (sp_pj (fun i => g.1 67 (40 * r + i)) (z / 2)) j = true then 2 ^ j else 0); rw [if_pos hpj])
    · refine sr_iload_n hA si_214_4 rfl ?_
      refine sr_aload_n hA si_214_5 rfl ?_
      refine sr_getIv (v := nI n) hA si_214_6 sf_214_142 (by decide) (by decide) rfl (by decide) hn ?_
      refine sr_icmp_geN (tgt := 100) hA si_214_9 (by decide) (by omega) (by omega) (fun c1 => absurd c1 (by omega)) (fun c1 => ?_)
      refine sr_iconst (v := nI 1) hA si_214_12 (by decide) ?_
      refine sr_istore (ls1 := [.ref 64, .int (nI r), .int (nI s), .int (nI j), .int (nI 1), .null]) hA si_214_13 (by rw [sq_l_214]; decide) rfl ?_
      refine sr_iconst (v := nI 0) hA si_214_15 (by decide) ?_
      refine sr_istore (ls1 := [.ref 64, .int (nI r), .int (nI s), .int (nI j), .int (nI 1), .int (nI 0)]) hA si_214_16 (by rw [sq_l_214]; decide) rfl ?_
      refine ml_usI hr hz hzb hn hb hev hg (s := s) (j := j) (by omega) (by omega) ?_ hA (z / 2) 0 1 (by omega) rfl
      rw [if_neg hpj]
      refine sr_iload_n hA si_214_79 rfl ?_
      refine sr_iload hA si_214_80 rfl ?_
      refine sr_if_eqN (tgt := 91) hA si_214_82 (by decide) (by omega) (fun c2 => ?_) (fun c2 => absurd c2 (by omega))
      refine sr_iconst (v := nI 0) hA si_214_91 (by decide) ?_
      refine sr_ior hA si_214_92 ?_
      refine sr_istore_n (ls1 := [.ref 64, .int (nI r), .int ((nI s) ||| (nI 0)), .int (nI j), .int (nI 0), .null]) hA si_214_93 rfl (by rw [sq_l_214]; decide) rfl ?_
      refine sr_iincN (x := j) (y := 1) (ls1 := [.ref 64, .int (nI r), .int ((nI s) ||| (nI 0)), .int (nI (j + 1)), .int (nI 0), .null]) hA si_214_94 rfl rfl (by rw [sq_l_214]; decide) rfl ?_
      refine sr_goto (tgt := 4) hA si_214_97 (by decide) ?_
      refine sr_fg (ls1 := [.ref 64, .int (nI r), .int ((nI s) ||| (nI 0)), .int (nI (j + 1)), .null, .null]) ⟨Or.inr rfl, Or.inr rfl, Or.inr rfl, Or.inr rfl, Or.inl rfl, Or.inl rfl, trivial⟩ ?_
      subst h1_
      rw [sp_or0 _ (sp_st_64 _ (by omega))]
      exact ih (j + 1) _ (by omega) (by show _ = sp_st (sp_pj (fun i => g.1 67 (40 * r + i)) (z / 2)) j + (if (sp_pj (fun i => g.1 67 (40 * r + i)) (z / 2)) j = true then 2 ^ j else 0); rw [if_neg hpj, Nat.add_zero])
set_option maxRecDepth 20000 in
theorem mc_us (X : sp_X) (g : sp_G) {r z n : Nat} (hr : r < 6) (hz : g.1 66 r = nI z) (hzb : z ≤ 40) (hn : g.1 64 11 = nI n) (hb : n ≤ 6) (hev : z % 2 = 0) (hg : ∀ i, i < z → sp_eg (fun i => g.1 67 (40 * r + i)) n i) : sp_Ct X 3 214 [.ref 64, .int (nI r)] g (sp_Fi (nI (sp_st (sp_pj (fun i => g.1 67 (40 * r + i)) (z / 2)) n)) g) := by
  refine sp_walkN (n := 6) sq_p_214 sq_l_214 (Nat.le_of_ble_eq_true rfl) (fun ac hA => ?_)
  show sp_Ev X ac 214 0 [.ref 64, .int (nI r), .null, .null, .null, .null] [] g
  refine sr_iconst (v := nI 0) hA si_214_0 (by decide) ?_
  refine sr_istore_n (ls1 := [.ref 64, .int (nI r), .int (nI 0), .null, .null, .null]) hA si_214_1 rfl (by rw [sq_l_214]; decide) rfl ?_
  refine sr_iconst (v := nI 0) hA si_214_2 (by decide) ?_
  refine sr_istore_n (ls1 := [.ref 64, .int (nI r), .int (nI 0), .int (nI 0), .null, .null]) hA si_214_3 rfl (by rw [sq_l_214]; decide) rfl ?_
  exact ml_us hr hz hzb hn hb hev hg hA n 0 0 (by omega) rfl
set_option maxRecDepth 20000 in
theorem xc_ring_a (X : sp_X) (g : sp_G) {r : Int32} (hr : r < 0) : sp_Ct X 9 105 [.ref 0, .int r] g (sp_Fi (-1) g) := by
  refine sp_walkN (n := 3) sq_p_105 sq_l_105 (Nat.le_of_ble_eq_true rfl) (fun a hA => ?_)
  show sp_Ev X a 105 0 [.ref 0, .int r, .null] [] g
  refine sr_aload_n hA si_105_0 rfl ?_
  refine sr_getR (r := 1) hA si_105_1 sf_105_14 (by decide) (by decide) rfl rfl rfl ?_
  refine sr_iload_n hA si_105_4 rfl ?_
  refine sr_VFi (c := 1) (ci := 5) (as := [.int r]) (st := []) hA si_105_5 sv_11 sk_105_72 (xc_numRM X g hr) (by omega) rfl (by decide) (by decide) rfl sq_c_11 rfl (Nat.le_of_ble_eq_true rfl) ?_
  refine sr_if_neN (tgt := 13) hA si_105_8 (by decide) (by omega) (fun c1 => absurd c1 (by omega)) (fun c1 => ?_)
  refine sr_iconst (v := (-1)) hA si_105_11 (by decide) ?_
  exact sr_iretF hA si_105_12 sq_r_105 rfl rfl
set_option maxRecDepth 20000 in
theorem xc_ring_b (X : sp_X) (g : sp_G) {r : Nat} (hr : 6 ≤ r) (hrb : r < 2 ^ 31) : sp_Ct X 9 105 [.ref 0, .int (nI r)] g (sp_Fi (-1) g) := by
  refine sp_walkN (n := 3) sq_p_105 sq_l_105 (Nat.le_of_ble_eq_true rfl) (fun a hA => ?_)
  show sp_Ev X a 105 0 [.ref 0, .int (nI r), .null] [] g
  refine sr_aload_n hA si_105_0 rfl ?_
  refine sr_getR (r := 1) hA si_105_1 sf_105_14 (by decide) (by decide) rfl rfl rfl ?_
  refine sr_iload_n hA si_105_4 rfl ?_
  refine sr_VFi (c := 1) (ci := 5) (as := [.int (nI r)]) (st := []) hA si_105_5 sv_11 sk_105_72 (xc_numRH X g (by omega) (by omega)) (by omega) rfl (by decide) (by decide) rfl sq_c_11 rfl (Nat.le_of_ble_eq_true rfl) ?_
  refine sr_if_neN (tgt := 13) hA si_105_8 (by decide) (by omega) (fun c1 => absurd c1 (by omega)) (fun c1 => ?_)
  refine sr_iconst (v := (-1)) hA si_105_11 (by decide) ?_
  exact sr_iretF hA si_105_12 sq_r_105 rfl rfl
set_option maxRecDepth 20000 in
theorem mc_ring_a (X : sp_X) (g : sp_G) {r : Int32} (hr : r < 0) : sp_Ct X 9 212 [.ref 64, .int r] g (sp_Fi (-1) g) := by
  refine sp_walkN (n := 3) sq_p_212 sq_l_212 (Nat.le_of_ble_eq_true rfl) (fun a hA => ?_)
  show sp_Ev X a 212 0 [.ref 64, .int r, .null] [] g
  refine sr_iload_n hA si_212_0 rfl ?_
  refine sr_SFi (as := [.int r]) (st := []) hA si_212_1 ss_140 sk_212_93 (mc_isRowM X g hr) (by omega) rfl rfl (Nat.le_of_ble_eq_true rfl) ?_
  refine sr_if_neN (tgt := 9) hA si_212_4 (by decide) (by omega) (fun c1 => absurd c1 (by omega)) (fun c1 => ?_)
  refine sr_iconst (v := (-1)) hA si_212_7 (by decide) ?_
  exact sr_iretF hA si_212_8 sq_r_212 rfl rfl
set_option maxRecDepth 20000 in
theorem mc_ring_b (X : sp_X) (g : sp_G) {r : Nat} (hr : 6 ≤ r) (hrb : r < 2 ^ 31) : sp_Ct X 9 212 [.ref 64, .int (nI r)] g (sp_Fi (-1) g) := by
  refine sp_walkN (n := 3) sq_p_212 sq_l_212 (Nat.le_of_ble_eq_true rfl) (fun a hA => ?_)
  show sp_Ev X a 212 0 [.ref 64, .int (nI r), .null] [] g
  refine sr_iload_n hA si_212_0 rfl ?_
  refine sr_SFi (as := [.int (nI r)]) (st := []) hA si_212_1 ss_140 sk_212_93 (mc_isRowH X g (by omega) (by omega)) (by omega) rfl rfl (Nat.le_of_ble_eq_true rfl) ?_
  refine sr_if_neN (tgt := 9) hA si_212_4 (by decide) (by omega) (fun c1 => absurd c1 (by omega)) (fun c1 => ?_)
  refine sr_iconst (v := (-1)) hA si_212_7 (by decide) ?_
  exact sr_iretF hA si_212_8 sq_r_212 rfl rfl
set_option maxRecDepth 20000 in
theorem xc_ring_r1 (X : sp_X) (g : sp_G) {r : Nat} (hr : r < 6) (hz : g.1 9 r = -1) : sp_Ct X 9 105 [.ref 0, .int (nI r)] g (sp_Fi (-3) (sp_rx g 1)) := by
  refine sp_walkN (n := 3) sq_p_105 sq_l_105 (Nat.le_of_ble_eq_true rfl) (fun a hA => ?_)
  show sp_Ev X a 105 0 [.ref 0, .int (nI r), .null] [] g
  refine sr_aload_n hA si_105_0 rfl ?_
  refine sr_getR (r := 1) hA si_105_1 sf_105_14 (by decide) (by decide) rfl rfl rfl ?_
  refine sr_iload_n hA si_105_4 rfl ?_
  refine sr_VFi (c := 1) (ci := 5) (as := [.int (nI r)]) (st := []) hA si_105_5 sv_11 sk_105_72 (xc_numR1 X g (by omega)) (by omega) rfl (by decide) (by decide) rfl sq_c_11 rfl (Nat.le_of_ble_eq_true rfl) ?_
  refine sr_if_neN (tgt := 13) hA si_105_8 (by decide) (by omega) (fun c1 => ?_) (fun c1 => absurd c1 (by omega))
  refine sr_aload_n hA si_105_13 rfl ?_
  refine sr_iload_n hA si_105_14 rfl ?_
  refine sr_VFi (c := 0) (ci := 7) (as := [.int (nI r)]) (st := []) hA si_105_15 sv_106 sk_105_265 (xc_sw1 X g hr hz) (by omega) rfl (by decide) (by decide) rfl sq_c_106 rfl (Nat.le_of_ble_eq_true rfl) ?_
  refine sr_istore_n (ls1 := [.ref 0, .int (nI r), .int (nI 1)]) hA si_105_18 rfl (by rw [sq_l_105]; decide) rfl ?_
  refine sr_iload_n hA si_105_19 rfl ?_
  refine sr_if_eqN (tgt := 29) hA si_105_20 (by decide) (by omega) (fun c2 => absurd c2 (by omega)) (fun c2 => ?_)
  refine sr_aload_n hA si_105_23 rfl ?_
  refine sr_iload_n hA si_105_24 rfl ?_
  refine sr_VFi (c := 0) (ci := 7) (as := [.int (nI 1)]) (st := []) hA si_105_25 sv_12 sk_105_76 (xc_refuse X g (by omega)) (by omega) rfl (by decide) (by decide) rfl sq_c_12 rfl (Nat.le_of_ble_eq_true rfl) ?_
  exact sr_iretF hA si_105_28 sq_r_105 rfl rfl
set_option maxRecDepth 20000 in
theorem mc_ring_r1 (X : sp_X) (g : sp_G) {r : Nat} (hr : r < 6) (hz : g.1 66 r = -1) : sp_Ct X 9 212 [.ref 64, .int (nI r)] g (sp_Fi (-3) (sp_rm6 g 1)) := by
  refine sp_walkN (n := 3) sq_p_212 sq_l_212 (Nat.le_of_ble_eq_true rfl) (fun a hA => ?_)
  show sp_Ev X a 212 0 [.ref 64, .int (nI r), .null] [] g
  refine sr_iload_n hA si_212_0 rfl ?_
  refine sr_SFi (as := [.int (nI r)]) (st := []) hA si_212_1 ss_140 sk_212_93 (mc_isRow1 X g (by omega)) (by omega) rfl rfl (Nat.le_of_ble_eq_true rfl) ?_
  refine sr_if_neN (tgt := 9) hA si_212_4 (by decide) (by omega) (fun c1 => ?_) (fun c1 => absurd c1 (by omega))
  refine sr_aload_n hA si_212_9 rfl ?_
  refine sr_iload_n hA si_212_10 rfl ?_
  refine sr_VFi (c := 64) (ci := 8) (as := [.int (nI r)]) (st := []) hA si_212_11 sv_213 sk_212_265 (mc_np2_1 X g hr hz) (by omega) rfl (by decide) (by decide) rfl sq_c_213 rfl (Nat.le_of_ble_eq_true rfl) ?_
  refine sr_istore_n (ls1 := [.ref 64, .int (nI r), .int (-3)]) hA si_212_14 rfl (by rw [sq_l_212]; decide) rfl ?_
  refine sr_iload_n hA si_212_15 rfl ?_
  refine sr_if_ge (tgt := 23) hA si_212_16 (by decide) (fun c2 => absurd c2 (sp_m4 (by decide))) (fun c2 => ?_)
  refine sr_iload_n hA si_212_19 rfl ?_
  refine sr_goto (tgt := 28) hA si_212_20 (by decide) ?_
  exact sr_iretF hA si_212_28 sq_r_212 rfl rfl
set_option maxRecDepth 20000 in
theorem xc_ring_r5 (X : sp_X) (g : sp_G) {r : Nat} (hr : r < 6) {z : Nat} (hz : g.1 9 r = nI z) (hzb : z ≤ 40) (hev : z % 2 = 1) : sp_Ct X 9 105 [.ref 0, .int (nI r)] g (sp_Fi (-3) (sp_rx g 5)) := by
  refine sp_walkN (n := 3) sq_p_105 sq_l_105 (Nat.le_of_ble_eq_true rfl) (fun a hA => ?_)
  show sp_Ev X a 105 0 [.ref 0, .int (nI r), .null] [] g
  refine sr_aload_n hA si_105_0 rfl ?_
  refine sr_getR (r := 1) hA si_105_1 sf_105_14 (by decide) (by decide) rfl rfl rfl ?_
  refine sr_iload_n hA si_105_4 rfl ?_
  refine sr_VFi (c := 1) (ci := 5) (as := [.int (nI r)]) (st := []) hA si_105_5 sv_11 sk_105_72 (xc_numR1 X g (by omega)) (by omega) rfl (by decide) (by decide) rfl sq_c_11 rfl (Nat.le_of_ble_eq_true rfl) ?_
  refine sr_if_neN (tgt := 13) hA si_105_8 (by decide) (by omega) (fun c1 => ?_) (fun c1 => absurd c1 (by omega))
  refine sr_aload_n hA si_105_13 rfl ?_
  refine sr_iload_n hA si_105_14 rfl ?_
  refine sr_VFi (c := 0) (ci := 7) (as := [.int (nI r)]) (st := []) hA si_105_15 sv_106 sk_105_265 (xc_sw5 X g hr hz hzb hev) (by omega) rfl (by decide) (by decide) rfl sq_c_106 rfl (Nat.le_of_ble_eq_true rfl) ?_
  refine sr_istore_n (ls1 := [.ref 0, .int (nI r), .int (nI 5)]) hA si_105_18 rfl (by rw [sq_l_105]; decide) rfl ?_
  refine sr_iload_n hA si_105_19 rfl ?_
  refine sr_if_eqN (tgt := 29) hA si_105_20 (by decide) (by omega) (fun c2 => absurd c2 (by omega)) (fun c2 => ?_)
  refine sr_aload_n hA si_105_23 rfl ?_
  refine sr_iload_n hA si_105_24 rfl ?_
  refine sr_VFi (c := 0) (ci := 7) (as := [.int (nI 5)]) (st := []) hA si_105_25 sv_12 sk_105_76 (xc_refuse X g (by omega)) (by omega) rfl (by decide) (by decide) rfl sq_c_12 rfl (Nat.le_of_ble_eq_true rfl) ?_
  exact sr_iretF hA si_105_28 sq_r_105 rfl rfl
set_option maxRecDepth 20000 in
theorem mc_ring_r5 (X : sp_X) (g : sp_G) {r : Nat} (hr : r < 6) {z : Nat} (hz : g.1 66 r = nI z) (hzb : z ≤ 40) (hev : z % 2 = 1) : sp_Ct X 9 212 [.ref 64, .int (nI r)] g (sp_Fi (-3) (sp_rm6 g 5)) := by
  refine sp_walkN (n := 3) sq_p_212 sq_l_212 (Nat.le_of_ble_eq_true rfl) (fun a hA => ?_)
  show sp_Ev X a 212 0 [.ref 64, .int (nI r), .null] [] g
  refine sr_iload_n hA si_212_0 rfl ?_
  refine sr_SFi (as := [.int (nI r)]) (st := []) hA si_212_1 ss_140 sk_212_93 (mc_isRow1 X g (by omega)) (by omega) rfl rfl (Nat.le_of_ble_eq_true rfl) ?_
  refine sr_if_neN (tgt := 9) hA si_212_4 (by decide) (by omega) (fun c1 => ?_) (fun c1 => absurd c1 (by omega))
  refine sr_aload_n hA si_212_9 rfl ?_
  refine sr_iload_n hA si_212_10 rfl ?_
  refine sr_VFi (c := 64) (ci := 8) (as := [.int (nI r)]) (st := []) hA si_212_11 sv_213 sk_212_265 (mc_np2_5 X g hr hz hzb hev) (by omega) rfl (by decide) (by decide) rfl sq_c_213 rfl (Nat.le_of_ble_eq_true rfl) ?_
  refine sr_istore_n (ls1 := [.ref 64, .int (nI r), .int (-3)]) hA si_212_14 rfl (by rw [sq_l_212]; decide) rfl ?_
  refine sr_iload_n hA si_212_15 rfl ?_
  refine sr_if_ge (tgt := 23) hA si_212_16 (by decide) (fun c2 => absurd c2 (sp_m4 (by decide))) (fun c2 => ?_)
  refine sr_iload_n hA si_212_19 rfl ?_
  refine sr_goto (tgt := 28) hA si_212_20 (by decide) ?_
  exact sr_iretF hA si_212_28 sq_r_212 rfl rfl
set_option maxRecDepth 20000 in
theorem xc_ring_r3 (X : sp_X) (g : sp_G) {r : Nat} (hr : r < 6) {z n p : Nat} (hz : g.1 9 r = nI z) (hzb : z ≤ 40) (hn : g.1 18 3 = nI n) (hb : n ≤ 6) (hev : z % 2 = 0) (hp : p < z) (hg : ∀ i, i < p → sp_eg (fun i => g.1 (3 + r) i) n i) (hbad : (p % 2 = 0 ∧ sp_bk ((fun i => g.1 (3 + r) i) p) n) ∨ (p % 2 = 1 ∧ sp_bk ((fun i => g.1 (3 + r) i) p) 2)) : sp_Ct X 9 105 [.ref 0, .int (nI r)] g (sp_Fi (-3) (sp_rx g 3)) := by
  refine sp_walkN (n := 3) sq_p_105 sq_l_105 (Nat.le_of_ble_eq_true rfl) (fun a hA => ?_)
  show sp_Ev X a 105 0 [.ref 0, .int (nI r), .null] [] g
  refine sr_aload_n hA si_105_0 rfl ?_
  refine sr_getR (r := 1) hA si_105_1 sf_105_14 (by decide) (by decide) rfl rfl rfl ?_
  refine sr_iload_n hA si_105_4 rfl ?_
  refine sr_VFi (c := 1) (ci := 5) (as := [.int (nI r)]) (st := []) hA si_105_5 sv_11 sk_105_72 (xc_numR1 X g (by omega)) (by omega) rfl (by decide) (by decide) rfl sq_c_11 rfl (Nat.le_of_ble_eq_true rfl) ?_
  refine sr_if_neN (tgt := 13) hA si_105_8 (by decide) (by omega) (fun c1 => ?_) (fun c1 => absurd c1 (by omega))
  refine sr_aload_n hA si_105_13 rfl ?_
  refine sr_iload_n hA si_105_14 rfl ?_
  refine sr_VFi (c := 0) (ci := 7) (as := [.int (nI r)]) (st := []) hA si_105_15 sv_106 sk_105_265 (xc_sw3 X g hr hz hzb hn hb hev hp hg hbad) (by omega) rfl (by decide) (by decide) rfl sq_c_106 rfl (Nat.le_of_ble_eq_true rfl) ?_
  refine sr_istore_n (ls1 := [.ref 0, .int (nI r), .int (nI 3)]) hA si_105_18 rfl (by rw [sq_l_105]; decide) rfl ?_
  refine sr_iload_n hA si_105_19 rfl ?_
  refine sr_if_eqN (tgt := 29) hA si_105_20 (by decide) (by omega) (fun c2 => absurd c2 (by omega)) (fun c2 => ?_)
  refine sr_aload_n hA si_105_23 rfl ?_
  refine sr_iload_n hA si_105_24 rfl ?_
  refine sr_VFi (c := 0) (ci := 7) (as := [.int (nI 3)]) (st := []) hA si_105_25 sv_12 sk_105_76 (xc_refuse X g (by omega)) (by omega) rfl (by decide) (by decide) rfl sq_c_12 rfl (Nat.le_of_ble_eq_true rfl) ?_
  exact sr_iretF hA si_105_28 sq_r_105 rfl rfl
set_option maxRecDepth 20000 in
theorem mc_ring_r3 (X : sp_X) (g : sp_G) {r : Nat} (hr : r < 6) {z n p : Nat} (hz : g.1 66 r = nI z) (hzb : z ≤ 40) (hn : g.1 64 11 = nI n) (hb : n ≤ 6) (hev : z % 2 = 0) (hp : p < z) (hg : ∀ i, i < p → sp_eg (fun i => g.1 67 (40 * r + i)) n i) (hbad : (p % 2 = 0 ∧ sp_bk ((fun i => g.1 67 (40 * r + i)) p) n) ∨ (p % 2 = 1 ∧ sp_bk ((fun i => g.1 67 (40 * r + i)) p) 2)) : sp_Ct X 9 212 [.ref 64, .int (nI r)] g (sp_Fi (-3) (sp_rm6 g 3)) := by
  refine sp_walkN (n := 3) sq_p_212 sq_l_212 (Nat.le_of_ble_eq_true rfl) (fun a hA => ?_)
  show sp_Ev X a 212 0 [.ref 64, .int (nI r), .null] [] g
  refine sr_iload_n hA si_212_0 rfl ?_
  refine sr_SFi (as := [.int (nI r)]) (st := []) hA si_212_1 ss_140 sk_212_93 (mc_isRow1 X g (by omega)) (by omega) rfl rfl (Nat.le_of_ble_eq_true rfl) ?_
  refine sr_if_neN (tgt := 9) hA si_212_4 (by decide) (by omega) (fun c1 => ?_) (fun c1 => absurd c1 (by omega))
  refine sr_aload_n hA si_212_9 rfl ?_
  refine sr_iload_n hA si_212_10 rfl ?_
  refine sr_VFi (c := 64) (ci := 8) (as := [.int (nI r)]) (st := []) hA si_212_11 sv_213 sk_212_265 (mc_np2_3 X g hr hz hzb hn hb hev hp hg hbad) (by omega) rfl (by decide) (by decide) rfl sq_c_213 rfl (Nat.le_of_ble_eq_true rfl) ?_
  refine sr_istore_n (ls1 := [.ref 64, .int (nI r), .int (-3)]) hA si_212_14 rfl (by rw [sq_l_212]; decide) rfl ?_
  refine sr_iload_n hA si_212_15 rfl ?_
  refine sr_if_ge (tgt := 23) hA si_212_16 (by decide) (fun c2 => absurd c2 (sp_m4 (by decide))) (fun c2 => ?_)
  refine sr_iload_n hA si_212_19 rfl ?_
  refine sr_goto (tgt := 28) hA si_212_20 (by decide) ?_
  exact sr_iretF hA si_212_28 sq_r_212 rfl rfl
set_option maxRecDepth 20000 in
theorem xc_strike_a (X : sp_X) (g : sp_G) {r : Int32} (hr : r < 0) : sp_Ct X 9 110 [.ref 0, .int r] g (sp_Fi (-1) g) := by
  refine sp_walkN (n := 9) sq_p_110 sq_l_110 (Nat.le_of_ble_eq_true rfl) (fun a hA => ?_)
  show sp_Ev X a 110 0 [.ref 0, .int r, .null, .null, .null, .null, .null, .null, .null] [] g
  refine sr_aload_n hA si_110_0 rfl ?_
  refine sr_getR (r := 1) hA si_110_1 sf_110_14 (by decide) (by decide) rfl rfl rfl ?_
  refine sr_iload_n hA si_110_4 rfl ?_
  refine sr_VFi (c := 1) (ci := 5) (as := [.int r]) (st := []) hA si_110_5 sv_11 sk_110_72 (xc_numRM X g hr) (by omega) rfl (by decide) (by decide) rfl sq_c_11 rfl (Nat.le_of_ble_eq_true rfl) ?_
  refine sr_if_neN (tgt := 13) hA si_110_8 (by decide) (by omega) (fun c1 => absurd c1 (by omega)) (fun c1 => ?_)
  refine sr_iconst (v := (-1)) hA si_110_11 (by decide) ?_
  exact sr_iretF hA si_110_12 sq_r_110 rfl rfl
set_option maxRecDepth 20000 in
theorem xc_strike_b (X : sp_X) (g : sp_G) {r : Nat} (hr : 6 ≤ r) (hrb : r < 2 ^ 31) : sp_Ct X 9 110 [.ref 0, .int (nI r)] g (sp_Fi (-1) g) := by
  refine sp_walkN (n := 9) sq_p_110 sq_l_110 (Nat.le_of_ble_eq_true rfl) (fun a hA => ?_)
  show sp_Ev X a 110 0 [.ref 0, .int (nI r), .null, .null, .null, .null, .null, .null, .null] [] g
  refine sr_aload_n hA si_110_0 rfl ?_
  refine sr_getR (r := 1) hA si_110_1 sf_110_14 (by decide) (by decide) rfl rfl rfl ?_
  refine sr_iload_n hA si_110_4 rfl ?_
  refine sr_VFi (c := 1) (ci := 5) (as := [.int (nI r)]) (st := []) hA si_110_5 sv_11 sk_110_72 (xc_numRH X g (by omega) (by omega)) (by omega) rfl (by decide) (by decide) rfl sq_c_11 rfl (Nat.le_of_ble_eq_true rfl) ?_
  refine sr_if_neN (tgt := 13) hA si_110_8 (by decide) (by omega) (fun c1 => absurd c1 (by omega)) (fun c1 => ?_)
  refine sr_iconst (v := (-1)) hA si_110_11 (by decide) ?_
  exact sr_iretF hA si_110_12 sq_r_110 rfl rfl
set_option maxRecDepth 20000 in
theorem mc_strike_a (X : sp_X) (g : sp_G) {r : Int32} (hr : r < 0) : sp_Ct X 9 216 [.ref 64, .int r] g (sp_Fi (-1) g) := by
  refine sp_walkN (n := 9) sq_p_216 sq_l_216 (Nat.le_of_ble_eq_true rfl) (fun a hA => ?_)
  show sp_Ev X a 216 0 [.ref 64, .int r, .null, .null, .null, .null, .null, .null, .null] [] g
  refine sr_iload_n hA si_216_0 rfl ?_
  refine sr_SFi (as := [.int r]) (st := []) hA si_216_1 ss_140 sk_216_93 (mc_isRowM X g hr) (by omega) rfl rfl (Nat.le_of_ble_eq_true rfl) ?_
  refine sr_if_neN (tgt := 9) hA si_216_4 (by decide) (by omega) (fun c1 => absurd c1 (by omega)) (fun c1 => ?_)
  refine sr_iconst (v := (-1)) hA si_216_7 (by decide) ?_
  exact sr_iretF hA si_216_8 sq_r_216 rfl rfl
set_option maxRecDepth 20000 in
theorem mc_strike_b (X : sp_X) (g : sp_G) {r : Nat} (hr : 6 ≤ r) (hrb : r < 2 ^ 31) : sp_Ct X 9 216 [.ref 64, .int (nI r)] g (sp_Fi (-1) g) := by
  refine sp_walkN (n := 9) sq_p_216 sq_l_216 (Nat.le_of_ble_eq_true rfl) (fun a hA => ?_)
  show sp_Ev X a 216 0 [.ref 64, .int (nI r), .null, .null, .null, .null, .null, .null, .null] [] g
  refine sr_iload_n hA si_216_0 rfl ?_
  refine sr_SFi (as := [.int (nI r)]) (st := []) hA si_216_1 ss_140 sk_216_93 (mc_isRowH X g (by omega) (by omega)) (by omega) rfl rfl (Nat.le_of_ble_eq_true rfl) ?_
  refine sr_if_neN (tgt := 9) hA si_216_4 (by decide) (by omega) (fun c1 => absurd c1 (by omega)) (fun c1 => ?_)
  refine sr_iconst (v := (-1)) hA si_216_7 (by decide) ?_
  exact sr_iretF hA si_216_8 sq_r_216 rfl rfl
set_option maxRecDepth 20000 in
theorem xc_strike_r1 (X : sp_X) (g : sp_G) {r : Nat} (hr : r < 6) (hz : g.1 9 r = -1) : sp_Ct X 9 110 [.ref 0, .int (nI r)] g (sp_Fi (-3) (sp_rx g 1)) := by
  refine sp_walkN (n := 9) sq_p_110 sq_l_110 (Nat.le_of_ble_eq_true rfl) (fun a hA => ?_)
  show sp_Ev X a 110 0 [.ref 0, .int (nI r), .null, .null, .null, .null, .null, .null, .null] [] g
  refine sr_aload_n hA si_110_0 rfl ?_
  refine sr_getR (r := 1) hA si_110_1 sf_110_14 (by decide) (by decide) rfl rfl rfl ?_
  refine sr_iload_n hA si_110_4 rfl ?_
  refine sr_VFi (c := 1) (ci := 5) (as := [.int (nI r)]) (st := []) hA si_110_5 sv_11 sk_110_72 (xc_numR1 X g (by omega)) (by omega) rfl (by decide) (by decide) rfl sq_c_11 rfl (Nat.le_of_ble_eq_true rfl) ?_
  refine sr_if_neN (tgt := 13) hA si_110_8 (by decide) (by omega) (fun c1 => ?_) (fun c1 => absurd c1 (by omega))
  refine sr_aload_n hA si_110_13 rfl ?_
  refine sr_iload_n hA si_110_14 rfl ?_
  refine sr_VFi (c := 0) (ci := 7) (as := [.int (nI r)]) (st := []) hA si_110_15 sv_106 sk_110_265 (xc_sw1 X g hr hz) (by omega) rfl (by decide) (by decide) rfl sq_c_106 rfl (Nat.le_of_ble_eq_true rfl) ?_
  refine sr_istore_n (ls1 := [.ref 0, .int (nI r), .int (nI 1), .null, .null, .null, .null, .null, .null]) hA si_110_18 rfl (by rw [sq_l_110]; decide) rfl ?_
  refine sr_iload_n hA si_110_19 rfl ?_
  refine sr_if_eqN (tgt := 29) hA si_110_20 (by decide) (by omega) (fun c2 => absurd c2 (by omega)) (fun c2 => ?_)
  refine sr_aload_n hA si_110_23 rfl ?_
  refine sr_iload_n hA si_110_24 rfl ?_
  refine sr_VFi (c := 0) (ci := 7) (as := [.int (nI 1)]) (st := []) hA si_110_25 sv_12 sk_110_76 (xc_refuse X g (by omega)) (by omega) rfl (by decide) (by decide) rfl sq_c_12 rfl (Nat.le_of_ble_eq_true rfl) ?_
  exact sr_iretF hA si_110_28 sq_r_110 rfl rfl
set_option maxRecDepth 20000 in
theorem mc_strike_r1 (X : sp_X) (g : sp_G) {r : Nat} (hr : r < 6) (hz : g.1 66 r = -1) : sp_Ct X 9 216 [.ref 64, .int (nI r)] g (sp_Fi (-3) (sp_rm6 g 1)) := by
  refine sp_walkN (n := 9) sq_p_216 sq_l_216 (Nat.le_of_ble_eq_true rfl) (fun a hA => ?_)
  show sp_Ev X a 216 0 [.ref 64, .int (nI r), .null, .null, .null, .null, .null, .null, .null] [] g
  refine sr_iload_n hA si_216_0 rfl ?_
  refine sr_SFi (as := [.int (nI r)]) (st := []) hA si_216_1 ss_140 sk_216_93 (mc_isRow1 X g (by omega)) (by omega) rfl rfl (Nat.le_of_ble_eq_true rfl) ?_
  refine sr_if_neN (tgt := 9) hA si_216_4 (by decide) (by omega) (fun c1 => ?_) (fun c1 => absurd c1 (by omega))
  refine sr_aload_n hA si_216_9 rfl ?_
  refine sr_iload_n hA si_216_10 rfl ?_
  refine sr_VFi (c := 64) (ci := 8) (as := [.int (nI r)]) (st := []) hA si_216_11 sv_213 sk_216_265 (mc_np2_1 X g hr hz) (by omega) rfl (by decide) (by decide) rfl sq_c_213 rfl (Nat.le_of_ble_eq_true rfl) ?_
  refine sr_istore_n (ls1 := [.ref 64, .int (nI r), .int (-3), .null, .null, .null, .null, .null, .null]) hA si_216_14 rfl (by rw [sq_l_216]; decide) rfl ?_
  refine sr_iload_n hA si_216_15 rfl ?_
  refine sr_if_ge (tgt := 21) hA si_216_16 (by decide) (fun c2 => absurd c2 (sp_m4 (by decide))) (fun c2 => ?_)
  refine sr_iload_n hA si_216_19 rfl ?_
  exact sr_iretF hA si_216_20 sq_r_216 rfl rfl
set_option maxRecDepth 20000 in
theorem xc_strike_r5 (X : sp_X) (g : sp_G) {r : Nat} (hr : r < 6) {z : Nat} (hz : g.1 9 r = nI z) (hzb : z ≤ 40) (hev : z % 2 = 1) : sp_Ct X 9 110 [.ref 0, .int (nI r)] g (sp_Fi (-3) (sp_rx g 5)) := by
  refine sp_walkN (n := 9) sq_p_110 sq_l_110 (Nat.le_of_ble_eq_true rfl) (fun a hA => ?_)
  show sp_Ev X a 110 0 [.ref 0, .int (nI r), .null, .null, .null, .null, .null, .null, .null] [] g
  refine sr_aload_n hA si_110_0 rfl ?_
  refine sr_getR (r := 1) hA si_110_1 sf_110_14 (by decide) (by decide) rfl rfl rfl ?_
  refine sr_iload_n hA si_110_4 rfl ?_
  refine sr_VFi (c := 1) (ci := 5) (as := [.int (nI r)]) (st := []) hA si_110_5 sv_11 sk_110_72 (xc_numR1 X g (by omega)) (by omega) rfl (by decide) (by decide) rfl sq_c_11 rfl (Nat.le_of_ble_eq_true rfl) ?_
  refine sr_if_neN (tgt := 13) hA si_110_8 (by decide) (by omega) (fun c1 => ?_) (fun c1 => absurd c1 (by omega))
  refine sr_aload_n hA si_110_13 rfl ?_
  refine sr_iload_n hA si_110_14 rfl ?_
  refine sr_VFi (c := 0) (ci := 7) (as := [.int (nI r)]) (st := []) hA si_110_15 sv_106 sk_110_265 (xc_sw5 X g hr hz hzb hev) (by omega) rfl (by decide) (by decide) rfl sq_c_106 rfl (Nat.le_of_ble_eq_true rfl) ?_
  refine sr_istore_n (ls1 := [.ref 0, .int (nI r), .int (nI 5), .null, .null, .null, .null, .null, .null]) hA si_110_18 rfl (by rw [sq_l_110]; decide) rfl ?_
  refine sr_iload_n hA si_110_19 rfl ?_
  refine sr_if_eqN (tgt := 29) hA si_110_20 (by decide) (by omega) (fun c2 => absurd c2 (by omega)) (fun c2 => ?_)
  refine sr_aload_n hA si_110_23 rfl ?_
  refine sr_iload_n hA si_110_24 rfl ?_
  refine sr_VFi (c := 0) (ci := 7) (as := [.int (nI 5)]) (st := []) hA si_110_25 sv_12 sk_110_76 (xc_refuse X g (by omega)) (by omega) rfl (by decide) (by decide) rfl sq_c_12 rfl (Nat.le_of_ble_eq_true rfl) ?_
  exact sr_iretF hA si_110_28 sq_r_110 rfl rfl
set_option maxRecDepth 20000 in
theorem mc_strike_r5 (X : sp_X) (g : sp_G) {r : Nat} (hr : r < 6) {z : Nat} (hz : g.1 66 r = nI z) (hzb : z ≤ 40) (hev : z % 2 = 1) : sp_Ct X 9 216 [.ref 64, .int (nI r)] g (sp_Fi (-3) (sp_rm6 g 5)) := by
  refine sp_walkN (n := 9) sq_p_216 sq_l_216 (Nat.le_of_ble_eq_true rfl) (fun a hA => ?_)
  show sp_Ev X a 216 0 [.ref 64, .int (nI r), .null, .null, .null, .null, .null, .null, .null] [] g
  refine sr_iload_n hA si_216_0 rfl ?_
  refine sr_SFi (as := [.int (nI r)]) (st := []) hA si_216_1 ss_140 sk_216_93 (mc_isRow1 X g (by omega)) (by omega) rfl rfl (Nat.le_of_ble_eq_true rfl) ?_
  refine sr_if_neN (tgt := 9) hA si_216_4 (by decide) (by omega) (fun c1 => ?_) (fun c1 => absurd c1 (by omega))
  refine sr_aload_n hA si_216_9 rfl ?_
  refine sr_iload_n hA si_216_10 rfl ?_
  refine sr_VFi (c := 64) (ci := 8) (as := [.int (nI r)]) (st := []) hA si_216_11 sv_213 sk_216_265 (mc_np2_5 X g hr hz hzb hev) (by omega) rfl (by decide) (by decide) rfl sq_c_213 rfl (Nat.le_of_ble_eq_true rfl) ?_
  refine sr_istore_n (ls1 := [.ref 64, .int (nI r), .int (-3), .null, .null, .null, .null, .null, .null]) hA si_216_14 rfl (by rw [sq_l_216]; decide) rfl ?_
  refine sr_iload_n hA si_216_15 rfl ?_
  refine sr_if_ge (tgt := 21) hA si_216_16 (by decide) (fun c2 => absurd c2 (sp_m4 (by decide))) (fun c2 => ?_)
  refine sr_iload_n hA si_216_19 rfl ?_
  exact sr_iretF hA si_216_20 sq_r_216 rfl rfl
set_option maxRecDepth 20000 in
theorem xc_strike_r3 (X : sp_X) (g : sp_G) {r : Nat} (hr : r < 6) {z n p : Nat} (hz : g.1 9 r = nI z) (hzb : z ≤ 40) (hn : g.1 18 3 = nI n) (hb : n ≤ 6) (hev : z % 2 = 0) (hp : p < z) (hg : ∀ i, i < p → sp_eg (fun i => g.1 (3 + r) i) n i) (hbad : (p % 2 = 0 ∧ sp_bk ((fun i => g.1 (3 + r) i) p) n) ∨ (p % 2 = 1 ∧ sp_bk ((fun i => g.1 (3 + r) i) p) 2)) : sp_Ct X 9 110 [.ref 0, .int (nI r)] g (sp_Fi (-3) (sp_rx g 3)) := by
  refine sp_walkN (n := 9) sq_p_110 sq_l_110 (Nat.le_of_ble_eq_true rfl) (fun a hA => ?_)
  show sp_Ev X a 110 0 [.ref 0, .int (nI r), .null, .null, .null, .null, .null, .null, .null] [] g
  refine sr_aload_n hA si_110_0 rfl ?_
  refine sr_getR (r := 1) hA si_110_1 sf_110_14 (by decide) (by decide) rfl rfl rfl ?_
  refine sr_iload_n hA si_110_4 rfl ?_
  refine sr_VFi (c := 1) (ci := 5) (as := [.int (nI r)]) (st := []) hA si_110_5 sv_11 sk_110_72 (xc_numR1 X g (by omega)) (by omega) rfl (by decide) (by decide) rfl sq_c_11 rfl (Nat.le_of_ble_eq_true rfl) ?_
  refine sr_if_neN (tgt := 13) hA si_110_8 (by decide) (by omega) (fun c1 => ?_) (fun c1 => absurd c1 (by omega))
  refine sr_aload_n hA si_110_13 rfl ?_
  refine sr_iload_n hA si_110_14 rfl ?_
  refine sr_VFi (c := 0) (ci := 7) (as := [.int (nI r)]) (st := []) hA si_110_15 sv_106 sk_110_265 (xc_sw3 X g hr hz hzb hn hb hev hp hg hbad) (by omega) rfl (by decide) (by decide) rfl sq_c_106 rfl (Nat.le_of_ble_eq_true rfl) ?_
  refine sr_istore_n (ls1 := [.ref 0, .int (nI r), .int (nI 3), .null, .null, .null, .null, .null, .null]) hA si_110_18 rfl (by rw [sq_l_110]; decide) rfl ?_
  refine sr_iload_n hA si_110_19 rfl ?_
  refine sr_if_eqN (tgt := 29) hA si_110_20 (by decide) (by omega) (fun c2 => absurd c2 (by omega)) (fun c2 => ?_)
  refine sr_aload_n hA si_110_23 rfl ?_
  refine sr_iload_n hA si_110_24 rfl ?_
  refine sr_VFi (c := 0) (ci := 7) (as := [.int (nI 3)]) (st := []) hA si_110_25 sv_12 sk_110_76 (xc_refuse X g (by omega)) (by omega) rfl (by decide) (by decide) rfl sq_c_12 rfl (Nat.le_of_ble_eq_true rfl) ?_
  exact sr_iretF hA si_110_28 sq_r_110 rfl rfl
set_option maxRecDepth 20000 in
theorem mc_strike_r3 (X : sp_X) (g : sp_G) {r : Nat} (hr : r < 6) {z n p : Nat} (hz : g.1 66 r = nI z) (hzb : z ≤ 40) (hn : g.1 64 11 = nI n) (hb : n ≤ 6) (hev : z % 2 = 0) (hp : p < z) (hg : ∀ i, i < p → sp_eg (fun i => g.1 67 (40 * r + i)) n i) (hbad : (p % 2 = 0 ∧ sp_bk ((fun i => g.1 67 (40 * r + i)) p) n) ∨ (p % 2 = 1 ∧ sp_bk ((fun i => g.1 67 (40 * r + i)) p) 2)) : sp_Ct X 9 216 [.ref 64, .int (nI r)] g (sp_Fi (-3) (sp_rm6 g 3)) := by
  refine sp_walkN (n := 9) sq_p_216 sq_l_216 (Nat.le_of_ble_eq_true rfl) (fun a hA => ?_)
  show sp_Ev X a 216 0 [.ref 64, .int (nI r), .null, .null, .null, .null, .null, .null, .null] [] g
  refine sr_iload_n hA si_216_0 rfl ?_
  refine sr_SFi (as := [.int (nI r)]) (st := []) hA si_216_1 ss_140 sk_216_93 (mc_isRow1 X g (by omega)) (by omega) rfl rfl (Nat.le_of_ble_eq_true rfl) ?_
  refine sr_if_neN (tgt := 9) hA si_216_4 (by decide) (by omega) (fun c1 => ?_) (fun c1 => absurd c1 (by omega))
  refine sr_aload_n hA si_216_9 rfl ?_
  refine sr_iload_n hA si_216_10 rfl ?_
  refine sr_VFi (c := 64) (ci := 8) (as := [.int (nI r)]) (st := []) hA si_216_11 sv_213 sk_216_265 (mc_np2_3 X g hr hz hzb hn hb hev hp hg hbad) (by omega) rfl (by decide) (by decide) rfl sq_c_213 rfl (Nat.le_of_ble_eq_true rfl) ?_
  refine sr_istore_n (ls1 := [.ref 64, .int (nI r), .int (-3), .null, .null, .null, .null, .null, .null]) hA si_216_14 rfl (by rw [sq_l_216]; decide) rfl ?_
  refine sr_iload_n hA si_216_15 rfl ?_
  refine sr_if_ge (tgt := 21) hA si_216_16 (by decide) (fun c2 => absurd c2 (sp_m4 (by decide))) (fun c2 => ?_)
  refine sr_iload_n hA si_216_19 rfl ?_
  exact sr_iretF hA si_216_20 sq_r_216 rfl rfl
set_option maxRecDepth 20000 in
theorem xc_ring_e (X : sp_X) (g : sp_G) {r : Nat} (hr : r < 6) {z n : Nat} (hz : g.1 9 r = nI z) (hzb : z ≤ 40) (hn : g.1 18 3 = nI n) (hb : n ≤ 6) (hev : z % 2 = 0) (hg : ∀ i, i < z → sp_eg (fun i => g.1 (3 + r) i) n i) : sp_Ct X 9 105 [.ref 0, .int (nI r)] g (sp_Fi (nI (sp_st (sp_pj (fun i => g.1 (3 + r) i) (z / 2)) n)) g) := by
  refine sp_walkN (n := 3) sq_p_105 sq_l_105 (Nat.le_of_ble_eq_true rfl) (fun a hA => ?_)
  show sp_Ev X a 105 0 [.ref 0, .int (nI r), .null] [] g
  refine sr_aload_n hA si_105_0 rfl ?_
  refine sr_getR (r := 1) hA si_105_1 sf_105_14 (by decide) (by decide) rfl rfl rfl ?_
  refine sr_iload_n hA si_105_4 rfl ?_
  refine sr_VFi (c := 1) (ci := 5) (as := [.int (nI r)]) (st := []) hA si_105_5 sv_11 sk_105_72 (xc_numR1 X g (by omega)) (by omega) rfl (by decide) (by decide) rfl sq_c_11 rfl (Nat.le_of_ble_eq_true rfl) ?_
  refine sr_if_neN (tgt := 13) hA si_105_8 (by decide) (by omega) (fun c1 => ?_) (fun c1 => absurd c1 (by omega))
  refine sr_aload_n hA si_105_13 rfl ?_
  refine sr_iload_n hA si_105_14 rfl ?_
  refine sr_VFi (c := 0) (ci := 7) (as := [.int (nI r)]) (st := []) hA si_105_15 sv_106 sk_105_265 (xc_sw0 X g hr hz hzb hn hb hev hg) (by omega) rfl (by decide) (by decide) rfl sq_c_106 rfl (Nat.le_of_ble_eq_true rfl) ?_
  refine sr_istore_n (ls1 := [.ref 0, .int (nI r), .int (nI 0)]) hA si_105_18 rfl (by rw [sq_l_105]; decide) rfl ?_
  refine sr_iload_n hA si_105_19 rfl ?_
  refine sr_if_eqN (tgt := 29) hA si_105_20 (by decide) (by omega) (fun c2 => ?_) (fun c2 => absurd c2 (by omega))
  refine sr_aload_n hA si_105_29 rfl ?_
  refine sr_iload_n hA si_105_30 rfl ?_
  refine sr_VFi (c := 0) (ci := 7) (as := [.int (nI r)]) (st := []) hA si_105_31 sv_107 sk_105_268 (xc_rp X g hr hz hzb hn hb hev hg) (by omega) rfl (by decide) (by decide) rfl sq_c_107 rfl (Nat.le_of_ble_eq_true rfl) ?_
  exact sr_iretF hA si_105_34 sq_r_105 rfl rfl
set_option maxRecDepth 20000 in
theorem mc_ring_e (X : sp_X) (g : sp_G) {r : Nat} (hr : r < 6) {z n : Nat} (hz : g.1 66 r = nI z) (hzb : z ≤ 40) (hn : g.1 64 11 = nI n) (hb : n ≤ 6) (hev : z % 2 = 0) (hg : ∀ i, i < z → sp_eg (fun i => g.1 67 (40 * r + i)) n i) : sp_Ct X 9 212 [.ref 64, .int (nI r)] g (sp_Fi (nI (sp_st (sp_pj (fun i => g.1 67 (40 * r + i)) (z / 2)) n)) g) := by
  refine sp_walkN (n := 3) sq_p_212 sq_l_212 (Nat.le_of_ble_eq_true rfl) (fun a hA => ?_)
  show sp_Ev X a 212 0 [.ref 64, .int (nI r), .null] [] g
  refine sr_iload_n hA si_212_0 rfl ?_
  refine sr_SFi (as := [.int (nI r)]) (st := []) hA si_212_1 ss_140 sk_212_93 (mc_isRow1 X g (by omega)) (by omega) rfl rfl (Nat.le_of_ble_eq_true rfl) ?_
  refine sr_if_neN (tgt := 9) hA si_212_4 (by decide) (by omega) (fun c1 => ?_) (fun c1 => absurd c1 (by omega))
  refine sr_aload_n hA si_212_9 rfl ?_
  refine sr_iload_n hA si_212_10 rfl ?_
  refine sr_VFi (c := 64) (ci := 8) (as := [.int (nI r)]) (st := []) hA si_212_11 sv_213 sk_212_265 (mc_np2_0 X g hr hz hzb hn hb hev hg) (by omega) rfl (by decide) (by decide) rfl sq_c_213 rfl (Nat.le_of_ble_eq_true rfl) ?_
  refine sr_istore_n (ls1 := [.ref 64, .int (nI r), .int (nI 0)]) hA si_212_14 rfl (by rw [sq_l_212]; decide) rfl ?_
  refine sr_iload_n hA si_212_15 rfl ?_
  refine sr_if_geN (tgt := 23) hA si_212_16 (by decide) (by omega) ?_
  refine sr_aload_n hA si_212_23 rfl ?_
  refine sr_iload_n hA si_212_24 rfl ?_
  refine sr_VFi (c := 64) (ci := 8) (as := [.int (nI r)]) (st := []) hA si_212_25 sv_214 sk_212_268 (mc_us X g hr hz hzb hn hb hev hg) (by omega) rfl (by decide) (by decide) rfl sq_c_214 rfl (Nat.le_of_ble_eq_true rfl) ?_
  exact sr_iretF hA si_212_28 sq_r_212 rfl rfl
theorem sp_sgs {g : sp_G} (h : sp_Rel g) {r n : Nat} (hr : r < 6) : (g.1 9 r = -1 ∧ g.1 66 r = -1) ∨ ∃ z, z ≤ 40 ∧ g.1 9 r = nI z ∧ g.1 66 r = nI z ∧ (z % 2 = 1 ∨ (z % 2 = 0 ∧ ((∃ p, p < z ∧ (∀ i, i < p → sp_eg (fun i => g.1 (3 + r) i) n i) ∧ (∀ i, i < p → sp_eg (fun i => g.1 67 (40 * r + i)) n i) ∧ ((p % 2 = 0 ∧ sp_bk (g.1 (3 + r) p) n) ∨ (p % 2 = 1 ∧ sp_bk (g.1 (3 + r) p) 2)) ∧ ((p % 2 = 0 ∧ sp_bk (g.1 67 (40 * r + p)) n) ∨ (p % 2 = 1 ∧ sp_bk (g.1 67 (40 * r + p)) 2))) ∨ ((∀ i, i < z → sp_eg (fun i => g.1 (3 + r) i) n i) ∧ ∀ i, i < z → sp_eg (fun i => g.1 67 (40 * r + i)) n i)))) := by
  rcases sp_rowsz h hr with e | ⟨z, z1, z2, z3⟩
  · exact Or.inl e
  refine Or.inr ⟨z, z1, z2, z3, ?_⟩
  rcases Nat.mod_two_eq_zero_or_one z with hz | hz
  rotate_left
  · exact Or.inl hz
  refine Or.inr ⟨hz, ?_⟩
  have e := sp_rowF h hr
  have eg : ∀ i, i < 40 → sp_eg (fun i => g.1 (3 + r) i) n i → sp_eg (fun i => g.1 67 (40 * r + i)) n i := fun i hi q => by
    exact ⟨fun z => by obtain ⟨a, a1, a2⟩ := q.1 z; exact ⟨a, a1, (e i hi).symm.trans a2⟩, fun z => by obtain ⟨a, a1, a2⟩ := q.2 z; exact ⟨a, a1, (e i hi).symm.trans a2⟩⟩
  rcases sp_eg_or (fun i => g.1 (3 + r) i) n z with k | ⟨b, b1, b2, b3⟩
  · exact Or.inr ⟨k, fun i hi => eg i (by omega) (k i hi)⟩
  · exact Or.inl ⟨b, b1, b2, fun i hi => eg i (by omega) (b2 i hi), b3, by rw [← e b (by omega)]; exact b3⟩
theorem sp_pjE {g : sp_G} (h : sp_Rel g) {r z : Nat} (hr : r < 6) (hz : z ≤ 40) : sp_pj (fun i => g.1 (3 + r) i) (z / 2) = sp_pj (fun i => g.1 67 (40 * r + i)) (z / 2) := sp_pj_c (fun i hi => sp_rowF h hr i (by omega))
theorem pr_ring {X : sp_X} {g : sp_G} (h : sp_Rel g) (r : Int32) : sp_Pi X 105 212 [.int r] g := by
  obtain ⟨hF, hR, hT, n, dm, hK, hS, hP⟩ := id h
  obtain ⟨k1, k2, k3, k4⟩ := id hK
  rcases sp_cls r with hr | ⟨r, hrb, rfl⟩
  · exact sp_pF (xc_ring_a X g hr) (mc_ring_a X g hr) (by omega) (by omega) h
  by_cases hr : r < 6
  rotate_left
  · exact sp_pF (xc_ring_b X g (by omega) hrb) (mc_ring_b X g (by omega) hrb) (by omega) (by omega) h
  rcases sp_sgs h (n := n) hr with ⟨z1, z2⟩ | ⟨z, zb, z1, z2, hz | ⟨hz, ⟨p, p1, p2, p3, p4, p5⟩ | ⟨k5, k6⟩⟩⟩
  · exact sp_pF (xc_ring_r1 X g hr z1) (mc_ring_r1 X (sp_rx g 1) hr z2) (by omega) (by omega) (h.ref (by omega))
  · exact sp_pF (xc_ring_r5 X g hr z1 zb hz) (mc_ring_r5 X (sp_rx g 5) hr z2 zb hz) (by omega) (by omega) (h.ref (by omega))
  · exact sp_pF (xc_ring_r3 X g hr z1 zb k2 k1 hz p1 p2 p4) (mc_ring_r3 X (sp_rx g 3) hr z2 zb k3 k1 hz p1 p3 p5) (by omega) (by omega) (h.ref (by omega))
  have hx := xc_ring_e X g hr z1 zb k2 k1 hz k5
  rw [sp_pjE h hr zb] at hx
  exact sp_pF hx (mc_ring_e X g hr z2 zb k3 k1 hz k6) (by omega) (by omega) h
