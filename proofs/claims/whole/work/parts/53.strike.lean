theorem sp_ltI {a b : Nat} (ha : a < 2 ^ 31) (hb : b < 2 ^ 31) : nI a < nI b ↔ a < b := by
  rw [Int32.lt_iff_toInt_lt, nI_toInt ha, nI_toInt hb]; omega
theorem sp_maxN {a b : Nat} (ha : a < 2 ^ 31) (hb : b < 2 ^ 31) : (if nI a < nI b then nI b else nI a) = nI (max a b) := by
  by_cases h : a < b
  · rw [if_pos (nI_lt h hb), Nat.max_eq_right (by omega)]
  · rw [if_neg (fun q => h ((sp_ltI ha hb).mp q)), Nat.max_eq_left (by omega)]
theorem sp_pcS : ∀ n, n < 6 → ∀ s, s < 2 ^ n → sp_pc (s + 2 ^ n) = sp_pc s + 1 := by decide +kernel
theorem sp_pc_ct (p : Nat → Bool) : ∀ {n : Nat}, n ≤ 6 → sp_pc (sp_st p n) = sp_ct p n
  | 0, _ => by show sp_pc 0 = 0; decide
  | n + 1, h => by
    show sp_pc (sp_st p n + (if p n then 2 ^ n else 0)) = sp_ct p n + (if p n = true then 1 else 0)
    by_cases hp : p n = true
    · rw [if_pos hp, if_pos hp, sp_pcS n (by omega) _ (sp_st_lt p n), sp_pc_ct p (by omega)]
    · rw [if_neg hp, if_neg hp, Nat.add_zero, sp_pc_ct p (by omega), Nat.add_zero]
theorem sp_ct_split (p q : Nat → Bool) : ∀ n, sp_ct (fun j => p j && q j) n + sp_ct (fun j => p j && !(q j)) n = sp_ct p n
  | 0 => rfl
  | n + 1 => by
    have ih := sp_ct_split p q n
    show (sp_ct (fun j => p j && q j) n + (if (p n && q n) = true then 1 else 0)) + (sp_ct (fun j => p j && !(q j)) n + (if (p n && !(q n)) = true then 1 else 0)) = sp_ct p n + (if p n = true then 1 else 0)
    by_cases h1 : p n = true <;> by_cases h2 : q n = true <;> simp [h1, h2] <;> omega
def sp_wv (p : Nat → Bool) (n i : Nat) : Nat := max (sp_ct (fun j => p j && sp_sg i j) n) (sp_ct (fun j => p j && !(sp_sg i j)) n)
theorem sp_wv_le (p : Nat → Bool) (n i : Nat) : sp_wv p n i ≤ n := by
  have h1 := sp_ct_le (fun j => p j && sp_sg i j) n
  have h2 := sp_ct_le (fun j => p j && !(sp_sg i j)) n
  unfold sp_wv
  omega
/-- the first of 0 .. k with the least w -/
def sp_am (w : Nat → Nat) : Nat → Nat × Nat
  | 0 => (0, w 0)
  | k + 1 => if w (k + 1) < (sp_am w k).2 then (k + 1, w (k + 1)) else sp_am w k
theorem sp_am_le (w : Nat → Nat) (b : Nat) (h : ∀ i, w i ≤ b) : ∀ k, (sp_am w k).1 ≤ k ∧ (sp_am w k).2 ≤ b
  | 0 => ⟨Nat.le_refl 0, h 0⟩
  | k + 1 => by
    have ih := sp_am_le w b h k
    show (if _ then _ else _ : Nat × Nat).1 ≤ _ ∧ (if _ then _ else _ : Nat × Nat).2 ≤ _
    split
    · exact ⟨Nat.le_refl _, h _⟩
    · exact ⟨by omega, ih.2⟩
theorem sp_am1 {w : Nat → Nat} {i c l : Nat} (hi : 0 < i) (h : sp_am w (i - 1) = (c, l)) (hl : w i < l) : sp_am w i = (i, w i) := by
  obtain ⟨k, rfl⟩ : ∃ k, i = k + 1 := ⟨i - 1, by omega⟩
  rw [show k + 1 - 1 = k by omega] at h
  show (if _ then _ else _) = _
  rw [h, if_pos hl]
theorem sp_am0 {w : Nat → Nat} {i c l : Nat} (hi : 0 < i) (h : sp_am w (i - 1) = (c, l)) (hl : ¬ w i < l) : sp_am w i = (c, l) := by
  obtain ⟨k, rfl⟩ : ∃ k, i = k + 1 := ⟨i - 1, by omega⟩
  rw [show k + 1 - 1 = k by omega] at h
  show (if _ then _ else _) = _
  rw [h, if_neg hl]
theorem sp_st_0 {p : Nat → Bool} {n : Nat} (h : sp_st p n ≠ 0) : 0 < n := by
  rcases Nat.eq_zero_or_pos n with e | e
  · subst e; exact absurd rfl h
  · exact e
set_option maxRecDepth 20000 in
theorem xl_strike {X : sp_X} {ac : sp_Ac} {g : sp_G} {n : Nat} {p : Nat → Bool} (hn : g.1 18 3 = nI n) (hb : n ≤ 6) (hA : sp_Act X 110 9 (sp_Fi (nI (sp_am (sp_wv p n) (n - 1)).1) (sp_wI g 0 12 (nI (sp_am (sp_wv p n) (n - 1)).2))) ac) : ∀ (m : Nat) (i : Nat) (c : Nat) (l : Nat), i + m = n → 0 < i → sp_am (sp_wv p n) (i - 1) = (c, l) → sp_Ev X ac 110 59 [.ref 0, .null, .null, .int (nI (sp_st p n)), .int (nI c), .int (nI l), .int (nI i), .null, .null] [] g := by
  intro m
  induction m with
  | zero =>
    intro i c l h0_ h1_ h2_
    refine sr_iload hA si_110_59 rfl ?_
    refine sr_aload_n hA si_110_61 rfl ?_
    refine sr_getR (r := 18) hA si_110_62 sf_110_32 (by decide) (by decide) rfl rfl rfl ?_
    refine sr_getIv (v := nI n) hA si_110_65 sf_110_145 (by decide) (by decide) rfl (by decide) hn ?_
    refine sr_icmp_geN (tgt := 124) hA si_110_68 (by decide) (by omega) (by omega) (fun c1 => ?_) (fun c1 => absurd c1 (by omega))
    refine sr_aload_n hA si_110_124 rfl ?_
    refine sr_iload hA si_110_125 rfl ?_
    refine sr_putI hA si_110_127 sf_110_92 rfl rfl (by decide) (by decide) rfl rfl ?_
    refine sr_iload hA si_110_130 rfl ?_
    have e9 : sp_am (sp_wv p n) (n - 1) = (c, l) := by rw [← h2_, show i = n by omega]
    exact sr_iretF hA si_110_132 sq_r_110 (by rw [e9]) (by rw [e9])
  | succ m ih =>
    intro i c l h0_ h1_ h2_
    have hc1 := sp_ct_le (fun j => p j && sp_sg i j) n
    have hc2 := sp_ct_le (fun j => p j && !(sp_sg i j)) n
    have hw1 : max (sp_ct (fun j => p j && sp_sg i j) n) (sp_ct (fun j => p j && !(sp_sg i j)) n) = sp_wv p n i := rfl
    have hw2 := sp_wv_le p n i
    have hs6 := sp_st_64 p hb
    have hcl := sp_am_le (sp_wv p n) n (sp_wv_le p n) (i - 1)
    rw [h2_] at hcl
    have hcl1 : c ≤ i - 1 := hcl.1
    have hcl2 : l ≤ n := hcl.2
    refine sr_iload hA si_110_59 rfl ?_
    refine sr_aload_n hA si_110_61 rfl ?_
    refine sr_getR (r := 18) hA si_110_62 sf_110_32 (by decide) (by decide) rfl rfl rfl ?_
    refine sr_getIv (v := nI n) hA si_110_65 sf_110_145 (by decide) (by decide) rfl (by decide) hn ?_
    refine sr_icmp_geN (tgt := 124) hA si_110_68 (by decide) (by omega) (by omega) (fun c1 => absurd c1 (by omega)) (fun c1 => ?_)
    refine sr_aload_n hA si_110_71 rfl ?_
    refine sr_getR (r := 18) hA si_110_72 sf_110_32 (by decide) (by decide) rfl rfl rfl ?_
    refine sr_iload hA si_110_75 rfl ?_
    refine sr_VFi (c := 18) (ci := 0) (as := [.int (nI i)]) (st := []) hA si_110_77 sv_109 sk_110_271 (xc_near X g (a := i) hn hb (by omega)) (by omega) rfl (by decide) (by decide) rfl sq_c_109 rfl (Nat.le_of_ble_eq_true rfl) ?_
    refine sr_istore (ls1 := [.ref 0, .null, .null, .int (nI (sp_st p n)), .int (nI c), .int (nI l), .int (nI i), .int (nI (sp_st (sp_sg i) n)), .null]) hA si_110_80 (by rw [sq_l_110]; decide) rfl ?_
    refine sr_iload_n hA si_110_82 rfl ?_
    refine sr_iload hA si_110_83 rfl ?_
    refine sr_iand hA si_110_85 ?_
    refine sr_SFi (as := [.int ((nI (sp_st p n)) &&& (nI (sp_st (sp_sg i) n)))]) (st := []) hA si_110_86 ss_51 sk_110_179 (show sp_Ct X 0 51 [.int ((nI (sp_st p n)) &&& (nI (sp_st (sp_sg i) n)))] g (sp_Fi (nI (sp_ct (fun j => p j && sp_sg i j) n)) g) from by rw [sp_rpA hb, ← sp_pc_ct _ hb]; exact xc_bitCount X g (sp_st_64 _ hb)) (by omega) rfl rfl (Nat.le_of_ble_eq_true rfl) ?_
    refine sr_iload_n hA si_110_89 rfl ?_
    refine sr_iload hA si_110_90 rfl ?_
    refine sr_iconst (v := (-1)) hA si_110_92 (by decide) ?_
    refine sr_ixor hA si_110_93 ?_
    refine sr_iand hA si_110_94 ?_
    refine sr_SFi (as := [.int ((nI (sp_st p n)) &&& ((nI (sp_st (sp_sg i) n)) ^^^ (-1)))]) (st := [.int (nI (sp_ct (fun j => p j && sp_sg i j) n))]) hA si_110_95 ss_51 sk_110_179 (show sp_Ct X 0 51 [.int ((nI (sp_st p n)) &&& ((nI (sp_st (sp_sg i) n)) ^^^ (-1)))] g (sp_Fi (nI (sp_ct (fun j => p j && !(sp_sg i j)) n)) g) from by rw [sp_rpN hb, ← sp_pc_ct _ hb]; exact xc_bitCount X g (sp_st_64 _ hb)) (by omega) rfl rfl (Nat.le_of_ble_eq_true rfl) ?_
    refine sr_mmax hA si_110_98 sk_110_169 (by omega) (Nat.le_of_ble_eq_true rfl) ?_
    rw [sp_maxN (a := (sp_ct (fun j => p j && sp_sg i j) n)) (b := (sp_ct (fun j => p j && !(sp_sg i j)) n)) (by omega) (by omega)]
    refine sr_istore (ls1 := [.ref 0, .null, .null, .int (nI (sp_st p n)), .int (nI c), .int (nI l), .int (nI i), .int (nI (sp_st (sp_sg i) n)), .int (nI (max (sp_ct (fun j => p j && sp_sg i j) n) (sp_ct (fun j => p j && !(sp_sg i j)) n)))]) hA si_110_101 (by rw [sq_l_110]; decide) rfl ?_
    refine sr_iload hA si_110_103 rfl ?_
    refine sr_iload hA si_110_105 rfl ?_
    refine sr_icmp_geN (tgt := 118) hA si_110_107 (by decide) (by omega) (by omega) (fun c2 => ?_) (fun c2 => ?_)
    · refine sr_iincN (x := i) (y := 1) (ls1 := [.ref 0, .null, .null, .int (nI (sp_st p n)), .int (nI c), .int (nI l), .int (nI (i + 1)), .int (nI (sp_st (sp_sg i) n)), .int (nI (max (sp_ct (fun j => p j && sp_sg i j) n) (sp_ct (fun j => p j && !(sp_sg i j)) n)))]) hA si_110_118 rfl rfl (by rw [sq_l_110]; decide) rfl ?_
      refine sr_goto (tgt := 59) hA si_110_121 (by decide) ?_
      refine sr_fg (ls1 := [.ref 0, .null, .null, .int (nI (sp_st p n)), .int (nI c), .int (nI l), .int (nI (i + 1)), .null, .null]) ⟨Or.inr rfl, Or.inl rfl, Or.inl rfl, Or.inr rfl, Or.inr rfl, Or.inr rfl, Or.inr rfl, Or.inl rfl, Or.inl rfl, trivial⟩ ?_
      exact ih (i + 1) c l (by omega) (by omega) (sp_am0 (i := i) h1_ h2_ (by omega))
    · refine sr_iload hA si_110_110 rfl ?_
      refine sr_istore (ls1 := [.ref 0, .null, .null, .int (nI (sp_st p n)), .int (nI c), .int (nI (max (sp_ct (fun j => p j && sp_sg i j) n) (sp_ct (fun j => p j && !(sp_sg i j)) n))), .int (nI i), .int (nI (sp_st (sp_sg i) n)), .int (nI (max (sp_ct (fun j => p j && sp_sg i j) n) (sp_ct (fun j => p j && !(sp_sg i j)) n)))]) hA si_110_112 (by rw [sq_l_110]; decide) rfl ?_
      refine sr_iload hA si_110_114 rfl ?_
      refine sr_istore (ls1 := [.ref 0, .null, .null, .int (nI (sp_st p n)), .int (nI i), .int (nI (max (sp_ct (fun j => p j && sp_sg i j) n) (sp_ct (fun j => p j && !(sp_sg i j)) n))), .int (nI i), .int (nI (sp_st (sp_sg i) n)), .int (nI (max (sp_ct (fun j => p j && sp_sg i j) n) (sp_ct (fun j => p j && !(sp_sg i j)) n)))]) hA si_110_116 (by rw [sq_l_110]; decide) rfl ?_
      refine sr_iincN (x := i) (y := 1) (ls1 := [.ref 0, .null, .null, .int (nI (sp_st p n)), .int (nI i), .int (nI (max (sp_ct (fun j => p j && sp_sg i j) n) (sp_ct (fun j => p j && !(sp_sg i j)) n))), .int (nI (i + 1)), .int (nI (sp_st (sp_sg i) n)), .int (nI (max (sp_ct (fun j => p j && sp_sg i j) n) (sp_ct (fun j => p j && !(sp_sg i j)) n)))]) hA si_110_118 rfl rfl (by rw [sq_l_110]; decide) rfl ?_
      refine sr_goto (tgt := 59) hA si_110_121 (by decide) ?_
      refine sr_fg (ls1 := [.ref 0, .null, .null, .int (nI (sp_st p n)), .int (nI i), .int (nI (max (sp_ct (fun j => p j && sp_sg i j) n) (sp_ct (fun j => p j && !(sp_sg i j)) n))), .int (nI (i + 1)), .null, .null]) ⟨Or.inr rfl, Or.inl rfl, Or.inl rfl, Or.inr rfl, Or.inr rfl, Or.inr rfl, Or.inr rfl, Or.inl rfl, Or.inl rfl, trivial⟩ ?_
      exact ih (i + 1) _ _ (by omega) (by omega) (sp_am1 (i := i) h1_ h2_ (by omega))
set_option maxRecDepth 20000 in
theorem xc_strike_n (X : sp_X) (g : sp_G) {r : Nat} (hr : r < 6) {z n : Nat} {p : Nat → Bool} (hz : g.1 9 r = nI z) (hzb : z ≤ 40) (hn : g.1 18 3 = nI n) (hb : n ≤ 6) (hev : z % 2 = 0) (hg : ∀ i, i < z → sp_eg (fun i => g.1 (3 + r) i) n i) (hpe : p = (sp_pj (fun i => g.1 (3 + r) i) (z / 2))) (h0 : sp_st p n = 0) : sp_Ct X 9 110 [.ref 0, .int (nI r)] g (sp_Fi (-9) g) := by
  have hs6 := sp_st_64 p hb
  refine sp_walkN (n := 9) sq_p_110 sq_l_110 (Nat.le_of_ble_eq_true rfl) (fun a hA => ?_)
  show sp_Ev X a 110 0 [.ref 0, .int (nI r), .null, .null, .null, .null, .null, .null, .null] [] g
  refine sr_aload_n hA si_110_0 rfl ?_
  refine sr_getR (r := 1) hA si_110_1 sf_110_14 (by decide) (by decide) rfl rfl rfl ?_
  refine sr_iload_n hA si_110_4 rfl ?_
  refine sr_VFi (c := 1) (ci := 5) (as := [.int (nI r)]) (st := []) hA si_110_5 sv_11 sk_110_72 (xc_numR1 X g (by omega)) (by omega) rfl (by decide) (by decide) rfl sq_c_11 rfl (Nat.le_of_ble_eq_true rfl) ?_
  refine sr_if_neN (tgt := 13) hA si_110_8 (by decide) (by omega) (fun c1 => ?_) (fun c1 => absurd c1 (by omega))
  refine sr_aload_n hA si_110_13 rfl ?_
  refine sr_iload_n hA si_110_14 rfl ?_
  refine sr_VFi (c := 0) (ci := 7) (as := [.int (nI r)]) (st := []) hA si_110_15 sv_106 sk_110_265 (xc_sw0 X g hr hz hzb hn hb hev hg) (by omega) rfl (by decide) (by decide) rfl sq_c_106 rfl (Nat.le_of_ble_eq_true rfl) ?_
  refine sr_istore_n (ls1 := [.ref 0, .int (nI r), .int (nI 0), .null, .null, .null, .null, .null, .null]) hA si_110_18 rfl (by rw [sq_l_110]; decide) rfl ?_
  refine sr_iload_n hA si_110_19 rfl ?_
  refine sr_if_eqN (tgt := 29) hA si_110_20 (by decide) (by omega) (fun c2 => ?_) (fun c2 => absurd c2 (by omega))
  refine sr_aload_n hA si_110_29 rfl ?_
  refine sr_iload_n hA si_110_30 rfl ?_
  refine sr_VFi (c := 0) (ci := 7) (as := [.int (nI r)]) (st := []) hA si_110_31 sv_107 sk_110_268 (show sp_Ct X 3 107 [.ref 0, .int (nI r)] g (sp_Fi (nI (sp_st p n)) g) from by rw [hpe]; exact xc_rp X g hr hz hzb hn hb hev hg) (by omega) rfl (by decide) (by decide) rfl sq_c_107 rfl (Nat.le_of_ble_eq_true rfl) ?_
  refine sr_istore_n (ls1 := [.ref 0, .int (nI r), .int (nI 0), .int (nI (sp_st p n)), .null, .null, .null, .null, .null]) hA si_110_34 rfl (by rw [sq_l_110]; decide) rfl ?_
  refine sr_iload_n hA si_110_35 rfl ?_
  refine sr_if_neN (tgt := 42) hA si_110_36 (by decide) (by omega) (fun c3 => absurd c3 (by omega)) (fun c3 => ?_)
  refine sr_bipush (v := (-9)) hA si_110_39 (by decide) ?_
  exact sr_iretF hA si_110_41 sq_r_110 rfl rfl
set_option maxRecDepth 20000 in
theorem xc_strike_e (X : sp_X) (g : sp_G) {r : Nat} (hr : r < 6) {z n : Nat} {p : Nat → Bool} (hz : g.1 9 r = nI z) (hzb : z ≤ 40) (hn : g.1 18 3 = nI n) (hb : n ≤ 6) (hev : z % 2 = 0) (hg : ∀ i, i < z → sp_eg (fun i => g.1 (3 + r) i) n i) (hpe : p = (sp_pj (fun i => g.1 (3 + r) i) (z / 2))) (h0 : sp_st p n ≠ 0) : sp_Ct X 9 110 [.ref 0, .int (nI r)] g (sp_Fi (nI (sp_am (sp_wv p n) (n - 1)).1) (sp_wI g 0 12 (nI (sp_am (sp_wv p n) (n - 1)).2))) := by
  have hn0 := sp_st_0 h0
  have hc1 := sp_ct_le (fun j => p j && sp_sg 0 j) n
  have hc2 := sp_ct_le (fun j => p j && !(sp_sg 0 j)) n
  have hw1 : max (sp_ct (fun j => p j && sp_sg 0 j) n) (sp_ct (fun j => p j && !(sp_sg 0 j)) n) = sp_wv p n 0 := rfl
  have hw2 := sp_wv_le p n 0
  have hs6 := sp_st_64 p hb
  refine sp_walkN (n := 9) sq_p_110 sq_l_110 (Nat.le_of_ble_eq_true rfl) (fun ac hA => ?_)
  show sp_Ev X ac 110 0 [.ref 0, .int (nI r), .null, .null, .null, .null, .null, .null, .null] [] g
  refine sr_aload_n hA si_110_0 rfl ?_
  refine sr_getR (r := 1) hA si_110_1 sf_110_14 (by decide) (by decide) rfl rfl rfl ?_
  refine sr_iload_n hA si_110_4 rfl ?_
  refine sr_VFi (c := 1) (ci := 5) (as := [.int (nI r)]) (st := []) hA si_110_5 sv_11 sk_110_72 (xc_numR1 X g (by omega)) (by omega) rfl (by decide) (by decide) rfl sq_c_11 rfl (Nat.le_of_ble_eq_true rfl) ?_
  refine sr_if_neN (tgt := 13) hA si_110_8 (by decide) (by omega) (fun c1 => ?_) (fun c1 => absurd c1 (by omega))
  refine sr_aload_n hA si_110_13 rfl ?_
  refine sr_iload_n hA si_110_14 rfl ?_
  refine sr_VFi (c := 0) (ci := 7) (as := [.int (nI r)]) (st := []) hA si_110_15 sv_106 sk_110_265 (xc_sw0 X g hr hz hzb hn hb hev hg) (by omega) rfl (by decide) (by decide) rfl sq_c_106 rfl (Nat.le_of_ble_eq_true rfl) ?_
  refine sr_istore_n (ls1 := [.ref 0, .int (nI r), .int (nI 0), .null, .null, .null, .null, .null, .null]) hA si_110_18 rfl (by rw [sq_l_110]; decide) rfl ?_
  refine sr_iload_n hA si_110_19 rfl ?_
  refine sr_if_eqN (tgt := 29) hA si_110_20 (by decide) (by omega) (fun c2 => ?_) (fun c2 => absurd c2 (by omega))
  refine sr_aload_n hA si_110_29 rfl ?_
  refine sr_iload_n hA si_110_30 rfl ?_
  refine sr_VFi (c := 0) (ci := 7) (as := [.int (nI r)]) (st := []) hA si_110_31 sv_107 sk_110_268 (show sp_Ct X 3 107 [.ref 0, .int (nI r)] g (sp_Fi (nI (sp_st p n)) g) from by rw [hpe]; exact xc_rp X g hr hz hzb hn hb hev hg) (by omega) rfl (by decide) (by decide) rfl sq_c_107 rfl (Nat.le_of_ble_eq_true rfl) ?_
  refine sr_istore_n (ls1 := [.ref 0, .int (nI r), .int (nI 0), .int (nI (sp_st p n)), .null, .null, .null, .null, .null]) hA si_110_34 rfl (by rw [sq_l_110]; decide) rfl ?_
  refine sr_iload_n hA si_110_35 rfl ?_
  refine sr_if_neN (tgt := 42) hA si_110_36 (by decide) (by omega) (fun c3 => ?_) (fun c3 => absurd c3 (by omega))
  refine sr_iconst (v := nI 0) hA si_110_42 (by decide) ?_
  refine sr_istore (ls1 := [.ref 0, .int (nI r), .int (nI 0), .int (nI (sp_st p n)), .int (nI 0), .null, .null, .null, .null]) hA si_110_43 (by rw [sq_l_110]; decide) rfl ?_
  refine sr_aload_n hA si_110_45 rfl ?_
  refine sr_getR (r := 18) hA si_110_46 sf_110_32 (by decide) (by decide) rfl rfl rfl ?_
  refine sr_getIv (v := nI n) hA si_110_49 sf_110_145 (by decide) (by decide) rfl (by decide) hn ?_
  refine sr_iconst (v := nI 1) hA si_110_52 (by decide) ?_
  refine sr_iaddN hA si_110_53 ?_
  refine sr_istore (ls1 := [.ref 0, .int (nI r), .int (nI 0), .int (nI (sp_st p n)), .int (nI 0), .int (nI (n + 1)), .null, .null, .null]) hA si_110_54 (by rw [sq_l_110]; decide) rfl ?_
  refine sr_iconst (v := nI 0) hA si_110_56 (by decide) ?_
  refine sr_istore (ls1 := [.ref 0, .int (nI r), .int (nI 0), .int (nI (sp_st p n)), .int (nI 0), .int (nI (n + 1)), .int (nI 0), .null, .null]) hA si_110_57 (by rw [sq_l_110]; decide) rfl ?_
  skip
  refine sr_iload hA si_110_59 rfl ?_
  refine sr_aload_n hA si_110_61 rfl ?_
  refine sr_getR (r := 18) hA si_110_62 sf_110_32 (by decide) (by decide) rfl rfl rfl ?_
  refine sr_getIv (v := nI n) hA si_110_65 sf_110_145 (by decide) (by decide) rfl (by decide) hn ?_
  refine sr_icmp_geN (tgt := 124) hA si_110_68 (by decide) (by omega) (by omega) (fun c4 => absurd c4 (by omega)) (fun c4 => ?_)
  refine sr_aload_n hA si_110_71 rfl ?_
  refine sr_getR (r := 18) hA si_110_72 sf_110_32 (by decide) (by decide) rfl rfl rfl ?_
  refine sr_iload hA si_110_75 rfl ?_
  refine sr_VFi (c := 18) (ci := 0) (as := [.int (nI 0)]) (st := []) hA si_110_77 sv_109 sk_110_271 (xc_near X g (a := 0) hn hb (by omega)) (by omega) rfl (by decide) (by decide) rfl sq_c_109 rfl (Nat.le_of_ble_eq_true rfl) ?_
  refine sr_istore (ls1 := [.ref 0, .int (nI r), .int (nI 0), .int (nI (sp_st p n)), .int (nI 0), .int (nI (n + 1)), .int (nI 0), .int (nI (sp_st (sp_sg 0) n)), .null]) hA si_110_80 (by rw [sq_l_110]; decide) rfl ?_
  refine sr_iload_n hA si_110_82 rfl ?_
  refine sr_iload hA si_110_83 rfl ?_
  refine sr_iand hA si_110_85 ?_
  refine sr_SFi (as := [.int ((nI (sp_st p n)) &&& (nI (sp_st (sp_sg 0) n)))]) (st := []) hA si_110_86 ss_51 sk_110_179 (show sp_Ct X 0 51 [.int ((nI (sp_st p n)) &&& (nI (sp_st (sp_sg 0) n)))] g (sp_Fi (nI (sp_ct (fun j => p j && sp_sg 0 j) n)) g) from by rw [sp_rpA hb, ← sp_pc_ct _ hb]; exact xc_bitCount X g (sp_st_64 _ hb)) (by omega) rfl rfl (Nat.le_of_ble_eq_true rfl) ?_
  refine sr_iload_n hA si_110_89 rfl ?_
  refine sr_iload hA si_110_90 rfl ?_
  refine sr_iconst (v := (-1)) hA si_110_92 (by decide) ?_
  refine sr_ixor hA si_110_93 ?_
  refine sr_iand hA si_110_94 ?_
  refine sr_SFi (as := [.int ((nI (sp_st p n)) &&& ((nI (sp_st (sp_sg 0) n)) ^^^ (-1)))]) (st := [.int (nI (sp_ct (fun j => p j && sp_sg 0 j) n))]) hA si_110_95 ss_51 sk_110_179 (show sp_Ct X 0 51 [.int ((nI (sp_st p n)) &&& ((nI (sp_st (sp_sg 0) n)) ^^^ (-1)))] g (sp_Fi (nI (sp_ct (fun j => p j && !(sp_sg 0 j)) n)) g) from by rw [sp_rpN hb, ← sp_pc_ct _ hb]; exact xc_bitCount X g (sp_st_64 _ hb)) (by omega) rfl rfl (Nat.le_of_ble_eq_true rfl) ?_
  refine sr_mmax hA si_110_98 sk_110_169 (by omega) (Nat.le_of_ble_eq_true rfl) ?_
  rw [sp_maxN (a := (sp_ct (fun j => p j && sp_sg 0 j) n)) (b := (sp_ct (fun j => p j && !(sp_sg 0 j)) n)) (by omega) (by omega)]
  refine sr_istore (ls1 := [.ref 0, .int (nI r), .int (nI 0), .int (nI (sp_st p n)), .int (nI 0), .int (nI (n + 1)), .int (nI 0), .int (nI (sp_st (sp_sg 0) n)), .int (nI (max (sp_ct (fun j => p j && sp_sg 0 j) n) (sp_ct (fun j => p j && !(sp_sg 0 j)) n)))]) hA si_110_101 (by rw [sq_l_110]; decide) rfl ?_
  refine sr_iload hA si_110_103 rfl ?_
  refine sr_iload hA si_110_105 rfl ?_
  refine sr_icmp_geN (tgt := 118) hA si_110_107 (by decide) (by omega) (by omega) (fun c5 => absurd c5 (by omega)) (fun c5 => ?_)
  refine sr_iload hA si_110_110 rfl ?_
  refine sr_istore (ls1 := [.ref 0, .int (nI r), .int (nI 0), .int (nI (sp_st p n)), .int (nI 0), .int (nI (max (sp_ct (fun j => p j && sp_sg 0 j) n) (sp_ct (fun j => p j && !(sp_sg 0 j)) n))), .int (nI 0), .int (nI (sp_st (sp_sg 0) n)), .int (nI (max (sp_ct (fun j => p j && sp_sg 0 j) n) (sp_ct (fun j => p j && !(sp_sg 0 j)) n)))]) hA si_110_112 (by rw [sq_l_110]; decide) rfl ?_
  refine sr_iload hA si_110_114 rfl ?_
  refine sr_istore (ls1 := [.ref 0, .int (nI r), .int (nI 0), .int (nI (sp_st p n)), .int (nI 0), .int (nI (max (sp_ct (fun j => p j && sp_sg 0 j) n) (sp_ct (fun j => p j && !(sp_sg 0 j)) n))), .int (nI 0), .int (nI (sp_st (sp_sg 0) n)), .int (nI (max (sp_ct (fun j => p j && sp_sg 0 j) n) (sp_ct (fun j => p j && !(sp_sg 0 j)) n)))]) hA si_110_116 (by rw [sq_l_110]; decide) rfl ?_
  refine sr_iincN (x := 0) (y := 1) (ls1 := [.ref 0, .int (nI r), .int (nI 0), .int (nI (sp_st p n)), .int (nI 0), .int (nI (max (sp_ct (fun j => p j && sp_sg 0 j) n) (sp_ct (fun j => p j && !(sp_sg 0 j)) n))), .int (nI 1), .int (nI (sp_st (sp_sg 0) n)), .int (nI (max (sp_ct (fun j => p j && sp_sg 0 j) n) (sp_ct (fun j => p j && !(sp_sg 0 j)) n)))]) hA si_110_118 rfl rfl (by rw [sq_l_110]; decide) rfl ?_
  refine sr_goto (tgt := 59) hA si_110_121 (by decide) ?_
  refine sr_fg (ls1 := [.ref 0, .null, .null, .int (nI (sp_st p n)), .int (nI 0), .int (nI (max (sp_ct (fun j => p j && sp_sg 0 j) n) (sp_ct (fun j => p j && !(sp_sg 0 j)) n))), .int (nI 1), .null, .null]) ⟨Or.inr rfl, Or.inl rfl, Or.inl rfl, Or.inr rfl, Or.inr rfl, Or.inr rfl, Or.inr rfl, Or.inl rfl, Or.inl rfl, trivial⟩ ?_
  exact xl_strike hn hb hA (n - 1) 1 0 _ (by omega) (by omega) (by show (0, _) = _; rfl)
theorem sp_grE {a b : Nat} (ha : a < 2 ^ 31) (hb : b < 2 ^ 31) : (if nI b < nI a then nI a else nI b) = nI (max a b) := by
  rw [sp_maxN hb ha, Nat.max_comm]
set_option maxRecDepth 20000 in
theorem ml_stI {X : sp_X} {dd : Nat} {ac : sp_Ac} {g : sp_G} {n i : Nat} {p : Nat → Bool} {bb ll : Int32} {Rt : sp_Rt} (hn : g.1 64 11 = nI n) (hb : n ≤ 6) (hi : i < n) (hdd : 2 ≤ dd) (kk : sp_Ev X ac 216 103 [.ref 64, .null, .null, .int (nI (sp_st p n)), .int bb, .int ll, .int (nI i), .int (nI (sp_ct (fun j => p j && sp_sg i j) n)), .null] [] g) (hA : sp_Act X 216 dd Rt ac) : ∀ (m : Nat) (j : Nat) (q : Nat), j + m = n → q = sp_ct (fun j => p j && sp_sg i j) j → sp_Ev X ac 216 59 [.ref 64, .null, .null, .int (nI (sp_st p n)), .int bb, .int ll, .int (nI i), .int (nI q), .int (nI j)] [] g := by
  intro m
  induction m with
  | zero =>
    intro j q h0_ h1_
    refine sr_iload hA si_216_59 rfl ?_
    refine sr_aload_n hA si_216_61 rfl ?_
    refine sr_getIv (v := nI n) hA si_216_62 sf_216_142 (by decide) (by decide) rfl (by decide) hn ?_
    refine sr_icmp_geN (tgt := 103) hA si_216_65 (by decide) (by omega) (by omega) (fun c1 => ?_) (fun c1 => absurd c1 (by omega))
    refine sr_fg (ls1 := [.ref 64, .null, .null, .int (nI (sp_st p n)), .int bb, .int ll, .int (nI i), .int (nI q), .null]) ⟨Or.inr rfl, Or.inl rfl, Or.inl rfl, Or.inr rfl, Or.inr rfl, Or.inr rfl, Or.inr rfl, Or.inr rfl, Or.inl rfl, trivial⟩ ?_
    rw [h1_, show j = n by omega]
    exact kk
  | succ m ih =>
    intro j q h0_ h1_
    have hs6 := sp_st_64 p hb
    by_cases hpj : p j = true <;> by_cases hsg : sp_sg i j = true
    · refine sr_iload hA si_216_59 rfl ?_
      refine sr_aload_n hA si_216_61 rfl ?_
      refine sr_getIv (v := nI n) hA si_216_62 sf_216_142 (by decide) (by decide) rfl (by decide) hn ?_
      refine sr_icmp_geN (tgt := 103) hA si_216_65 (by decide) (by omega) (by omega) (fun c1 => absurd c1 (by omega)) (fun c1 => ?_)
      refine sr_iload hA si_216_68 rfl ?_
      refine sr_iload_n hA si_216_70 rfl ?_
      refine sr_iload hA si_216_71 rfl ?_
      refine sr_SFi (as := [.int (nI (sp_st p n)), .int (nI j)]) (st := [.int (nI q)]) hA si_216_73 ss_203 sk_216_232 (mc_has1 X g (t := sp_st p n) (k := j) hs6 (by omega) (by rw [sp_st_bit]; simp [hpj]; try omega)) (by omega) rfl rfl (Nat.le_of_ble_eq_true rfl) ?_
      refine sr_if_eqN (tgt := 93) hA si_216_76 (by decide) (by omega) (fun c2 => absurd c2 (by omega)) (fun c2 => ?_)
      refine sr_iload hA si_216_79 rfl ?_
      refine sr_iload hA si_216_81 rfl ?_
      refine sr_SFi (as := [.int (nI i), .int (nI j)]) (st := [.int (nI q)]) hA si_216_83 ss_215 sk_216_262 (mc_sings1 X g (a := i) (j := j) (by omega) (by omega) hsg) (by omega) rfl rfl (Nat.le_of_ble_eq_true rfl) ?_
      refine sr_if_eqN (tgt := 93) hA si_216_86 (by decide) (by omega) (fun c3 => absurd c3 (by omega)) (fun c3 => ?_)
      refine sr_iconst (v := nI 1) hA si_216_89 (by decide) ?_
      refine sr_goto (tgt := 94) hA si_216_90 (by decide) ?_
      refine sr_iaddN hA si_216_94 ?_
      refine sr_istore (ls1 := [.ref 64, .null, .null, .int (nI (sp_st p n)), .int bb, .int ll, .int (nI i), .int (nI (q + 1)), .int (nI j)]) hA si_216_95 (by rw [sq_l_216]; decide) rfl ?_
      refine sr_iincN (x := j) (y := 1) (ls1 := [.ref 64, .null, .null, .int (nI (sp_st p n)), .int bb, .int ll, .int (nI i), .int (nI (q + 1)), .int (nI (j + 1))]) hA si_216_97 rfl rfl (by rw [sq_l_216]; decide) rfl ?_
      refine sr_goto (tgt := 59) hA si_216_100 (by decide) ?_
      exact ih (j + 1) (q + 1) (by omega) (sp_ct1 h1_ (by simp [hpj, hsg]))
    · refine sr_iload hA si_216_59 rfl ?_
      refine sr_aload_n hA si_216_61 rfl ?_
      refine sr_getIv (v := nI n) hA si_216_62 sf_216_142 (by decide) (by decide) rfl (by decide) hn ?_
      refine sr_icmp_geN (tgt := 103) hA si_216_65 (by decide) (by omega) (by omega) (fun c1 => absurd c1 (by omega)) (fun c1 => ?_)
      refine sr_iload hA si_216_68 rfl ?_
      refine sr_iload_n hA si_216_70 rfl ?_
      refine sr_iload hA si_216_71 rfl ?_
      refine sr_SFi (as := [.int (nI (sp_st p n)), .int (nI j)]) (st := [.int (nI q)]) hA si_216_73 ss_203 sk_216_232 (mc_has1 X g (t := sp_st p n) (k := j) hs6 (by omega) (by rw [sp_st_bit]; simp [hpj]; try omega)) (by omega) rfl rfl (Nat.le_of_ble_eq_true rfl) ?_
      refine sr_if_eqN (tgt := 93) hA si_216_76 (by decide) (by omega) (fun c2 => absurd c2 (by omega)) (fun c2 => ?_)
      refine sr_iload hA si_216_79 rfl ?_
      refine sr_iload hA si_216_81 rfl ?_
      refine sr_SFi (as := [.int (nI i), .int (nI j)]) (st := [.int (nI q)]) hA si_216_83 ss_215 sk_216_262 (mc_sings0 X g (a := i) (j := j) (by omega) (by omega) hsg) (by omega) rfl rfl (Nat.le_of_ble_eq_true rfl) ?_
      refine sr_if_eqN (tgt := 93) hA si_216_86 (by decide) (by omega) (fun c3 => ?_) (fun c3 => absurd c3 (by omega))
      refine sr_iconst (v := nI 0) hA si_216_93 (by decide) ?_
      refine sr_iaddN hA si_216_94 ?_
      refine sr_istore (ls1 := [.ref 64, .null, .null, .int (nI (sp_st p n)), .int bb, .int ll, .int (nI i), .int (nI (q + 0)), .int (nI j)]) hA si_216_95 (by rw [sq_l_216]; decide) rfl ?_
      refine sr_iincN (x := j) (y := 1) (ls1 := [.ref 64, .null, .null, .int (nI (sp_st p n)), .int bb, .int ll, .int (nI i), .int (nI (q + 0)), .int (nI (j + 1))]) hA si_216_97 rfl rfl (by rw [sq_l_216]; decide) rfl ?_
      refine sr_goto (tgt := 59) hA si_216_100 (by decide) ?_
      exact ih (j + 1) (q + 0) (by omega) (sp_ct0 h1_ (by simp [hpj, hsg]))
    · refine sr_iload hA si_216_59 rfl ?_
      refine sr_aload_n hA si_216_61 rfl ?_
      refine sr_getIv (v := nI n) hA si_216_62 sf_216_142 (by decide) (by decide) rfl (by decide) hn ?_
      refine sr_icmp_geN (tgt := 103) hA si_216_65 (by decide) (by omega) (by omega) (fun c1 => absurd c1 (by omega)) (fun c1 => ?_)
      refine sr_iload hA si_216_68 rfl ?_
      refine sr_iload_n hA si_216_70 rfl ?_
      refine sr_iload hA si_216_71 rfl ?_
      refine sr_SFi (as := [.int (nI (sp_st p n)), .int (nI j)]) (st := [.int (nI q)]) hA si_216_73 ss_203 sk_216_232 (mc_has0 X g (t := sp_st p n) (k := j) hs6 (by omega) (by rw [sp_st_bit]; simp [hpj]; try omega)) (by omega) rfl rfl (Nat.le_of_ble_eq_true rfl) ?_
      refine sr_if_eqN (tgt := 93) hA si_216_76 (by decide) (by omega) (fun c2 => ?_) (fun c2 => absurd c2 (by omega))
      refine sr_iconst (v := nI 0) hA si_216_93 (by decide) ?_
      refine sr_iaddN hA si_216_94 ?_
      refine sr_istore (ls1 := [.ref 64, .null, .null, .int (nI (sp_st p n)), .int bb, .int ll, .int (nI i), .int (nI (q + 0)), .int (nI j)]) hA si_216_95 (by rw [sq_l_216]; decide) rfl ?_
      refine sr_iincN (x := j) (y := 1) (ls1 := [.ref 64, .null, .null, .int (nI (sp_st p n)), .int bb, .int ll, .int (nI i), .int (nI (q + 0)), .int (nI (j + 1))]) hA si_216_97 rfl rfl (by rw [sq_l_216]; decide) rfl ?_
      refine sr_goto (tgt := 59) hA si_216_100 (by decide) ?_
      exact ih (j + 1) (q + 0) (by omega) (sp_ct0 h1_ (by simp [hpj, hsg]))
    · refine sr_iload hA si_216_59 rfl ?_
      refine sr_aload_n hA si_216_61 rfl ?_
      refine sr_getIv (v := nI n) hA si_216_62 sf_216_142 (by decide) (by decide) rfl (by decide) hn ?_
      refine sr_icmp_geN (tgt := 103) hA si_216_65 (by decide) (by omega) (by omega) (fun c1 => absurd c1 (by omega)) (fun c1 => ?_)
      refine sr_iload hA si_216_68 rfl ?_
      refine sr_iload_n hA si_216_70 rfl ?_
      refine sr_iload hA si_216_71 rfl ?_
      refine sr_SFi (as := [.int (nI (sp_st p n)), .int (nI j)]) (st := [.int (nI q)]) hA si_216_73 ss_203 sk_216_232 (mc_has0 X g (t := sp_st p n) (k := j) hs6 (by omega) (by rw [sp_st_bit]; simp [hpj]; try omega)) (by omega) rfl rfl (Nat.le_of_ble_eq_true rfl) ?_
      refine sr_if_eqN (tgt := 93) hA si_216_76 (by decide) (by omega) (fun c2 => ?_) (fun c2 => absurd c2 (by omega))
      refine sr_iconst (v := nI 0) hA si_216_93 (by decide) ?_
      refine sr_iaddN hA si_216_94 ?_
      refine sr_istore (ls1 := [.ref 64, .null, .null, .int (nI (sp_st p n)), .int bb, .int ll, .int (nI i), .int (nI (q + 0)), .int (nI j)]) hA si_216_95 (by rw [sq_l_216]; decide) rfl ?_
      refine sr_iincN (x := j) (y := 1) (ls1 := [.ref 64, .null, .null, .int (nI (sp_st p n)), .int bb, .int ll, .int (nI i), .int (nI (q + 0)), .int (nI (j + 1))]) hA si_216_97 rfl rfl (by rw [sq_l_216]; decide) rfl ?_
      refine sr_goto (tgt := 59) hA si_216_100 (by decide) ?_
      exact ih (j + 1) (q + 0) (by omega) (sp_ct0 h1_ (by simp [hpj, hsg]))
theorem sp_nm9 {k : Nat} (h : k < 2 ^ 31) : ¬ nI k = (-9 : Int32) := fun q => by
  have q := congrArg Int32.toInt q
  rw [nI_toInt h] at q
  have e : (-9 : Int32).toInt = -9 := by decide
  omega
set_option maxRecDepth 20000 in
theorem ml_strike {X : sp_X} {ac : sp_Ac} {g : sp_G} {n : Nat} {p : Nat → Bool} (hn : g.1 64 11 = nI n) (hb : n ≤ 6) (hA : sp_Act X 216 9 (sp_Fi (nI (sp_am (sp_wv p n) (n - 1)).1) (sp_wI g 64 2 (nI (sp_am (sp_wv p n) (n - 1)).2))) ac) : ∀ (m : Nat) (i : Nat) (c : Nat) (l : Nat), i + m = n → 0 < i → sp_am (sp_wv p n) (i - 1) = (c, l) → sp_Ev X ac 216 44 [.ref 64, .null, .null, .int (nI (sp_st p n)), .int (nI c), .int (nI l), .int (nI i), .null, .null] [] g := by
  intro m
  induction m with
  | zero =>
    intro i c l h0_ h1_ h2_
    refine sr_iload hA si_216_44 rfl ?_
    refine sr_aload_n hA si_216_46 rfl ?_
    refine sr_getIv (v := nI n) hA si_216_47 sf_216_142 (by decide) (by decide) rfl (by decide) hn ?_
    refine sr_icmp_geN (tgt := 145) hA si_216_50 (by decide) (by omega) (by omega) (fun c1 => ?_) (fun c1 => absurd c1 (by omega))
    refine sr_aload_n hA si_216_145 rfl ?_
    refine sr_iload hA si_216_146 rfl ?_
    refine sr_iload hA si_216_148 rfl ?_
    refine sr_VFi (c := 64) (ci := 8) (as := [.int (nI l), .int (nI c)]) (st := []) hA si_216_150 sv_144 sk_216_105 (mc_tells X g (nI l) (nI c)) (by omega) rfl (by decide) (by decide) rfl sq_c_144 rfl (Nat.le_of_ble_eq_true rfl) ?_
    have e9 : sp_am (sp_wv p n) (n - 1) = (c, l) := by rw [← h2_, show i = n by omega]
    exact sr_iretF hA si_216_153 sq_r_216 (by rw [e9]) (by rw [e9])
  | succ m ih =>
    intro i c l h0_ h1_ h2_
    have hc1 := sp_ct_le (fun j => p j && sp_sg i j) n
    have hc3 := sp_ct_split p (fun j => sp_sg i j) n
    have hc4 := sp_ct_le p n
    have hw3 : max (sp_ct (fun j => p j && sp_sg i j) n) (sp_ct p n - sp_ct (fun j => p j && sp_sg i j) n) = sp_wv p n i := by
      unfold sp_wv
      rw [show sp_ct p n - sp_ct (fun j => p j && sp_sg i j) n = sp_ct (fun j => p j && !(sp_sg i j)) n by omega]
    have hw2 := sp_wv_le p n i
    have hs6 := sp_st_64 p hb
    have hcl := sp_am_le (sp_wv p n) n (sp_wv_le p n) (i - 1)
    rw [h2_] at hcl
    have hcl1 : c ≤ i - 1 := hcl.1
    have hcl2 : l ≤ n := hcl.2
    refine sr_iload hA si_216_44 rfl ?_
    refine sr_aload_n hA si_216_46 rfl ?_
    refine sr_getIv (v := nI n) hA si_216_47 sf_216_142 (by decide) (by decide) rfl (by decide) hn ?_
    refine sr_icmp_geN (tgt := 145) hA si_216_50 (by decide) (by omega) (by omega) (fun c1 => absurd c1 (by omega)) (fun c1 => ?_)
    refine sr_iconst (v := nI 0) hA si_216_53 (by decide) ?_
    refine sr_istore (ls1 := [.ref 64, .null, .null, .int (nI (sp_st p n)), .int (nI c), .int (nI l), .int (nI i), .int (nI 0), .null]) hA si_216_54 (by rw [sq_l_216]; decide) rfl ?_
    refine sr_iconst (v := nI 0) hA si_216_56 (by decide) ?_
    refine sr_istore (ls1 := [.ref 64, .null, .null, .int (nI (sp_st p n)), .int (nI c), .int (nI l), .int (nI i), .int (nI 0), .int (nI 0)]) hA si_216_57 (by rw [sq_l_216]; decide) rfl ?_
    refine sr_fg (ls1 := [.ref 64, .null, .null, .int (nI (sp_st p n)), .int (nI c), .int (nI l), .int (nI i), .int (nI 0), .int (nI 0)]) ⟨Or.inr rfl, Or.inl rfl, Or.inl rfl, Or.inr rfl, Or.inr rfl, Or.inr rfl, Or.inr rfl, Or.inr rfl, Or.inr rfl, trivial⟩ ?_
    refine ml_stI (i := i) hn hb (by omega) (by omega) ?_ hA n 0 0 (by omega) rfl
    refine sr_iload hA si_216_103 rfl ?_
    refine sr_iload_n hA si_216_105 rfl ?_
    refine sr_SFi (as := [.int (nI (sp_st p n))]) (st := [.int (nI (sp_ct (fun j => p j && sp_sg i j) n))]) hA si_216_106 ss_171 sk_216_186 (show sp_Ct X 0 171 [.int (nI (sp_st p n))] g (sp_Fi (nI (sp_ct p n)) g) from by rw [← sp_pc_ct _ hb]; exact mc_bits X g (sp_st_64 _ hb)) (by omega) rfl rfl (Nat.le_of_ble_eq_true rfl) ?_
    refine sr_iload hA si_216_109 rfl ?_
    refine sr_isubN hA si_216_111 (by omega) ?_
    refine sr_SFi (as := [.int (nI (sp_ct (fun j => p j && sp_sg i j) n)), .int (nI ((sp_ct p n) - (sp_ct (fun j => p j && sp_sg i j) n)))]) (st := []) hA si_216_112 ss_168 sk_216_180 (show sp_Ct X 0 168 [.int (nI (sp_ct (fun j => p j && sp_sg i j) n)), .int (nI ((sp_ct p n) - (sp_ct (fun j => p j && sp_sg i j) n)))] g (sp_Fi (nI (sp_wv p n i)) g) from by have h := mc_greater X g (nI (sp_ct (fun j => p j && sp_sg i j) n)) (nI ((sp_ct p n) - (sp_ct (fun j => p j && sp_sg i j) n))); rw [sp_grE (by omega) (by omega), hw3] at h; exact h) (by omega) rfl rfl (Nat.le_of_ble_eq_true rfl) ?_
    refine sr_istore (ls1 := [.ref 64, .null, .null, .int (nI (sp_st p n)), .int (nI c), .int (nI l), .int (nI i), .int (nI (sp_ct (fun j => p j && sp_sg i j) n)), .int (nI (sp_wv p n i))]) hA si_216_115 (by rw [sq_l_216]; decide) rfl ?_
    refine sr_iload hA si_216_117 rfl ?_
    refine sr_bipush (v := (-9)) hA si_216_119 (by decide) ?_
    refine sr_icmp_eq (tgt := 131) hA si_216_121 (by decide) (fun c2 => absurd c2 (sp_nm9 (by omega))) (fun c2 => ?_)
    refine sr_iload hA si_216_124 rfl ?_
    refine sr_iload hA si_216_126 rfl ?_
    refine sr_icmp_geN (tgt := 139) hA si_216_128 (by decide) (by omega) (by omega) (fun c3 => ?_) (fun c3 => ?_)
    · refine sr_iincN (x := i) (y := 1) (ls1 := [.ref 64, .null, .null, .int (nI (sp_st p n)), .int (nI c), .int (nI l), .int (nI (i + 1)), .int (nI (sp_ct (fun j => p j && sp_sg i j) n)), .int (nI (sp_wv p n i))]) hA si_216_139 rfl rfl (by rw [sq_l_216]; decide) rfl ?_
      refine sr_goto (tgt := 44) hA si_216_142 (by decide) ?_
      refine sr_fg (ls1 := [.ref 64, .null, .null, .int (nI (sp_st p n)), .int (nI c), .int (nI l), .int (nI (i + 1)), .null, .null]) ⟨Or.inr rfl, Or.inl rfl, Or.inl rfl, Or.inr rfl, Or.inr rfl, Or.inr rfl, Or.inr rfl, Or.inl rfl, Or.inl rfl, trivial⟩ ?_
      exact ih (i + 1) c l (by omega) (by omega) (sp_am0 (i := i) h1_ h2_ (by omega))
    · refine sr_iload hA si_216_131 rfl ?_
      refine sr_istore (ls1 := [.ref 64, .null, .null, .int (nI (sp_st p n)), .int (nI i), .int (nI l), .int (nI i), .int (nI (sp_ct (fun j => p j && sp_sg i j) n)), .int (nI (sp_wv p n i))]) hA si_216_133 (by rw [sq_l_216]; decide) rfl ?_
      refine sr_iload hA si_216_135 rfl ?_
      refine sr_istore (ls1 := [.ref 64, .null, .null, .int (nI (sp_st p n)), .int (nI i), .int (nI (sp_wv p n i)), .int (nI i), .int (nI (sp_ct (fun j => p j && sp_sg i j) n)), .int (nI (sp_wv p n i))]) hA si_216_137 (by rw [sq_l_216]; decide) rfl ?_
      refine sr_iincN (x := i) (y := 1) (ls1 := [.ref 64, .null, .null, .int (nI (sp_st p n)), .int (nI i), .int (nI (sp_wv p n i)), .int (nI (i + 1)), .int (nI (sp_ct (fun j => p j && sp_sg i j) n)), .int (nI (sp_wv p n i))]) hA si_216_139 rfl rfl (by rw [sq_l_216]; decide) rfl ?_
      refine sr_goto (tgt := 44) hA si_216_142 (by decide) ?_
      refine sr_fg (ls1 := [.ref 64, .null, .null, .int (nI (sp_st p n)), .int (nI i), .int (nI (sp_wv p n i)), .int (nI (i + 1)), .null, .null]) ⟨Or.inr rfl, Or.inl rfl, Or.inl rfl, Or.inr rfl, Or.inr rfl, Or.inr rfl, Or.inr rfl, Or.inl rfl, Or.inl rfl, trivial⟩ ?_
      exact ih (i + 1) _ _ (by omega) (by omega) (sp_am1 (i := i) h1_ h2_ (by omega))
set_option maxRecDepth 20000 in
theorem mc_strike_n (X : sp_X) (g : sp_G) {r : Nat} (hr : r < 6) {z n : Nat} {p : Nat → Bool} (hz : g.1 66 r = nI z) (hzb : z ≤ 40) (hn : g.1 64 11 = nI n) (hb : n ≤ 6) (hev : z % 2 = 0) (hg : ∀ i, i < z → sp_eg (fun i => g.1 67 (40 * r + i)) n i) (hpe : p = (sp_pj (fun i => g.1 67 (40 * r + i)) (z / 2))) (h0 : sp_st p n = 0) : sp_Ct X 9 216 [.ref 64, .int (nI r)] g (sp_Fi (-9) g) := by
  have hs6 := sp_st_64 p hb
  refine sp_walkN (n := 9) sq_p_216 sq_l_216 (Nat.le_of_ble_eq_true rfl) (fun a hA => ?_)
  show sp_Ev X a 216 0 [.ref 64, .int (nI r), .null, .null, .null, .null, .null, .null, .null] [] g
  refine sr_iload_n hA si_216_0 rfl ?_
  refine sr_SFi (as := [.int (nI r)]) (st := []) hA si_216_1 ss_140 sk_216_93 (mc_isRow1 X g (by omega)) (by omega) rfl rfl (Nat.le_of_ble_eq_true rfl) ?_
  refine sr_if_neN (tgt := 9) hA si_216_4 (by decide) (by omega) (fun c1 => ?_) (fun c1 => absurd c1 (by omega))
  refine sr_aload_n hA si_216_9 rfl ?_
  refine sr_iload_n hA si_216_10 rfl ?_
  refine sr_VFi (c := 64) (ci := 8) (as := [.int (nI r)]) (st := []) hA si_216_11 sv_213 sk_216_265 (mc_np2_0 X g hr hz hzb hn hb hev hg) (by omega) rfl (by decide) (by decide) rfl sq_c_213 rfl (Nat.le_of_ble_eq_true rfl) ?_
  refine sr_istore_n (ls1 := [.ref 64, .int (nI r), .int (nI 0), .null, .null, .null, .null, .null, .null]) hA si_216_14 rfl (by rw [sq_l_216]; decide) rfl ?_
  refine sr_iload_n hA si_216_15 rfl ?_
  refine sr_if_geN (tgt := 21) hA si_216_16 (by decide) (by omega) ?_
  refine sr_aload_n hA si_216_21 rfl ?_
  refine sr_iload_n hA si_216_22 rfl ?_
  refine sr_VFi (c := 64) (ci := 8) (as := [.int (nI r)]) (st := []) hA si_216_23 sv_214 sk_216_268 (show sp_Ct X 3 214 [.ref 64, .int (nI r)] g (sp_Fi (nI (sp_st p n)) g) from by rw [hpe]; exact mc_us X g hr hz hzb hn hb hev hg) (by omega) rfl (by decide) (by decide) rfl sq_c_214 rfl (Nat.le_of_ble_eq_true rfl) ?_
  refine sr_istore_n (ls1 := [.ref 64, .int (nI r), .int (nI 0), .int (nI (sp_st p n)), .null, .null, .null, .null, .null]) hA si_216_26 rfl (by rw [sq_l_216]; decide) rfl ?_
  refine sr_iload_n hA si_216_27 rfl ?_
  refine sr_if_neN (tgt := 34) hA si_216_28 (by decide) (by omega) (fun c3 => absurd c3 (by omega)) (fun c3 => ?_)
  refine sr_bipush (v := (-9)) hA si_216_31 (by decide) ?_
  exact sr_iretF hA si_216_33 sq_r_216 rfl rfl
set_option maxRecDepth 20000 in
theorem mc_strike_e (X : sp_X) (g : sp_G) {r : Nat} (hr : r < 6) {z n : Nat} {p : Nat → Bool} (hz : g.1 66 r = nI z) (hzb : z ≤ 40) (hn : g.1 64 11 = nI n) (hb : n ≤ 6) (hev : z % 2 = 0) (hg : ∀ i, i < z → sp_eg (fun i => g.1 67 (40 * r + i)) n i) (hpe : p = (sp_pj (fun i => g.1 67 (40 * r + i)) (z / 2))) (h0 : sp_st p n ≠ 0) : sp_Ct X 9 216 [.ref 64, .int (nI r)] g (sp_Fi (nI (sp_am (sp_wv p n) (n - 1)).1) (sp_wI g 64 2 (nI (sp_am (sp_wv p n) (n - 1)).2))) := by
  have hn0 := sp_st_0 h0
  have hc1 := sp_ct_le (fun j => p j && sp_sg 0 j) n
  have hc3 := sp_ct_split p (fun j => sp_sg 0 j) n
  have hc4 := sp_ct_le p n
  have hw3 : max (sp_ct (fun j => p j && sp_sg 0 j) n) (sp_ct p n - sp_ct (fun j => p j && sp_sg 0 j) n) = sp_wv p n 0 := by
    unfold sp_wv
    rw [show sp_ct p n - sp_ct (fun j => p j && sp_sg 0 j) n = sp_ct (fun j => p j && !(sp_sg 0 j)) n by omega]
  have hw2 := sp_wv_le p n 0
  have hs6 := sp_st_64 p hb
  refine sp_walkN (n := 9) sq_p_216 sq_l_216 (Nat.le_of_ble_eq_true rfl) (fun ac hA => ?_)
  show sp_Ev X ac 216 0 [.ref 64, .int (nI r), .null, .null, .null, .null, .null, .null, .null] [] g
  refine sr_iload_n hA si_216_0 rfl ?_
  refine sr_SFi (as := [.int (nI r)]) (st := []) hA si_216_1 ss_140 sk_216_93 (mc_isRow1 X g (by omega)) (by omega) rfl rfl (Nat.le_of_ble_eq_true rfl) ?_
  refine sr_if_neN (tgt := 9) hA si_216_4 (by decide) (by omega) (fun c1 => ?_) (fun c1 => absurd c1 (by omega))
  refine sr_aload_n hA si_216_9 rfl ?_
  refine sr_iload_n hA si_216_10 rfl ?_
  refine sr_VFi (c := 64) (ci := 8) (as := [.int (nI r)]) (st := []) hA si_216_11 sv_213 sk_216_265 (mc_np2_0 X g hr hz hzb hn hb hev hg) (by omega) rfl (by decide) (by decide) rfl sq_c_213 rfl (Nat.le_of_ble_eq_true rfl) ?_
  refine sr_istore_n (ls1 := [.ref 64, .int (nI r), .int (nI 0), .null, .null, .null, .null, .null, .null]) hA si_216_14 rfl (by rw [sq_l_216]; decide) rfl ?_
  refine sr_iload_n hA si_216_15 rfl ?_
  refine sr_if_geN (tgt := 21) hA si_216_16 (by decide) (by omega) ?_
  refine sr_aload_n hA si_216_21 rfl ?_
  refine sr_iload_n hA si_216_22 rfl ?_
  refine sr_VFi (c := 64) (ci := 8) (as := [.int (nI r)]) (st := []) hA si_216_23 sv_214 sk_216_268 (show sp_Ct X 3 214 [.ref 64, .int (nI r)] g (sp_Fi (nI (sp_st p n)) g) from by rw [hpe]; exact mc_us X g hr hz hzb hn hb hev hg) (by omega) rfl (by decide) (by decide) rfl sq_c_214 rfl (Nat.le_of_ble_eq_true rfl) ?_
  refine sr_istore_n (ls1 := [.ref 64, .int (nI r), .int (nI 0), .int (nI (sp_st p n)), .null, .null, .null, .null, .null]) hA si_216_26 rfl (by rw [sq_l_216]; decide) rfl ?_
  refine sr_iload_n hA si_216_27 rfl ?_
  refine sr_if_neN (tgt := 34) hA si_216_28 (by decide) (by omega) (fun c3 => ?_) (fun c3 => absurd c3 (by omega))
  refine sr_bipush (v := (-9)) hA si_216_34 (by decide) ?_
  refine sr_istore (ls1 := [.ref 64, .int (nI r), .int (nI 0), .int (nI (sp_st p n)), .int (-9), .null, .null, .null, .null]) hA si_216_36 (by rw [sq_l_216]; decide) rfl ?_
  refine sr_iconst (v := nI 0) hA si_216_38 (by decide) ?_
  refine sr_istore (ls1 := [.ref 64, .int (nI r), .int (nI 0), .int (nI (sp_st p n)), .int (-9), .int (nI 0), .null, .null, .null]) hA si_216_39 (by rw [sq_l_216]; decide) rfl ?_
  refine sr_iconst (v := nI 0) hA si_216_41 (by decide) ?_
  refine sr_istore (ls1 := [.ref 64, .int (nI r), .int (nI 0), .int (nI (sp_st p n)), .int (-9), .int (nI 0), .int (nI 0), .null, .null]) hA si_216_42 (by rw [sq_l_216]; decide) rfl ?_
  skip
  refine sr_iload hA si_216_44 rfl ?_
  refine sr_aload_n hA si_216_46 rfl ?_
  refine sr_getIv (v := nI n) hA si_216_47 sf_216_142 (by decide) (by decide) rfl (by decide) hn ?_
  refine sr_icmp_geN (tgt := 145) hA si_216_50 (by decide) (by omega) (by omega) (fun c4 => absurd c4 (by omega)) (fun c4 => ?_)
  refine sr_iconst (v := nI 0) hA si_216_53 (by decide) ?_
  refine sr_istore (ls1 := [.ref 64, .int (nI r), .int (nI 0), .int (nI (sp_st p n)), .int (-9), .int (nI 0), .int (nI 0), .int (nI 0), .null]) hA si_216_54 (by rw [sq_l_216]; decide) rfl ?_
  refine sr_iconst (v := nI 0) hA si_216_56 (by decide) ?_
  refine sr_istore (ls1 := [.ref 64, .int (nI r), .int (nI 0), .int (nI (sp_st p n)), .int (-9), .int (nI 0), .int (nI 0), .int (nI 0), .int (nI 0)]) hA si_216_57 (by rw [sq_l_216]; decide) rfl ?_
  refine sr_fg (ls1 := [.ref 64, .null, .null, .int (nI (sp_st p n)), .int (-9), .int (nI 0), .int (nI 0), .int (nI 0), .int (nI 0)]) ⟨Or.inr rfl, Or.inl rfl, Or.inl rfl, Or.inr rfl, Or.inr rfl, Or.inr rfl, Or.inr rfl, Or.inr rfl, Or.inr rfl, trivial⟩ ?_
  refine ml_stI (i := 0) hn hb (by omega) (by omega) ?_ hA n 0 0 (by omega) rfl
  refine sr_iload hA si_216_103 rfl ?_
  refine sr_iload_n hA si_216_105 rfl ?_
  refine sr_SFi (as := [.int (nI (sp_st p n))]) (st := [.int (nI (sp_ct (fun j => p j && sp_sg 0 j) n))]) hA si_216_106 ss_171 sk_216_186 (show sp_Ct X 0 171 [.int (nI (sp_st p n))] g (sp_Fi (nI (sp_ct p n)) g) from by rw [← sp_pc_ct _ hb]; exact mc_bits X g (sp_st_64 _ hb)) (by omega) rfl rfl (Nat.le_of_ble_eq_true rfl) ?_
  refine sr_iload hA si_216_109 rfl ?_
  refine sr_isubN hA si_216_111 (by omega) ?_
  refine sr_SFi (as := [.int (nI (sp_ct (fun j => p j && sp_sg 0 j) n)), .int (nI ((sp_ct p n) - (sp_ct (fun j => p j && sp_sg 0 j) n)))]) (st := []) hA si_216_112 ss_168 sk_216_180 (show sp_Ct X 0 168 [.int (nI (sp_ct (fun j => p j && sp_sg 0 j) n)), .int (nI ((sp_ct p n) - (sp_ct (fun j => p j && sp_sg 0 j) n)))] g (sp_Fi (nI (sp_wv p n 0)) g) from by have h := mc_greater X g (nI (sp_ct (fun j => p j && sp_sg 0 j) n)) (nI ((sp_ct p n) - (sp_ct (fun j => p j && sp_sg 0 j) n))); rw [sp_grE (by omega) (by omega), hw3] at h; exact h) (by omega) rfl rfl (Nat.le_of_ble_eq_true rfl) ?_
  refine sr_istore (ls1 := [.ref 64, .null, .null, .int (nI (sp_st p n)), .int (-9), .int (nI 0), .int (nI 0), .int (nI (sp_ct (fun j => p j && sp_sg 0 j) n)), .int (nI (sp_wv p n 0))]) hA si_216_115 (by rw [sq_l_216]; decide) rfl ?_
  refine sr_iload hA si_216_117 rfl ?_
  refine sr_bipush (v := (-9)) hA si_216_119 (by decide) ?_
  refine sr_icmp_eq (tgt := 131) hA si_216_121 (by decide) (fun c5 => ?_) (fun c5 => absurd rfl c5)
  refine sr_iload hA si_216_131 rfl ?_
  refine sr_istore (ls1 := [.ref 64, .null, .null, .int (nI (sp_st p n)), .int (nI 0), .int (nI 0), .int (nI 0), .int (nI (sp_ct (fun j => p j && sp_sg 0 j) n)), .int (nI (sp_wv p n 0))]) hA si_216_133 (by rw [sq_l_216]; decide) rfl ?_
  refine sr_iload hA si_216_135 rfl ?_
  refine sr_istore (ls1 := [.ref 64, .null, .null, .int (nI (sp_st p n)), .int (nI 0), .int (nI (sp_wv p n 0)), .int (nI 0), .int (nI (sp_ct (fun j => p j && sp_sg 0 j) n)), .int (nI (sp_wv p n 0))]) hA si_216_137 (by rw [sq_l_216]; decide) rfl ?_
  refine sr_iincN (x := 0) (y := 1) (ls1 := [.ref 64, .null, .null, .int (nI (sp_st p n)), .int (nI 0), .int (nI (sp_wv p n 0)), .int (nI 1), .int (nI (sp_ct (fun j => p j && sp_sg 0 j) n)), .int (nI (sp_wv p n 0))]) hA si_216_139 rfl rfl (by rw [sq_l_216]; decide) rfl ?_
  refine sr_goto (tgt := 44) hA si_216_142 (by decide) ?_
  refine sr_fg (ls1 := [.ref 64, .null, .null, .int (nI (sp_st p n)), .int (nI 0), .int (nI (sp_wv p n 0)), .int (nI 1), .null, .null]) ⟨Or.inr rfl, Or.inl rfl, Or.inl rfl, Or.inr rfl, Or.inr rfl, Or.inr rfl, Or.inr rfl, Or.inl rfl, Or.inl rfl, trivial⟩ ?_
  exact ml_strike hn hb hA (n - 1) 1 0 _ (by omega) (by omega) (by show (0, _) = _; rfl)
theorem pr_strike {X : sp_X} {g : sp_G} (h : sp_Rel g) (r : Int32) : sp_Pi X 110 216 [.int r] g := by
  obtain ⟨hF, hR, hT, n, dm, hK, hS, hP⟩ := id h
  obtain ⟨k1, k2, k3, k4⟩ := id hK
  rcases sp_cls r with hr | ⟨r, hrb, rfl⟩
  · exact sp_pF (xc_strike_a X g hr) (mc_strike_a X g hr) (by omega) (by omega) h
  by_cases hr : r < 6
  rotate_left
  · exact sp_pF (xc_strike_b X g (by omega) hrb) (mc_strike_b X g (by omega) hrb) (by omega) (by omega) h
  rcases sp_sgs h (n := n) hr with ⟨z1, z2⟩ | ⟨z, zb, z1, z2, hz | ⟨hz, ⟨p, p1, p2, p3, p4, p5⟩ | ⟨k5, k6⟩⟩⟩
  · exact sp_pF (xc_strike_r1 X g hr z1) (mc_strike_r1 X (sp_rx g 1) hr z2) (by omega) (by omega) (h.ref (by omega))
  · exact sp_pF (xc_strike_r5 X g hr z1 zb hz) (mc_strike_r5 X (sp_rx g 5) hr z2 zb hz) (by omega) (by omega) (h.ref (by omega))
  · exact sp_pF (xc_strike_r3 X g hr z1 zb k2 k1 hz p1 p2 p4) (mc_strike_r3 X (sp_rx g 3) hr z2 zb k3 k1 hz p1 p3 p5) (by omega) (by omega) (h.ref (by omega))
  by_cases h0 : sp_st (sp_pj (fun i => g.1 67 (40 * r + i)) (z / 2)) n = 0
  · exact sp_pF (xc_strike_n X g hr z1 zb k2 k1 hz k5 (sp_pjE h hr zb).symm h0) (mc_strike_n X g hr z2 zb k3 k1 hz k6 rfl h0) (by omega) (by omega) h
  · exact sp_pF (xc_strike_e X g hr z1 zb k2 k1 hz k5 (sp_pjE h hr zb).symm h0) (mc_strike_e X (sp_wI g 0 12 _) hr z2 zb k3 k1 hz k6 rfl h0) (by omega) (by omega) (h.told rfl)
