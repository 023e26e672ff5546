/-- a place of a song: keys at even places, 0 or 1 at odd ones -/
def sp_eg (f : Nat → Int32) (n i : Nat) : Prop := (i % 2 = 0 → ∃ a, a < n ∧ f i = nI a) ∧ (i % 2 = 1 → ∃ s, s < 2 ∧ f i = nI s)
theorem sp_bk_or (x : Int32) (n : Nat) : (∃ a, a < n ∧ x = nI a) ∨ sp_bk x n := by
  rcases sp_cls x with hx | ⟨e, he, ee⟩
  · exact Or.inr (Or.inl hx)
  · by_cases hen : e < n
    · exact Or.inl ⟨e, hen, ee⟩
    · exact Or.inr (Or.inr ⟨e, by omega, he, ee⟩)
theorem sp_eg_or (f : Nat → Int32) (n : Nat) : ∀ z, (∀ i, i < z → sp_eg f n i) ∨ ∃ p, p < z ∧ (∀ i, i < p → sp_eg f n i) ∧ ((p % 2 = 0 ∧ sp_bk (f p) n) ∨ (p % 2 = 1 ∧ sp_bk (f p) 2))
  | 0 => Or.inl (fun i hi => absurd hi (by omega))
  | z + 1 => by
    rcases sp_eg_or f n z with h | ⟨p, h1, h2, h3⟩
    · rcases Nat.mod_two_eq_zero_or_one z with hz | hz
      · rcases sp_bk_or (f z) n with ⟨a, a1, a2⟩ | hb
        · refine Or.inl (fun i hi => ?_)
          by_cases e : i = z
          · subst e; exact ⟨fun _ => ⟨a, a1, a2⟩, fun q => absurd q (by omega)⟩
          · exact h i (by omega)
        · exact Or.inr ⟨z, by omega, h, Or.inl ⟨hz, hb⟩⟩
      · rcases sp_bk_or (f z) 2 with ⟨a, a1, a2⟩ | hb
        · refine Or.inl (fun i hi => ?_)
          by_cases e : i = z
          · subst e; exact ⟨fun q => absurd q (by omega), fun _ => ⟨a, a1, a2⟩⟩
          · exact h i (by omega)
        · exact Or.inr ⟨z, by omega, h, Or.inr ⟨hz, hb⟩⟩
    · exact Or.inr ⟨p, by omega, h2, h3⟩
/-- a key sings over a place -/
def sp_sg (a j : Nat) : Bool := decide (a ≤ j + 1) && decide (j ≤ a + 1)
/-- a place against the first k notes of a song -/
def sp_pj (f : Nat → Int32) : Nat → Nat → Bool
  | 0, _ => true
  | k + 1, j => sp_pj f k j && (sp_sg (f (2 * k)).toNatClampNeg j == decide (f (2 * k + 1) = nI 1))
theorem sp_sgE : ∀ a, a < 6 → ∀ j, j < 6 → ((-1 : Int32) ≤ nI a - nI j ∧ nI a - nI j ≤ nI 1 ↔ sp_sg a j = true) := by decide +kernel
theorem sp_andE : ∀ s, s < 64 → ∀ t, t < 64 → nI s &&& nI t = nI (s &&& t) := by decide +kernel
theorem sp_andnE : ∀ s, s < 64 → ∀ t, t < 64 → nI s &&& (nI t ^^^ (-1)) = nI (s &&& (2 ^ 6 - (t + 1))) := by decide +kernel
theorem sp_allE : ∀ n, n ≤ 6 → nI 1 <<< (nI n &&& 31) - nI 1 = nI (2 ^ n - 1) := by decide +kernel
theorem sp_nearE : ∀ n, n ≤ 6 → ∀ a, a < n → (nI 7 <<< (nI a &&& 31) >>> (nI 1 &&& 31)) &&& nI (2 ^ n - 1) = nI (sp_st (sp_sg a) n) := by decide +kernel
theorem sp_st_all : ∀ n, sp_st (fun _ => true) n = 2 ^ n - 1
  | 0 => rfl
  | n + 1 => by
    show sp_st (fun _ => true) n + (if true = true then 2 ^ n else 0) = _
    rw [sp_st_all n, if_pos rfl, Nat.pow_succ]
    have := Nat.two_pow_pos n
    omega
theorem sp_st_tb (c : Nat → Bool) (n a : Nat) : (sp_st c n).testBit a = (decide (a < n) && c a) := by
  rw [Nat.testBit_eq_decide_div_mod_eq, sp_st_bit]
  by_cases h1 : a < n <;> by_cases h2 : c a = true <;> simp [h1, h2]
theorem sp_st_and (p q : Nat → Bool) (n : Nat) : sp_st p n &&& sp_st q n = sp_st (fun j => p j && q j) n := by
  apply Nat.eq_of_testBit_eq
  intro a
  rw [Nat.testBit_and, sp_st_tb, sp_st_tb, sp_st_tb]
  by_cases h : a < n <;> simp [h]
theorem sp_st_andn (p q : Nat → Bool) {n : Nat} (hn : n ≤ 6) : sp_st p n &&& (2 ^ 6 - (sp_st q n + 1)) = sp_st (fun j => p j && !(q j)) n := by
  apply Nat.eq_of_testBit_eq
  intro a
  rw [Nat.testBit_and, Nat.testBit_two_pow_sub_succ (sp_st_64 q hn), sp_st_tb, sp_st_tb, sp_st_tb]
  by_cases h : a < n
  · have h6 : a < 6 := by omega
    simp [h, h6]
  · simp [h]
set_option maxRecDepth 20000 in
theorem xc_all (X : sp_X) (g : sp_G) {n : Nat} (hn : g.1 18 3 = nI n) (hb : n ≤ 6) : sp_Ct X 0 108 [.ref 18] g (sp_Fi (nI (2 ^ n - 1)) g) := by
  refine sp_walkN (n := 1) sq_p_108 sq_l_108 (Nat.le_of_ble_eq_true rfl) (fun a hA => ?_)
  show sp_Ev X a 108 0 [.ref 18] [] g
  refine sr_iconst (v := nI 1) hA si_108_0 (by decide) ?_
  refine sr_aload_n hA si_108_1 rfl ?_
  refine sr_getIv (v := nI n) hA si_108_2 sf_108_21 (by decide) (by decide) rfl (by decide) hn ?_
  refine sr_ishl hA si_108_5 ?_
  refine sr_iconst (v := nI 1) hA si_108_6 (by decide) ?_
  refine sr_isub hA si_108_7 ?_
  exact sr_iretF hA si_108_8 sq_r_108 (sp_allE n hb) rfl
set_option maxRecDepth 20000 in
theorem xc_near (X : sp_X) (g : sp_G) {n a : Nat} (hn : g.1 18 3 = nI n) (hb : n ≤ 6) (ha : a < n) : sp_Ct X 1 109 [.ref 18, .int (nI a)] g (sp_Fi (nI (sp_st (sp_sg a) n)) g) := by
  refine sp_walkN (n := 2) sq_p_109 sq_l_109 (Nat.le_of_ble_eq_true rfl) (fun ac hA => ?_)
  show sp_Ev X ac 109 0 [.ref 18, .int (nI a)] [] g
  refine sr_bipush (v := nI 7) hA si_109_0 (by decide) ?_
  refine sr_iload_n hA si_109_2 rfl ?_
  refine sr_ishl hA si_109_3 ?_
  refine sr_iconst (v := nI 1) hA si_109_4 (by decide) ?_
  refine sr_ishr hA si_109_5 ?_
  refine sr_aload_n hA si_109_6 rfl ?_
  refine sr_VFi (c := 18) (ci := 0) (as := []) (st := [.int (((nI 7) <<< ((nI a) &&& 31)) >>> ((nI 1) &&& 31))]) hA si_109_7 sv_108 sk_109_44 (xc_all X g hn hb) (by omega) rfl (by decide) (by decide) rfl sq_c_108 rfl (Nat.le_of_ble_eq_true rfl) ?_
  refine sr_iand hA si_109_10 ?_
  exact sr_iretF hA si_109_11 sq_r_109 (sp_nearE n hb a ha) rfl
set_option maxRecDepth 20000 in
theorem xc_sw1 (X : sp_X) (g : sp_G) {r : Nat} (hr : r < 6) (hz : g.1 9 r = -1) : sp_Ct X 2 106 [.ref 0, .int (nI r)] g (sp_Fi (nI 1) g) := by
  refine sp_walkN (n := 5) sq_p_106 sq_l_106 (Nat.le_of_ble_eq_true rfl) (fun a hA => ?_)
  show sp_Ev X a 106 0 [.ref 0, .int (nI r), .null, .null, .null] [] g
  refine sr_aload_n hA si_106_0 rfl ?_
  refine sr_getR (r := 1) hA si_106_1 sf_106_14 (by decide) (by decide) rfl rfl rfl ?_
  refine sr_iload_n hA si_106_4 rfl ?_
  refine sr_VFi (c := 1) (ci := 5) (as := [.int (nI r)]) (st := []) hA si_106_5 sv_16 sk_106_99 (xc_thereR0 X g (by omega) hz) (by omega) rfl (by decide) (by decide) rfl sq_c_16 rfl (Nat.le_of_ble_eq_true rfl) ?_
  refine sr_if_neN (tgt := 13) hA si_106_8 (by decide) (by omega) (fun c1 => absurd c1 (by omega)) (fun c1 => ?_)
  refine sr_iconst (v := nI 1) hA si_106_11 (by decide) ?_
  exact sr_iretF hA si_106_12 sq_r_106 rfl rfl
set_option maxRecDepth 20000 in
theorem xc_sw5 (X : sp_X) (g : sp_G) {r z : Nat} (hr : r < 6) (hz : g.1 9 r = nI z) (hzb : z ≤ 40) (hev : z % 2 = 1) : sp_Ct X 2 106 [.ref 0, .int (nI r)] g (sp_Fi (nI 5) g) := by
  refine sp_walkN (n := 5) sq_p_106 sq_l_106 (Nat.le_of_ble_eq_true rfl) (fun a hA => ?_)
  show sp_Ev X a 106 0 [.ref 0, .int (nI r), .null, .null, .null] [] g
  refine sr_aload_n hA si_106_0 rfl ?_
  refine sr_getR (r := 1) hA si_106_1 sf_106_14 (by decide) (by decide) rfl rfl rfl ?_
  refine sr_iload_n hA si_106_4 rfl ?_
  refine sr_VFi (c := 1) (ci := 5) (as := [.int (nI r)]) (st := []) hA si_106_5 sv_16 sk_106_99 (xc_thereR1 X g (by omega) hz (by omega)) (by omega) rfl (by decide) (by decide) rfl sq_c_16 rfl (Nat.le_of_ble_eq_true rfl) ?_
  refine sr_if_neN (tgt := 13) hA si_106_8 (by decide) (by omega) (fun c1 => ?_) (fun c1 => absurd c1 (by omega))
  refine sr_aload_n hA si_106_13 rfl ?_
  refine sr_getR (r := 1) hA si_106_14 sf_106_14 (by decide) (by decide) rfl rfl rfl ?_
  refine sr_iload_n hA si_106_17 rfl ?_
  refine sr_VFi (c := 1) (ci := 5) (as := [.int (nI r)]) (st := []) hA si_106_18 sv_26 sk_106_114 (xc_sizeR X g (z := nI z) (by omega) hz) (by omega) rfl (by decide) (by decide) rfl sq_c_26 rfl (Nat.le_of_ble_eq_true rfl) ?_
  refine sr_istore_n (ls1 := [.ref 0, .int (nI r), .int (nI z), .null, .null]) hA si_106_21 rfl (by rw [sq_l_106]; decide) rfl ?_
  refine sr_iload_n hA si_106_22 rfl ?_
  refine sr_iconst (v := nI 2) hA si_106_23 (by decide) ?_
  refine sr_iremN hA si_106_24 (by omega) (by omega) (by omega) ?_
  refine sr_if_eqN (tgt := 30) hA si_106_25 (by decide) (by omega) (fun c2 => absurd c2 (by omega)) (fun c2 => ?_)
  refine sr_iconst (v := nI 5) hA si_106_28 (by decide) ?_
  exact sr_iretF hA si_106_29 sq_r_106 rfl rfl
set_option maxRecDepth 20000 in
theorem xl_sw0 {X : sp_X} {ac : sp_Ac} {g : sp_G} {r z n : Nat} (hr : r < 6) (hz : g.1 9 r = nI z) (hzb : z ≤ 40) (hn : g.1 18 3 = nI n) (hb : n ≤ 6) (hev : z % 2 = 0) (hg : ∀ i, i < z → sp_eg (fun i => g.1 (3 + r) i) n i) (hA : sp_Act X 106 2 (sp_Fi (nI 0) g) ac) : ∀ (m : Nat) (i : Nat), i + 2 * m = z → sp_Ev X ac 106 32 [.ref 0, .int (nI r), .int (nI z), .int (nI i), .null] [] g := by
  intro m
  induction m with
  | zero =>
    intro i h0_
    refine sr_iload_n hA si_106_32 rfl ?_
    refine sr_iconst (v := nI 1) hA si_106_33 (by decide) ?_
    refine sr_iaddN hA si_106_34 ?_
    refine sr_iload_n hA si_106_35 rfl ?_
    refine sr_icmp_geN (tgt := 90) hA si_106_36 (by decide) (by omega) (by omega) (fun c1 => ?_) (fun c1 => absurd c1 (by omega))
    refine sr_iconst (v := nI 0) hA si_106_90 (by decide) ?_
    exact sr_iretF hA si_106_91 sq_r_106 rfl rfl
  | succ m ih =>
    intro i h0_
    obtain ⟨a, ha, ea⟩ := (hg i (by omega)).1 (by omega)
    obtain ⟨s, hs, es⟩ := (hg (i + 1) (by omega)).2 (by omega)
    refine sr_iload_n hA si_106_32 rfl ?_
    refine sr_iconst (v := nI 1) hA si_106_33 (by decide) ?_
    refine sr_iaddN hA si_106_34 ?_
    refine sr_iload_n hA si_106_35 rfl ?_
    refine sr_icmp_geN (tgt := 90) hA si_106_36 (by decide) (by omega) (by omega) (fun c1 => absurd c1 (by omega)) (fun c1 => ?_)
    refine sr_aload_n hA si_106_39 rfl ?_
    refine sr_getR (r := 1) hA si_106_40 sf_106_14 (by decide) (by decide) rfl rfl rfl ?_
    refine sr_iload_n hA si_106_43 rfl ?_
    refine sr_iload_n hA si_106_44 rfl ?_
    refine sr_iconst (v := nI 1) hA si_106_45 (by decide) ?_
    refine sr_iaddN hA si_106_46 ?_
    refine sr_VFi (c := 1) (ci := 5) (as := [.int (nI r), .int (nI (i + 1))]) (st := []) hA si_106_47 sv_18 sk_106_88 (xc_getR X g (v := nI s) (by omega) (by omega) es) (by omega) rfl (by decide) (by decide) rfl sq_c_18 rfl (Nat.le_of_ble_eq_true rfl) ?_
    refine sr_istore (ls1 := [.ref 0, .int (nI r), .int (nI z), .int (nI i), .int (nI s)]) hA si_106_50 (by rw [sq_l_106]; decide) rfl ?_
    refine sr_aload_n hA si_106_52 rfl ?_
    refine sr_getR (r := 18) hA si_106_53 sf_106_32 (by decide) (by decide) rfl rfl rfl ?_
    refine sr_aload_n hA si_106_56 rfl ?_
    refine sr_getR (r := 1) hA si_106_57 sf_106_14 (by decide) (by decide) rfl rfl rfl ?_
    refine sr_iload_n hA si_106_60 rfl ?_
    refine sr_iload_n hA si_106_61 rfl ?_
    refine sr_VFi (c := 1) (ci := 5) (as := [.int (nI r), .int (nI i)]) (st := [.ref 18]) hA si_106_62 sv_18 sk_106_88 (xc_getR X g (v := nI a) (by omega) (by omega) ea) (by omega) rfl (by decide) (by decide) rfl sq_c_18 rfl (Nat.le_of_ble_eq_true rfl) ?_
    refine sr_VFi (c := 18) (ci := 0) (as := [.int (nI a)]) (st := []) hA si_106_65 sv_43 sk_106_148 (xc_isKey1 X g (n := n) hn (by omega) (by omega)) (by omega) rfl (by decide) (by decide) rfl sq_c_43 rfl (Nat.le_of_ble_eq_true rfl) ?_
    refine sr_if_eqN (tgt := 82) hA si_106_68 (by decide) (by omega) (fun c2 => absurd c2 (by omega)) (fun c2 => ?_)
    refine sr_iload hA si_106_71 rfl ?_
    refine sr_if_ltN (tgt := 82) hA si_106_73 (by decide) (by omega) ?_
    refine sr_iload hA si_106_76 rfl ?_
    refine sr_iconst (v := nI 1) hA si_106_78 (by decide) ?_
    refine sr_icmp_leN (tgt := 84) hA si_106_79 (by decide) (by omega) (by omega) (fun c4 => ?_) (fun c4 => absurd c4 (by omega))
    refine sr_iincN (x := i) (y := 2) (ls1 := [.ref 0, .int (nI r), .int (nI z), .int (nI (i + 2)), .int (nI s)]) hA si_106_84 rfl rfl (by rw [sq_l_106]; decide) rfl ?_
    refine sr_goto (tgt := 32) hA si_106_87 (by decide) ?_
    refine sr_fg (ls1 := [.ref 0, .int (nI r), .int (nI z), .int (nI (i + 2)), .null]) ⟨Or.inr rfl, Or.inr rfl, Or.inr rfl, Or.inr rfl, Or.inl rfl, trivial⟩ ?_
    exact ih (i + 2) (by omega)
set_option maxRecDepth 20000 in
theorem xc_sw0 (X : sp_X) (g : sp_G) {r z n : Nat} (hr : r < 6) (hz : g.1 9 r = nI z) (hzb : z ≤ 40) (hn : g.1 18 3 = nI n) (hb : n ≤ 6) (hev : z % 2 = 0) (hg : ∀ i, i < z → sp_eg (fun i => g.1 (3 + r) i) n i) : sp_Ct X 2 106 [.ref 0, .int (nI r)] g (sp_Fi (nI 0) g) := by
  refine sp_walkN (n := 5) sq_p_106 sq_l_106 (Nat.le_of_ble_eq_true rfl) (fun a hA => ?_)
  show sp_Ev X a 106 0 [.ref 0, .int (nI r), .null, .null, .null] [] g
  refine sr_aload_n hA si_106_0 rfl ?_
  refine sr_getR (r := 1) hA si_106_1 sf_106_14 (by decide) (by decide) rfl rfl rfl ?_
  refine sr_iload_n hA si_106_4 rfl ?_
  refine sr_VFi (c := 1) (ci := 5) (as := [.int (nI r)]) (st := []) hA si_106_5 sv_16 sk_106_99 (xc_thereR1 X g (by omega) hz (by omega)) (by omega) rfl (by decide) (by decide) rfl sq_c_16 rfl (Nat.le_of_ble_eq_true rfl) ?_
  refine sr_if_neN (tgt := 13) hA si_106_8 (by decide) (by omega) (fun c1 => ?_) (fun c1 => absurd c1 (by omega))
  refine sr_aload_n hA si_106_13 rfl ?_
  refine sr_getR (r := 1) hA si_106_14 sf_106_14 (by decide) (by decide) rfl rfl rfl ?_
  refine sr_iload_n hA si_106_17 rfl ?_
  refine sr_VFi (c := 1) (ci := 5) (as := [.int (nI r)]) (st := []) hA si_106_18 sv_26 sk_106_114 (xc_sizeR X g (z := nI z) (by omega) hz) (by omega) rfl (by decide) (by decide) rfl sq_c_26 rfl (Nat.le_of_ble_eq_true rfl) ?_
  refine sr_istore_n (ls1 := [.ref 0, .int (nI r), .int (nI z), .null, .null]) hA si_106_21 rfl (by rw [sq_l_106]; decide) rfl ?_
  refine sr_iload_n hA si_106_22 rfl ?_
  refine sr_iconst (v := nI 2) hA si_106_23 (by decide) ?_
  refine sr_iremN hA si_106_24 (by omega) (by omega) (by omega) ?_
  refine sr_if_eqN (tgt := 30) hA si_106_25 (by decide) (by omega) (fun c2 => ?_) (fun c2 => absurd c2 (by omega))
  refine sr_iconst (v := nI 0) hA si_106_30 (by decide) ?_
  refine sr_istore_n (ls1 := [.ref 0, .int (nI r), .int (nI z), .int (nI 0), .null]) hA si_106_31 rfl (by rw [sq_l_106]; decide) rfl ?_
  exact xl_sw0 hr hz hzb hn hb hev hg hA (z / 2) 0 (by omega)
set_option maxRecDepth 20000 in
theorem xl_swKM {X : sp_X} {ac : sp_Ac} {g : sp_G} {r z n : Nat} (hr : r < 6) (hz : g.1 9 r = nI z) (hzb : z ≤ 40) (hn : g.1 18 3 = nI n) (hb : n ≤ 6) (hev : z % 2 = 0) {b : Nat} (hb2 : b % 2 = 0) (hbz : b + 1 < z) (hg : ∀ i, i < b → sp_eg (fun i => g.1 (3 + r) i) n i) {x : Int32} (hx : x < 0) (ex : g.1 (3 + r) b = x) (hA : sp_Act X 106 2 (sp_Fi (nI 3) g) ac) : ∀ (m : Nat) (i : Nat), i + 2 * m = b → sp_Ev X ac 106 32 [.ref 0, .int (nI r), .int (nI z), .int (nI i), .null] [] g := by
  intro m
  induction m with
  | zero =>
    intro i h0_
    refine sr_iload_n hA si_106_32 rfl ?_
    refine sr_iconst (v := nI 1) hA si_106_33 (by decide) ?_
    refine sr_iaddN hA si_106_34 ?_
    refine sr_iload_n hA si_106_35 rfl ?_
    refine sr_icmp_geN (tgt := 90) hA si_106_36 (by decide) (by omega) (by omega) (fun c1 => absurd c1 (by omega)) (fun c1 => ?_)
    refine sr_aload_n hA si_106_39 rfl ?_
    refine sr_getR (r := 1) hA si_106_40 sf_106_14 (by decide) (by decide) rfl rfl rfl ?_
    refine sr_iload_n hA si_106_43 rfl ?_
    refine sr_iload_n hA si_106_44 rfl ?_
    refine sr_iconst (v := nI 1) hA si_106_45 (by decide) ?_
    refine sr_iaddN hA si_106_46 ?_
    refine sr_VFi (c := 1) (ci := 5) (as := [.int (nI r), .int (nI (i + 1))]) (st := []) hA si_106_47 sv_18 sk_106_88 (xc_getR X g (v := g.1 (3 + r) (i + 1)) (by omega) (by omega) rfl) (by omega) rfl (by decide) (by decide) rfl sq_c_18 rfl (Nat.le_of_ble_eq_true rfl) ?_
    refine sr_istore (ls1 := [.ref 0, .int (nI r), .int (nI z), .int (nI i), .int (g.1 (3 + r) (i + 1))]) hA si_106_50 (by rw [sq_l_106]; decide) rfl ?_
    refine sr_aload_n hA si_106_52 rfl ?_
    refine sr_getR (r := 18) hA si_106_53 sf_106_32 (by decide) (by decide) rfl rfl rfl ?_
    refine sr_aload_n hA si_106_56 rfl ?_
    refine sr_getR (r := 1) hA si_106_57 sf_106_14 (by decide) (by decide) rfl rfl rfl ?_
    refine sr_iload_n hA si_106_60 rfl ?_
    refine sr_iload_n hA si_106_61 rfl ?_
    refine sr_VFi (c := 1) (ci := 5) (as := [.int (nI r), .int (nI i)]) (st := [.ref 18]) hA si_106_62 sv_18 sk_106_88 (xc_getR X g (v := x) (by omega) (by omega) (by rw [show i = b by omega]; exact ex)) (by omega) rfl (by decide) (by decide) rfl sq_c_18 rfl (Nat.le_of_ble_eq_true rfl) ?_
    refine sr_VFi (c := 18) (ci := 0) (as := [.int x]) (st := []) hA si_106_65 sv_43 sk_106_148 (xc_isKeyM X g hx) (by omega) rfl (by decide) (by decide) rfl sq_c_43 rfl (Nat.le_of_ble_eq_true rfl) ?_
    refine sr_if_eqN (tgt := 82) hA si_106_68 (by decide) (by omega) (fun c2 => ?_) (fun c2 => absurd c2 (by omega))
    refine sr_iconst (v := nI 3) hA si_106_82 (by decide) ?_
    exact sr_iretF hA si_106_83 sq_r_106 rfl rfl
  | succ m ih =>
    intro i h0_
    obtain ⟨a2, ha2, ea2⟩ := (hg i (by omega)).1 (by omega)
    obtain ⟨s, hs, es⟩ := (hg (i + 1) (by omega)).2 (by omega)
    refine sr_iload_n hA si_106_32 rfl ?_
    refine sr_iconst (v := nI 1) hA si_106_33 (by decide) ?_
    refine sr_iaddN hA si_106_34 ?_
    refine sr_iload_n hA si_106_35 rfl ?_
    refine sr_icmp_geN (tgt := 90) hA si_106_36 (by decide) (by omega) (by omega) (fun c1 => absurd c1 (by omega)) (fun c1 => ?_)
    refine sr_aload_n hA si_106_39 rfl ?_
    refine sr_getR (r := 1) hA si_106_40 sf_106_14 (by decide) (by decide) rfl rfl rfl ?_
    refine sr_iload_n hA si_106_43 rfl ?_
    refine sr_iload_n hA si_106_44 rfl ?_
    refine sr_iconst (v := nI 1) hA si_106_45 (by decide) ?_
    refine sr_iaddN hA si_106_46 ?_
    refine sr_VFi (c := 1) (ci := 5) (as := [.int (nI r), .int (nI (i + 1))]) (st := []) hA si_106_47 sv_18 sk_106_88 (xc_getR X g (v := nI s) (by omega) (by omega) es) (by omega) rfl (by decide) (by decide) rfl sq_c_18 rfl (Nat.le_of_ble_eq_true rfl) ?_
    refine sr_istore (ls1 := [.ref 0, .int (nI r), .int (nI z), .int (nI i), .int (nI s)]) hA si_106_50 (by rw [sq_l_106]; decide) rfl ?_
    refine sr_aload_n hA si_106_52 rfl ?_
    refine sr_getR (r := 18) hA si_106_53 sf_106_32 (by decide) (by decide) rfl rfl rfl ?_
    refine sr_aload_n hA si_106_56 rfl ?_
    refine sr_getR (r := 1) hA si_106_57 sf_106_14 (by decide) (by decide) rfl rfl rfl ?_
    refine sr_iload_n hA si_106_60 rfl ?_
    refine sr_iload_n hA si_106_61 rfl ?_
    refine sr_VFi (c := 1) (ci := 5) (as := [.int (nI r), .int (nI i)]) (st := [.ref 18]) hA si_106_62 sv_18 sk_106_88 (xc_getR X g (v := nI a2) (by omega) (by omega) ea2) (by omega) rfl (by decide) (by decide) rfl sq_c_18 rfl (Nat.le_of_ble_eq_true rfl) ?_
    refine sr_VFi (c := 18) (ci := 0) (as := [.int (nI a2)]) (st := []) hA si_106_65 sv_43 sk_106_148 (xc_isKey1 X g (n := n) hn (by omega) (by omega)) (by omega) rfl (by decide) (by decide) rfl sq_c_43 rfl (Nat.le_of_ble_eq_true rfl) ?_
    refine sr_if_eqN (tgt := 82) hA si_106_68 (by decide) (by omega) (fun c2 => absurd c2 (by omega)) (fun c2 => ?_)
    refine sr_iload hA si_106_71 rfl ?_
    refine sr_if_ltN (tgt := 82) hA si_106_73 (by decide) (by omega) ?_
    refine sr_iload hA si_106_76 rfl ?_
    refine sr_iconst (v := nI 1) hA si_106_78 (by decide) ?_
    refine sr_icmp_leN (tgt := 84) hA si_106_79 (by decide) (by omega) (by omega) (fun c4 => ?_) (fun c4 => absurd c4 (by omega))
    refine sr_iincN (x := i) (y := 2) (ls1 := [.ref 0, .int (nI r), .int (nI z), .int (nI (i + 2)), .int (nI s)]) hA si_106_84 rfl rfl (by rw [sq_l_106]; decide) rfl ?_
    refine sr_goto (tgt := 32) hA si_106_87 (by decide) ?_
    refine sr_fg (ls1 := [.ref 0, .int (nI r), .int (nI z), .int (nI (i + 2)), .null]) ⟨Or.inr rfl, Or.inr rfl, Or.inr rfl, Or.inr rfl, Or.inl rfl, trivial⟩ ?_
    exact ih (i + 2) (by omega)
set_option maxRecDepth 20000 in
theorem xc_swKM (X : sp_X) (g : sp_G) {r z n : Nat} (hr : r < 6) (hz : g.1 9 r = nI z) (hzb : z ≤ 40) (hn : g.1 18 3 = nI n) (hb : n ≤ 6) (hev : z % 2 = 0) {b : Nat} (hb2 : b % 2 = 0) (hbz : b + 1 < z) (hg : ∀ i, i < b → sp_eg (fun i => g.1 (3 + r) i) n i) {x : Int32} (hx : x < 0) (ex : g.1 (3 + r) b = x) : sp_Ct X 2 106 [.ref 0, .int (nI r)] g (sp_Fi (nI 3) g) := by
  refine sp_walkN (n := 5) sq_p_106 sq_l_106 (Nat.le_of_ble_eq_true rfl) (fun ac hA => ?_)
  show sp_Ev X ac 106 0 [.ref 0, .int (nI r), .null, .null, .null] [] g
  refine sr_aload_n hA si_106_0 rfl ?_
  refine sr_getR (r := 1) hA si_106_1 sf_106_14 (by decide) (by decide) rfl rfl rfl ?_
  refine sr_iload_n hA si_106_4 rfl ?_
  refine sr_VFi (c := 1) (ci := 5) (as := [.int (nI r)]) (st := []) hA si_106_5 sv_16 sk_106_99 (xc_thereR1 X g (by omega) hz (by omega)) (by omega) rfl (by decide) (by decide) rfl sq_c_16 rfl (Nat.le_of_ble_eq_true rfl) ?_
  refine sr_if_neN (tgt := 13) hA si_106_8 (by decide) (by omega) (fun c1 => ?_) (fun c1 => absurd c1 (by omega))
  refine sr_aload_n hA si_106_13 rfl ?_
  refine sr_getR (r := 1) hA si_106_14 sf_106_14 (by decide) (by decide) rfl rfl rfl ?_
  refine sr_iload_n hA si_106_17 rfl ?_
  refine sr_VFi (c := 1) (ci := 5) (as := [.int (nI r)]) (st := []) hA si_106_18 sv_26 sk_106_114 (xc_sizeR X g (z := nI z) (by omega) hz) (by omega) rfl (by decide) (by decide) rfl sq_c_26 rfl (Nat.le_of_ble_eq_true rfl) ?_
  refine sr_istore_n (ls1 := [.ref 0, .int (nI r), .int (nI z), .null, .null]) hA si_106_21 rfl (by rw [sq_l_106]; decide) rfl ?_
  refine sr_iload_n hA si_106_22 rfl ?_
  refine sr_iconst (v := nI 2) hA si_106_23 (by decide) ?_
  refine sr_iremN hA si_106_24 (by omega) (by omega) (by omega) ?_
  refine sr_if_eqN (tgt := 30) hA si_106_25 (by decide) (by omega) (fun c2 => ?_) (fun c2 => absurd c2 (by omega))
  refine sr_iconst (v := nI 0) hA si_106_30 (by decide) ?_
  refine sr_istore_n (ls1 := [.ref 0, .int (nI r), .int (nI z), .int (nI 0), .null]) hA si_106_31 rfl (by rw [sq_l_106]; decide) rfl ?_
  exact xl_swKM hr hz hzb hn hb hev hb2 hbz hg hx ex hA (b / 2) 0 (by omega)
set_option maxRecDepth 20000 in
theorem xl_swKH {X : sp_X} {ac : sp_Ac} {g : sp_G} {r z n : Nat} (hr : r < 6) (hz : g.1 9 r = nI z) (hzb : z ≤ 40) (hn : g.1 18 3 = nI n) (hb : n ≤ 6) (hev : z % 2 = 0) {b : Nat} (hb2 : b % 2 = 0) (hbz : b + 1 < z) (hg : ∀ i, i < b → sp_eg (fun i => g.1 (3 + r) i) n i) {e : Nat} (hen : n ≤ e) (heb : e < 2 ^ 31) (ex : g.1 (3 + r) b = nI e) (hA : sp_Act X 106 2 (sp_Fi (nI 3) g) ac) : ∀ (m : Nat) (i : Nat), i + 2 * m = b → sp_Ev X ac 106 32 [.ref 0, .int (nI r), .int (nI z), .int (nI i), .null] [] g := by
  intro m
  induction m with
  | zero =>
    intro i h0_
    refine sr_iload_n hA si_106_32 rfl ?_
    refine sr_iconst (v := nI 1) hA si_106_33 (by decide) ?_
    refine sr_iaddN hA si_106_34 ?_
    refine sr_iload_n hA si_106_35 rfl ?_
    refine sr_icmp_geN (tgt := 90) hA si_106_36 (by decide) (by omega) (by omega) (fun c1 => absurd c1 (by omega)) (fun c1 => ?_)
    refine sr_aload_n hA si_106_39 rfl ?_
    refine sr_getR (r := 1) hA si_106_40 sf_106_14 (by decide) (by decide) rfl rfl rfl ?_
    refine sr_iload_n hA si_106_43 rfl ?_
    refine sr_iload_n hA si_106_44 rfl ?_
    refine sr_iconst (v := nI 1) hA si_106_45 (by decide) ?_
    refine sr_iaddN hA si_106_46 ?_
    refine sr_VFi (c := 1) (ci := 5) (as := [.int (nI r), .int (nI (i + 1))]) (st := []) hA si_106_47 sv_18 sk_106_88 (xc_getR X g (v := g.1 (3 + r) (i + 1)) (by omega) (by omega) rfl) (by omega) rfl (by decide) (by decide) rfl sq_c_18 rfl (Nat.le_of_ble_eq_true rfl) ?_
    refine sr_istore (ls1 := [.ref 0, .int (nI r), .int (nI z), .int (nI i), .int (g.1 (3 + r) (i + 1))]) hA si_106_50 (by rw [sq_l_106]; decide) rfl ?_
    refine sr_aload_n hA si_106_52 rfl ?_
    refine sr_getR (r := 18) hA si_106_53 sf_106_32 (by decide) (by decide) rfl rfl rfl ?_
    refine sr_aload_n hA si_106_56 rfl ?_
    refine sr_getR (r := 1) hA si_106_57 sf_106_14 (by decide) (by decide) rfl rfl rfl ?_
    refine sr_iload_n hA si_106_60 rfl ?_
    refine sr_iload_n hA si_106_61 rfl ?_
    refine sr_VFi (c := 1) (ci := 5) (as := [.int (nI r), .int (nI i)]) (st := [.ref 18]) hA si_106_62 sv_18 sk_106_88 (xc_getR X g (v := nI e) (by omega) (by omega) (by rw [show i = b by omega]; exact ex)) (by omega) rfl (by decide) (by decide) rfl sq_c_18 rfl (Nat.le_of_ble_eq_true rfl) ?_
    refine sr_VFi (c := 18) (ci := 0) (as := [.int (nI e)]) (st := []) hA si_106_65 sv_43 sk_106_148 (xc_isKeyH X g (n := n) hn (by omega) (by omega)) (by omega) rfl (by decide) (by decide) rfl sq_c_43 rfl (Nat.le_of_ble_eq_true rfl) ?_
    refine sr_if_eqN (tgt := 82) hA si_106_68 (by decide) (by omega) (fun c2 => ?_) (fun c2 => absurd c2 (by omega))
    refine sr_iconst (v := nI 3) hA si_106_82 (by decide) ?_
    exact sr_iretF hA si_106_83 sq_r_106 rfl rfl
  | succ m ih =>
    intro i h0_
    obtain ⟨a2, ha2, ea2⟩ := (hg i (by omega)).1 (by omega)
    obtain ⟨s, hs, es⟩ := (hg (i + 1) (by omega)).2 (by omega)
    refine sr_iload_n hA si_106_32 rfl ?_
    refine sr_iconst (v := nI 1) hA si_106_33 (by decide) ?_
    refine sr_iaddN hA si_106_34 ?_
    refine sr_iload_n hA si_106_35 rfl ?_
    refine sr_icmp_geN (tgt := 90) hA si_106_36 (by decide) (by omega) (by omega) (fun c1 => absurd c1 (by omega)) (fun c1 => ?_)
    refine sr_aload_n hA si_106_39 rfl ?_
    refine sr_getR (r := 1) hA si_106_40 sf_106_14 (by decide) (by decide) rfl rfl rfl ?_
    refine sr_iload_n hA si_106_43 rfl ?_
    refine sr_iload_n hA si_106_44 rfl ?_
    refine sr_iconst (v := nI 1) hA si_106_45 (by decide) ?_
    refine sr_iaddN hA si_106_46 ?_
    refine sr_VFi (c := 1) (ci := 5) (as := [.int (nI r), .int (nI (i + 1))]) (st := []) hA si_106_47 sv_18 sk_106_88 (xc_getR X g (v := nI s) (by omega) (by omega) es) (by omega) rfl (by decide) (by decide) rfl sq_c_18 rfl (Nat.le_of_ble_eq_true rfl) ?_
    refine sr_istore (ls1 := [.ref 0, .int (nI r), .int (nI z), .int (nI i), .int (nI s)]) hA si_106_50 (by rw [sq_l_106]; decide) rfl ?_
    refine sr_aload_n hA si_106_52 rfl ?_
    refine sr_getR (r := 18) hA si_106_53 sf_106_32 (by decide) (by decide) rfl rfl rfl ?_
    refine sr_aload_n hA si_106_56 rfl ?_
    refine sr_getR (r := 1) hA si_106_57 sf_106_14 (by decide) (by decide) rfl rfl rfl ?_
    refine sr_iload_n hA si_106_60 rfl ?_
    refine sr_iload_n hA si_106_61 rfl ?_
    refine sr_VFi (c := 1) (ci := 5) (as := [.int (nI r), .int (nI i)]) (st := [.ref 18]) hA si_106_62 sv_18 sk_106_88 (xc_getR X g (v := nI a2) (by omega) (by omega) ea2) (by omega) rfl (by decide) (by decide) rfl sq_c_18 rfl (Nat.le_of_ble_eq_true rfl) ?_
    refine sr_VFi (c := 18) (ci := 0) (as := [.int (nI a2)]) (st := []) hA si_106_65 sv_43 sk_106_148 (xc_isKey1 X g (n := n) hn (by omega) (by omega)) (by omega) rfl (by decide) (by decide) rfl sq_c_43 rfl (Nat.le_of_ble_eq_true rfl) ?_
    refine sr_if_eqN (tgt := 82) hA si_106_68 (by decide) (by omega) (fun c2 => absurd c2 (by omega)) (fun c2 => ?_)
    refine sr_iload hA si_106_71 rfl ?_
    refine sr_if_ltN (tgt := 82) hA si_106_73 (by decide) (by omega) ?_
    refine sr_iload hA si_106_76 rfl ?_
    refine sr_iconst (v := nI 1) hA si_106_78 (by decide) ?_
    refine sr_icmp_leN (tgt := 84) hA si_106_79 (by decide) (by omega) (by omega) (fun c4 => ?_) (fun c4 => absurd c4 (by omega))
    refine sr_iincN (x := i) (y := 2) (ls1 := [.ref 0, .int (nI r), .int (nI z), .int (nI (i + 2)), .int (nI s)]) hA si_106_84 rfl rfl (by rw [sq_l_106]; decide) rfl ?_
    refine sr_goto (tgt := 32) hA si_106_87 (by decide) ?_
    refine sr_fg (ls1 := [.ref 0, .int (nI r), .int (nI z), .int (nI (i + 2)), .null]) ⟨Or.inr rfl, Or.inr rfl, Or.inr rfl, Or.inr rfl, Or.inl rfl, trivial⟩ ?_
    exact ih (i + 2) (by omega)
set_option maxRecDepth 20000 in
theorem xc_swKH (X : sp_X) (g : sp_G) {r z n : Nat} (hr : r < 6) (hz : g.1 9 r = nI z) (hzb : z ≤ 40) (hn : g.1 18 3 = nI n) (hb : n ≤ 6) (hev : z % 2 = 0) {b : Nat} (hb2 : b % 2 = 0) (hbz : b + 1 < z) (hg : ∀ i, i < b → sp_eg (fun i => g.1 (3 + r) i) n i) {e : Nat} (hen : n ≤ e) (heb : e < 2 ^ 31) (ex : g.1 (3 + r) b = nI e) : sp_Ct X 2 106 [.ref 0, .int (nI r)] g (sp_Fi (nI 3) g) := by
  refine sp_walkN (n := 5) sq_p_106 sq_l_106 (Nat.le_of_ble_eq_true rfl) (fun ac hA => ?_)
  show sp_Ev X ac 106 0 [.ref 0, .int (nI r), .null, .null, .null] [] g
  refine sr_aload_n hA si_106_0 rfl ?_
  refine sr_getR (r := 1) hA si_106_1 sf_106_14 (by decide) (by decide) rfl rfl rfl ?_
  refine sr_iload_n hA si_106_4 rfl ?_
  refine sr_VFi (c := 1) (ci := 5) (as := [.int (nI r)]) (st := []) hA si_106_5 sv_16 sk_106_99 (xc_thereR1 X g (by omega) hz (by omega)) (by omega) rfl (by decide) (by decide) rfl sq_c_16 rfl (Nat.le_of_ble_eq_true rfl) ?_
  refine sr_if_neN (tgt := 13) hA si_106_8 (by decide) (by omega) (fun c1 => ?_) (fun c1 => absurd c1 (by omega))
  refine sr_aload_n hA si_106_13 rfl ?_
  refine sr_getR (r := 1) hA si_106_14 sf_106_14 (by decide) (by decide) rfl rfl rfl ?_
  refine sr_iload_n hA si_106_17 rfl ?_
  refine sr_VFi (c := 1) (ci := 5) (as := [.int (nI r)]) (st := []) hA si_106_18 sv_26 sk_106_114 (xc_sizeR X g (z := nI z) (by omega) hz) (by omega) rfl (by decide) (by decide) rfl sq_c_26 rfl (Nat.le_of_ble_eq_true rfl) ?_
  refine sr_istore_n (ls1 := [.ref 0, .int (nI r), .int (nI z), .null, .null]) hA si_106_21 rfl (by rw [sq_l_106]; decide) rfl ?_
  refine sr_iload_n hA si_106_22 rfl ?_
  refine sr_iconst (v := nI 2) hA si_106_23 (by decide) ?_
  refine sr_iremN hA si_106_24 (by omega) (by omega) (by omega) ?_
  refine sr_if_eqN (tgt := 30) hA si_106_25 (by decide) (by omega) (fun c2 => ?_) (fun c2 => absurd c2 (by omega))
  refine sr_iconst (v := nI 0) hA si_106_30 (by decide) ?_
  refine sr_istore_n (ls1 := [.ref 0, .int (nI r), .int (nI z), .int (nI 0), .null]) hA si_106_31 rfl (by rw [sq_l_106]; decide) rfl ?_
  exact xl_swKH hr hz hzb hn hb hev hb2 hbz hg hen heb ex hA (b / 2) 0 (by omega)
set_option maxRecDepth 20000 in
theorem xl_swSM {X : sp_X} {ac : sp_Ac} {g : sp_G} {r z n : Nat} (hr : r < 6) (hz : g.1 9 r = nI z) (hzb : z ≤ 40) (hn : g.1 18 3 = nI n) (hb : n ≤ 6) (hev : z % 2 = 0) {b : Nat} (hb2 : b % 2 = 0) (hbz : b + 1 < z) (hg : ∀ i, i < b → sp_eg (fun i => g.1 (3 + r) i) n i) {a : Nat} (ha : a < n) (ea : g.1 (3 + r) b = nI a) {x : Int32} (hx : x < 0) (ex : g.1 (3 + r) (b + 1) = x) (hA : sp_Act X 106 2 (sp_Fi (nI 3) g) ac) : ∀ (m : Nat) (i : Nat), i + 2 * m = b → sp_Ev X ac 106 32 [.ref 0, .int (nI r), .int (nI z), .int (nI i), .null] [] g := by
  intro m
  induction m with
  | zero =>
    intro i h0_
    refine sr_iload_n hA si_106_32 rfl ?_
    refine sr_iconst (v := nI 1) hA si_106_33 (by decide) ?_
    refine sr_iaddN hA si_106_34 ?_
    refine sr_iload_n hA si_106_35 rfl ?_
    refine sr_icmp_geN (tgt := 90) hA si_106_36 (by decide) (by omega) (by omega) (fun c1 => absurd c1 (by omega)) (fun c1 => ?_)
    refine sr_aload_n hA si_106_39 rfl ?_
    refine sr_getR (r := 1) hA si_106_40 sf_106_14 (by decide) (by decide) rfl rfl rfl ?_
    refine sr_iload_n hA si_106_43 rfl ?_
    refine sr_iload_n hA si_106_44 rfl ?_
    refine sr_iconst (v := nI 1) hA si_106_45 (by decide) ?_
    refine sr_iaddN hA si_106_46 ?_
    refine sr_VFi (c := 1) (ci := 5) (as := [.int (nI r), .int (nI (i + 1))]) (st := []) hA si_106_47 sv_18 sk_106_88 (xc_getR X g (v := x) (by omega) (by omega) (by rw [show i = b by omega]; exact ex)) (by omega) rfl (by decide) (by decide) rfl sq_c_18 rfl (Nat.le_of_ble_eq_true rfl) ?_
    refine sr_istore (ls1 := [.ref 0, .int (nI r), .int (nI z), .int (nI i), .int x]) hA si_106_50 (by rw [sq_l_106]; decide) rfl ?_
    refine sr_aload_n hA si_106_52 rfl ?_
    refine sr_getR (r := 18) hA si_106_53 sf_106_32 (by decide) (by decide) rfl rfl rfl ?_
    refine sr_aload_n hA si_106_56 rfl ?_
    refine sr_getR (r := 1) hA si_106_57 sf_106_14 (by decide) (by decide) rfl rfl rfl ?_
    refine sr_iload_n hA si_106_60 rfl ?_
    refine sr_iload_n hA si_106_61 rfl ?_
    refine sr_VFi (c := 1) (ci := 5) (as := [.int (nI r), .int (nI i)]) (st := [.ref 18]) hA si_106_62 sv_18 sk_106_88 (xc_getR X g (v := nI a) (by omega) (by omega) (by rw [show i = b by omega]; exact ea)) (by omega) rfl (by decide) (by decide) rfl sq_c_18 rfl (Nat.le_of_ble_eq_true rfl) ?_
    refine sr_VFi (c := 18) (ci := 0) (as := [.int (nI a)]) (st := []) hA si_106_65 sv_43 sk_106_148 (xc_isKey1 X g (n := n) hn (by omega) (by omega)) (by omega) rfl (by decide) (by decide) rfl sq_c_43 rfl (Nat.le_of_ble_eq_true rfl) ?_
    refine sr_if_eqN (tgt := 82) hA si_106_68 (by decide) (by omega) (fun c2 => absurd c2 (by omega)) (fun c2 => ?_)
    refine sr_iload hA si_106_71 rfl ?_
    refine sr_if_lt (tgt := 82) hA si_106_73 (by decide) (fun c3 => ?_) (fun c3 => absurd hx c3)
    refine sr_iconst (v := nI 3) hA si_106_82 (by decide) ?_
    exact sr_iretF hA si_106_83 sq_r_106 rfl rfl
  | succ m ih =>
    intro i h0_
    obtain ⟨a2, ha2, ea2⟩ := (hg i (by omega)).1 (by omega)
    obtain ⟨s, hs, es⟩ := (hg (i + 1) (by omega)).2 (by omega)
    refine sr_iload_n hA si_106_32 rfl ?_
    refine sr_iconst (v := nI 1) hA si_106_33 (by decide) ?_
    refine sr_iaddN hA si_106_34 ?_
    refine sr_iload_n hA si_106_35 rfl ?_
    refine sr_icmp_geN (tgt := 90) hA si_106_36 (by decide) (by omega) (by omega) (fun c1 => absurd c1 (by omega)) (fun c1 => ?_)
    refine sr_aload_n hA si_106_39 rfl ?_
    refine sr_getR (r := 1) hA si_106_40 sf_106_14 (by decide) (by decide) rfl rfl rfl ?_
    refine sr_iload_n hA si_106_43 rfl ?_
    refine sr_iload_n hA si_106_44 rfl ?_
    refine sr_iconst (v := nI 1) hA si_106_45 (by decide) ?_
    refine sr_iaddN hA si_106_46 ?_
    refine sr_VFi (c := 1) (ci := 5) (as := [.int (nI r), .int (nI (i + 1))]) (st := []) hA si_106_47 sv_18 sk_106_88 (xc_getR X g (v := nI s) (by omega) (by omega) es) (by omega) rfl (by decide) (by decide) rfl sq_c_18 rfl (Nat.le_of_ble_eq_true rfl) ?_
    refine sr_istore (ls1 := [.ref 0, .int (nI r), .int (nI z), .int (nI i), .int (nI s)]) hA si_106_50 (by rw [sq_l_106]; decide) rfl ?_
    refine sr_aload_n hA si_106_52 rfl ?_
    refine sr_getR (r := 18) hA si_106_53 sf_106_32 (by decide) (by decide) rfl rfl rfl ?_
    refine sr_aload_n hA si_106_56 rfl ?_
    refine sr_getR (r := 1) hA si_106_57 sf_106_14 (by decide) (by decide) rfl rfl rfl ?_
    refine sr_iload_n hA si_106_60 rfl ?_
    refine sr_iload_n hA si_106_61 rfl ?_
    refine sr_VFi (c := 1) (ci := 5) (as := [.int (nI r), .int (nI i)]) (st := [.ref 18]) hA si_106_62 sv_18 sk_106_88 (xc_getR X g (v := nI a2) (by omega) (by omega) ea2) (by omega) rfl (by decide) (by decide) rfl sq_c_18 rfl (Nat.le_of_ble_eq_true rfl) ?_
    refine sr_VFi (c := 18) (ci := 0) (as := [.int (nI a2)]) (st := []) hA si_106_65 sv_43 sk_106_148 (xc_isKey1 X g (n := n) hn (by omega) (by omega)) (by omega) rfl (by decide) (by decide) rfl sq_c_43 rfl (Nat.le_of_ble_eq_true rfl) ?_
    refine sr_if_eqN (tgt := 82) hA si_106_68 (by decide) (by omega) (fun c2 => absurd c2 (by omega)) (fun c2 => ?_)
    refine sr_iload hA si_106_71 rfl ?_
    refine sr_if_ltN (tgt := 82) hA si_106_73 (by decide) (by omega) ?_
    refine sr_iload hA si_106_76 rfl ?_
    refine sr_iconst (v := nI 1) hA si_106_78 (by decide) ?_
    refine sr_icmp_leN (tgt := 84) hA si_106_79 (by decide) (by omega) (by omega) (fun c4 => ?_) (fun c4 => absurd c4 (by omega))
    refine sr_iincN (x := i) (y := 2) (ls1 := [.ref 0, .int (nI r), .int (nI z), .int (nI (i + 2)), .int (nI s)]) hA si_106_84 rfl rfl (by rw [sq_l_106]; decide) rfl ?_
    refine sr_goto (tgt := 32) hA si_106_87 (by decide) ?_
    refine sr_fg (ls1 := [.ref 0, .int (nI r), .int (nI z), .int (nI (i + 2)), .null]) ⟨Or.inr rfl, Or.inr rfl, Or.inr rfl, Or.inr rfl, Or.inl rfl, trivial⟩ ?_
    exact ih (i + 2) (by omega)
set_option maxRecDepth 20000 in
theorem xc_swSM (X : sp_X) (g : sp_G) {r z n : Nat} (hr : r < 6) (hz : g.1 9 r = nI z) (hzb : z ≤ 40) (hn : g.1 18 3 = nI n) (hb : n ≤ 6) (hev : z % 2 = 0) {b : Nat} (hb2 : b % 2 = 0) (hbz : b + 1 < z) (hg : ∀ i, i < b → sp_eg (fun i => g.1 (3 + r) i) n i) {a : Nat} (ha : a < n) (ea : g.1 (3 + r) b = nI a) {x : Int32} (hx : x < 0) (ex : g.1 (3 + r) (b + 1) = x) : sp_Ct X 2 106 [.ref 0, .int (nI r)] g (sp_Fi (nI 3) g) := by
  refine sp_walkN (n := 5) sq_p_106 sq_l_106 (Nat.le_of_ble_eq_true rfl) (fun ac hA => ?_)
  show sp_Ev X ac 106 0 [.ref 0, .int (nI r), .null, .null, .null] [] g
  refine sr_aload_n hA si_106_0 rfl ?_
  refine sr_getR (r := 1) hA si_106_1 sf_106_14 (by decide) (by decide) rfl rfl rfl ?_
  refine sr_iload_n hA si_106_4 rfl ?_
  refine sr_VFi (c := 1) (ci := 5) (as := [.int (nI r)]) (st := []) hA si_106_5 sv_16 sk_106_99 (xc_thereR1 X g (by omega) hz (by omega)) (by omega) rfl (by decide) (by decide) rfl sq_c_16 rfl (Nat.le_of_ble_eq_true rfl) ?_
  refine sr_if_neN (tgt := 13) hA si_106_8 (by decide) (by omega) (fun c1 => ?_) (fun c1 => absurd c1 (by omega))
  refine sr_aload_n hA si_106_13 rfl ?_
  refine sr_getR (r := 1) hA si_106_14 sf_106_14 (by decide) (by decide) rfl rfl rfl ?_
  refine sr_iload_n hA si_106_17 rfl ?_
  refine sr_VFi (c := 1) (ci := 5) (as := [.int (nI r)]) (st := []) hA si_106_18 sv_26 sk_106_114 (xc_sizeR X g (z := nI z) (by omega) hz) (by omega) rfl (by decide) (by decide) rfl sq_c_26 rfl (Nat.le_of_ble_eq_true rfl) ?_
  refine sr_istore_n (ls1 := [.ref 0, .int (nI r), .int (nI z), .null, .null]) hA si_106_21 rfl (by rw [sq_l_106]; decide) rfl ?_
  refine sr_iload_n hA si_106_22 rfl ?_
  refine sr_iconst (v := nI 2) hA si_106_23 (by decide) ?_
  refine sr_iremN hA si_106_24 (by omega) (by omega) (by omega) ?_
  refine sr_if_eqN (tgt := 30) hA si_106_25 (by decide) (by omega) (fun c2 => ?_) (fun c2 => absurd c2 (by omega))
  refine sr_iconst (v := nI 0) hA si_106_30 (by decide) ?_
  refine sr_istore_n (ls1 := [.ref 0, .int (nI r), .int (nI z), .int (nI 0), .null]) hA si_106_31 rfl (by rw [sq_l_106]; decide) rfl ?_
  exact xl_swSM hr hz hzb hn hb hev hb2 hbz hg ha ea hx ex hA (b / 2) 0 (by omega)
set_option maxRecDepth 20000 in
theorem xl_swSH {X : sp_X} {ac : sp_Ac} {g : sp_G} {r z n : Nat} (hr : r < 6) (hz : g.1 9 r = nI z) (hzb : z ≤ 40) (hn : g.1 18 3 = nI n) (hb : n ≤ 6) (hev : z % 2 = 0) {b : Nat} (hb2 : b % 2 = 0) (hbz : b + 1 < z) (hg : ∀ i, i < b → sp_eg (fun i => g.1 (3 + r) i) n i) {a : Nat} (ha : a < n) (ea : g.1 (3 + r) b = nI a) {e : Nat} (hen : 2 ≤ e) (heb : e < 2 ^ 31) (ex : g.1 (3 + r) (b + 1) = nI e) (hA : sp_Act X 106 2 (sp_Fi (nI 3) g) ac) : ∀ (m : Nat) (i : Nat), i + 2 * m = b → sp_Ev X ac 106 32 [.ref 0, .int (nI r), .int (nI z), .int (nI i), .null] [] g := by
  intro m
  induction m with
  | zero =>
    intro i h0_
    refine sr_iload_n hA si_106_32 rfl ?_
    refine sr_iconst (v := nI 1) hA si_106_33 (by decide) ?_
    refine sr_iaddN hA si_106_34 ?_
    refine sr_iload_n hA si_106_35 rfl ?_
    refine sr_icmp_geN (tgt := 90) hA si_106_36 (by decide) (by omega) (by omega) (fun c1 => absurd c1 (by omega)) (fun c1 => ?_)
    refine sr_aload_n hA si_106_39 rfl ?_
    refine sr_getR (r := 1) hA si_106_40 sf_106_14 (by decide) (by decide) rfl rfl rfl ?_
    refine sr_iload_n hA si_106_43 rfl ?_
    refine sr_iload_n hA si_106_44 rfl ?_
    refine sr_iconst (v := nI 1) hA si_106_45 (by decide) ?_
    refine sr_iaddN hA si_106_46 ?_
    refine sr_VFi (c := 1) (ci := 5) (as := [.int (nI r), .int (nI (i + 1))]) (st := []) hA si_106_47 sv_18 sk_106_88 (xc_getR X g (v := nI e) (by omega) (by omega) (by rw [show i = b by omega]; exact ex)) (by omega) rfl (by decide) (by decide) rfl sq_c_18 rfl (Nat.le_of_ble_eq_true rfl) ?_
    refine sr_istore (ls1 := [.ref 0, .int (nI r), .int (nI z), .int (nI i), .int (nI e)]) hA si_106_50 (by rw [sq_l_106]; decide) rfl ?_
    refine sr_aload_n hA si_106_52 rfl ?_
    refine sr_getR (r := 18) hA si_106_53 sf_106_32 (by decide) (by decide) rfl rfl rfl ?_
    refine sr_aload_n hA si_106_56 rfl ?_
    refine sr_getR (r := 1) hA si_106_57 sf_106_14 (by decide) (by decide) rfl rfl rfl ?_
    refine sr_iload_n hA si_106_60 rfl ?_
    refine sr_iload_n hA si_106_61 rfl ?_
    refine sr_VFi (c := 1) (ci := 5) (as := [.int (nI r), .int (nI i)]) (st := [.ref 18]) hA si_106_62 sv_18 sk_106_88 (xc_getR X g (v := nI a) (by omega) (by omega) (by rw [show i = b by omega]; exact ea)) (by omega) rfl (by decide) (by decide) rfl sq_c_18 rfl (Nat.le_of_ble_eq_true rfl) ?_
    refine sr_VFi (c := 18) (ci := 0) (as := [.int (nI a)]) (st := []) hA si_106_65 sv_43 sk_106_148 (xc_isKey1 X g (n := n) hn (by omega) (by omega)) (by omega) rfl (by decide) (by decide) rfl sq_c_43 rfl (Nat.le_of_ble_eq_true rfl) ?_
    refine sr_if_eqN (tgt := 82) hA si_106_68 (by decide) (by omega) (fun c2 => absurd c2 (by omega)) (fun c2 => ?_)
    refine sr_iload hA si_106_71 rfl ?_
    refine sr_if_ltN (tgt := 82) hA si_106_73 (by decide) (by omega) ?_
    refine sr_iload hA si_106_76 rfl ?_
    refine sr_iconst (v := nI 1) hA si_106_78 (by decide) ?_
    refine sr_icmp_leN (tgt := 84) hA si_106_79 (by decide) (by omega) (by omega) (fun c4 => absurd c4 (by omega)) (fun c4 => ?_)
    refine sr_iconst (v := nI 3) hA si_106_82 (by decide) ?_
    exact sr_iretF hA si_106_83 sq_r_106 rfl rfl
  | succ m ih =>
    intro i h0_
    obtain ⟨a2, ha2, ea2⟩ := (hg i (by omega)).1 (by omega)
    obtain ⟨s, hs, es⟩ := (hg (i + 1) (by omega)).2 (by omega)
    refine sr_iload_n hA si_106_32 rfl ?_
    refine sr_iconst (v := nI 1) hA si_106_33 (by decide) ?_
    refine sr_iaddN hA si_106_34 ?_
    refine sr_iload_n hA si_106_35 rfl ?_
    refine sr_icmp_geN (tgt := 90) hA si_106_36 (by decide) (by omega) (by omega) (fun c1 => absurd c1 (by omega)) (fun c1 => ?_)
    refine sr_aload_n hA si_106_39 rfl ?_
    refine sr_getR (r := 1) hA si_106_40 sf_106_14 (by decide) (by decide) rfl rfl rfl ?_
    refine sr_iload_n hA si_106_43 rfl ?_
    refine sr_iload_n hA si_106_44 rfl ?_
    refine sr_iconst (v := nI 1) hA si_106_45 (by decide) ?_
    refine sr_iaddN hA si_106_46 ?_
    refine sr_VFi (c := 1) (ci := 5) (as := [.int (nI r), .int (nI (i + 1))]) (st := []) hA si_106_47 sv_18 sk_106_88 (xc_getR X g (v := nI s) (by omega) (by omega) es) (by omega) rfl (by decide) (by decide) rfl sq_c_18 rfl (Nat.le_of_ble_eq_true rfl) ?_
    refine sr_istore (ls1 := [.ref 0, .int (nI r), .int (nI z), .int (nI i), .int (nI s)]) hA si_106_50 (by rw [sq_l_106]; decide) rfl ?_
    refine sr_aload_n hA si_106_52 rfl ?_
    refine sr_getR (r := 18) hA si_106_53 sf_106_32 (by decide) (by decide) rfl rfl rfl ?_
    refine sr_aload_n hA si_106_56 rfl ?_
    refine sr_getR (r := 1) hA si_106_57 sf_106_14 (by decide) (by decide) rfl rfl rfl ?_
    refine sr_iload_n hA si_106_60 rfl ?_
    refine sr_iload_n hA si_106_61 rfl ?_
    refine sr_VFi (c := 1) (ci := 5) (as := [.int (nI r), .int (nI i)]) (st := [.ref 18]) hA si_106_62 sv_18 sk_106_88 (xc_getR X g (v := nI a2) (by omega) (by omega) ea2) (by omega) rfl (by decide) (by decide) rfl sq_c_18 rfl (Nat.le_of_ble_eq_true rfl) ?_
    refine sr_VFi (c := 18) (ci := 0) (as := [.int (nI a2)]) (st := []) hA si_106_65 sv_43 sk_106_148 (xc_isKey1 X g (n := n) hn (by omega) (by omega)) (by omega) rfl (by decide) (by decide) rfl sq_c_43 rfl (Nat.le_of_ble_eq_true rfl) ?_
    refine sr_if_eqN (tgt := 82) hA si_106_68 (by decide) (by omega) (fun c2 => absurd c2 (by omega)) (fun c2 => ?_)
    refine sr_iload hA si_106_71 rfl ?_
    refine sr_if_ltN (tgt := 82) hA si_106_73 (by decide) (by omega) ?_
    refine sr_iload hA si_106_76 rfl ?_
    refine sr_iconst (v := nI 1) hA si_106_78 (by decide) ?_
    refine sr_icmp_leN (tgt := 84) hA si_106_79 (by decide) (by omega) (by omega) (fun c4 => ?_) (fun c4 => absurd c4 (by omega))
    refine sr_iincN (x := i) (y := 2) (ls1 := [.ref 0, .int (nI r), .int (nI z), .int (nI (i + 2)), .int (nI s)]) hA si_106_84 rfl rfl (by rw [sq_l_106]; decide) rfl ?_
    refine sr_goto (tgt := 32) hA si_106_87 (by decide) ?_
    refine sr_fg (ls1 := [.ref 0, .int (nI r), .int (nI z), .int (nI (i + 2)), .null]) ⟨Or.inr rfl, Or.inr rfl, Or.inr rfl, Or.inr rfl, Or.inl rfl, trivial⟩ ?_
    exact ih (i + 2) (by omega)
set_option maxRecDepth 20000 in
theorem xc_swSH (X : sp_X) (g : sp_G) {r z n : Nat} (hr : r < 6) (hz : g.1 9 r = nI z) (hzb : z ≤ 40) (hn : g.1 18 3 = nI n) (hb : n ≤ 6) (hev : z % 2 = 0) {b : Nat} (hb2 : b % 2 = 0) (hbz : b + 1 < z) (hg : ∀ i, i < b → sp_eg (fun i => g.1 (3 + r) i) n i) {a : Nat} (ha : a < n) (ea : g.1 (3 + r) b = nI a) {e : Nat} (hen : 2 ≤ e) (heb : e < 2 ^ 31) (ex : g.1 (3 + r) (b + 1) = nI e) : sp_Ct X 2 106 [.ref 0, .int (nI r)] g (sp_Fi (nI 3) g) := by
  refine sp_walkN (n := 5) sq_p_106 sq_l_106 (Nat.le_of_ble_eq_true rfl) (fun ac hA => ?_)
  show sp_Ev X ac 106 0 [.ref 0, .int (nI r), .null, .null, .null] [] g
  refine sr_aload_n hA si_106_0 rfl ?_
  refine sr_getR (r := 1) hA si_106_1 sf_106_14 (by decide) (by decide) rfl rfl rfl ?_
  refine sr_iload_n hA si_106_4 rfl ?_
  refine sr_VFi (c := 1) (ci := 5) (as := [.int (nI r)]) (st := []) hA si_106_5 sv_16 sk_106_99 (xc_thereR1 X g (by omega) hz (by omega)) (by omega) rfl (by decide) (by decide) rfl sq_c_16 rfl (Nat.le_of_ble_eq_true rfl) ?_
  refine sr_if_neN (tgt := 13) hA si_106_8 (by decide) (by omega) (fun c1 => ?_) (fun c1 => absurd c1 (by omega))
  refine sr_aload_n hA si_106_13 rfl ?_
  refine sr_getR (r := 1) hA si_106_14 sf_106_14 (by decide) (by decide) rfl rfl rfl ?_
  refine sr_iload_n hA si_106_17 rfl ?_
  refine sr_VFi (c := 1) (ci := 5) (as := [.int (nI r)]) (st := []) hA si_106_18 sv_26 sk_106_114 (xc_sizeR X g (z := nI z) (by omega) hz) (by omega) rfl (by decide) (by decide) rfl sq_c_26 rfl (Nat.le_of_ble_eq_true rfl) ?_
  refine sr_istore_n (ls1 := [.ref 0, .int (nI r), .int (nI z), .null, .null]) hA si_106_21 rfl (by rw [sq_l_106]; decide) rfl ?_
  refine sr_iload_n hA si_106_22 rfl ?_
  refine sr_iconst (v := nI 2) hA si_106_23 (by decide) ?_
  refine sr_iremN hA si_106_24 (by omega) (by omega) (by omega) ?_
  refine sr_if_eqN (tgt := 30) hA si_106_25 (by decide) (by omega) (fun c2 => ?_) (fun c2 => absurd c2 (by omega))
  refine sr_iconst (v := nI 0) hA si_106_30 (by decide) ?_
  refine sr_istore_n (ls1 := [.ref 0, .int (nI r), .int (nI z), .int (nI 0), .null]) hA si_106_31 rfl (by rw [sq_l_106]; decide) rfl ?_
  exact xl_swSH hr hz hzb hn hb hev hb2 hbz hg ha ea hen heb ex hA (b / 2) 0 (by omega)
theorem xc_sw3 (X : sp_X) (g : sp_G) {r z n p : Nat} (hr : r < 6) (hz : g.1 9 r = nI z) (hzb : z ≤ 40) (hn : g.1 18 3 = nI n) (hb : n ≤ 6) (hev : z % 2 = 0) (hp : p < z) (hg : ∀ i, i < p → sp_eg (fun i => g.1 (3 + r) i) n i) (hbad : (p % 2 = 0 ∧ sp_bk ((fun i => g.1 (3 + r) i) p) n) ∨ (p % 2 = 1 ∧ sp_bk ((fun i => g.1 (3 + r) i) p) 2)) : sp_Ct X 2 106 [.ref 0, .int (nI r)] g (sp_Fi (nI 3) g) := by
  rcases hbad with ⟨h1, hx | ⟨e, e1, e2, e3⟩⟩ | ⟨h1, hx | ⟨e, e1, e2, e3⟩⟩
  · exact xc_swKM X g hr hz hzb hn hb hev h1 (by omega) hg hx rfl
  · exact xc_swKH X g hr hz hzb hn hb hev h1 (by omega) hg e1 e2 e3
  · obtain ⟨a, ha, ea⟩ := (hg (p - 1) (by omega)).1 (by omega)
    exact xc_swSM X g hr hz hzb hn hb hev (b := p - 1) (by omega) (by omega) (fun i hi => hg i (by omega)) ha ea hx (by show g.1 (3 + r) (p - 1 + 1) = g.1 (3 + r) p; rw [show p - 1 + 1 = p by omega])
  · obtain ⟨a, ha, ea⟩ := (hg (p - 1) (by omega)).1 (by omega)
    exact xc_swSH X g hr hz hzb hn hb hev (b := p - 1) (by omega) (by omega) (fun i hi => hg i (by omega)) ha ea e1 e2 (by rw [show p - 1 + 1 = p by omega]; exact e3)
set_option maxRecDepth 20000 in
theorem mc_np2_1 (X : sp_X) (g : sp_G) {r : Nat} (hr : r < 6) (hz : g.1 66 r = -1) : sp_Ct X 2 213 [.ref 64, .int (nI r)] g (sp_Fi (-3) (sp_rm6 g 1)) := by
  refine sp_walkN (n := 4) sq_p_213 sq_l_213 (Nat.le_of_ble_eq_true rfl) (fun a hA => ?_)
  show sp_Ev X a 213 0 [.ref 64, .int (nI r), .null, .null] [] g
  refine sr_aload_n hA si_213_0 rfl ?_
  refine sr_getR (r := 66) hA si_213_1 sf_213_17 (by decide) (by decide) rfl rfl rfl ?_
  refine sr_iload_n hA si_213_4 rfl ?_
  refine sr_ialdNv (v := (-1)) (n := 6) hA si_213_5 (by decide) rfl rfl (by omega) (by decide) hz ?_
  refine sr_if_ge (tgt := 15) hA si_213_6 (by decide) (fun c1 => absurd c1 (sp_m4 (by decide))) (fun c1 => ?_)
  refine sr_aload_n hA si_213_9 rfl ?_
  refine sr_iconst (v := nI 1) hA si_213_10 (by decide) ?_
  refine sr_VFi (c := 64) (ci := 8) (as := [.int (nI 1)]) (st := []) hA si_213_11 sv_141 sk_213_97 (mc_meets X g (by omega)) (by omega) rfl (by decide) (by decide) rfl sq_c_141 rfl (Nat.le_of_ble_eq_true rfl) ?_
  exact sr_iretF hA si_213_14 sq_r_213 rfl rfl
set_option maxRecDepth 20000 in
theorem mc_np2_5 (X : sp_X) (g : sp_G) {r z : Nat} (hr : r < 6) (hz : g.1 66 r = nI z) (hzb : z ≤ 40) (hev : z % 2 = 1) : sp_Ct X 2 213 [.ref 64, .int (nI r)] g (sp_Fi (-3) (sp_rm6 g 5)) := by
  refine sp_walkN (n := 4) sq_p_213 sq_l_213 (Nat.le_of_ble_eq_true rfl) (fun a hA => ?_)
  show sp_Ev X a 213 0 [.ref 64, .int (nI r), .null, .null] [] g
  refine sr_aload_n hA si_213_0 rfl ?_
  refine sr_getR (r := 66) hA si_213_1 sf_213_17 (by decide) (by decide) rfl rfl rfl ?_
  refine sr_iload_n hA si_213_4 rfl ?_
  refine sr_ialdNv (v := nI z) (n := 6) hA si_213_5 (by decide) rfl rfl (by omega) (by decide) hz ?_
  refine sr_if_geN (tgt := 15) hA si_213_6 (by decide) (by omega) ?_
  refine sr_aload_n hA si_213_15 rfl ?_
  refine sr_getR (r := 66) hA si_213_16 sf_213_17 (by decide) (by decide) rfl rfl rfl ?_
  refine sr_iload_n hA si_213_19 rfl ?_
  refine sr_ialdNv (v := nI z) (n := 6) hA si_213_20 (by decide) rfl rfl (by omega) (by decide) hz ?_
  refine sr_iconst (v := nI 2) hA si_213_21 (by decide) ?_
  refine sr_iremN hA si_213_22 (by omega) (by omega) (by omega) ?_
  refine sr_iconst (v := nI 1) hA si_213_23 (by decide) ?_
  refine sr_icmp_neN (tgt := 33) hA si_213_24 (by decide) (by omega) (by omega) (fun c2 => absurd c2 (by omega)) (fun c2 => ?_)
  refine sr_aload_n hA si_213_27 rfl ?_
  refine sr_iconst (v := nI 5) hA si_213_28 (by decide) ?_
  refine sr_VFi (c := 64) (ci := 8) (as := [.int (nI 5)]) (st := []) hA si_213_29 sv_141 sk_213_97 (mc_meets X g (by omega)) (by omega) rfl (by decide) (by decide) rfl sq_c_141 rfl (Nat.le_of_ble_eq_true rfl) ?_
  exact sr_iretF hA si_213_32 sq_r_213 rfl rfl
set_option maxRecDepth 20000 in
theorem ml_npB2 {X : sp_X} {ac : sp_Ac} {g : sp_G} {r z : Nat} (hr : r < 6) (hz : g.1 66 r = nI z) (hzb : z ≤ 40) (hA : sp_Act X 213 2 (sp_Fi (-3) (sp_rm6 g 3)) ac) : ∀ (m : Nat) (i : Nat), i + m = z → sp_Ev X ac 213 37 [.ref 64, .int (nI r), .int (nI 0), .int (nI i)] [] g := by
  intro m
  induction m with
  | zero =>
    intro i h0_
    refine sr_iload_n hA si_213_37 rfl ?_
    refine sr_aload_n hA si_213_38 rfl ?_
    refine sr_getR (r := 66) hA si_213_39 sf_213_17 (by decide) (by decide) rfl rfl rfl ?_
    refine sr_iload_n hA si_213_42 rfl ?_
    refine sr_ialdNv (v := nI z) (n := 6) hA si_213_43 (by decide) rfl rfl (by omega) (by decide) hz ?_
    refine sr_icmp_geN (tgt := 99) hA si_213_44 (by decide) (by omega) (by omega) (fun c1 => ?_) (fun c1 => absurd c1 (by omega))
    refine sr_iload_n hA si_213_99 rfl ?_
    refine sr_if_eqN (tgt := 107) hA si_213_100 (by decide) (by omega) (fun c2 => ?_) (fun c2 => absurd c2 (by omega))
    refine sr_aload_n hA si_213_107 rfl ?_
    refine sr_iconst (v := nI 3) hA si_213_108 (by decide) ?_
    refine sr_VFi (c := 64) (ci := 8) (as := [.int (nI 3)]) (st := []) hA si_213_109 sv_141 sk_213_97 (mc_meets X g (by omega)) (by omega) rfl (by decide) (by decide) rfl sq_c_141 rfl (Nat.le_of_ble_eq_true rfl) ?_
    exact sr_iretF hA si_213_112 sq_r_213 rfl rfl
  | succ m ih =>
    intro i h0_
    refine sr_iload_n hA si_213_37 rfl ?_
    refine sr_aload_n hA si_213_38 rfl ?_
    refine sr_getR (r := 66) hA si_213_39 sf_213_17 (by decide) (by decide) rfl rfl rfl ?_
    refine sr_iload_n hA si_213_42 rfl ?_
    refine sr_ialdNv (v := nI z) (n := 6) hA si_213_43 (by decide) rfl rfl (by omega) (by decide) hz ?_
    refine sr_icmp_geN (tgt := 99) hA si_213_44 (by decide) (by omega) (by omega) (fun c1 => absurd c1 (by omega)) (fun c1 => ?_)
    refine sr_iload_n hA si_213_47 rfl ?_
    refine sr_if_eqN (tgt := 91) hA si_213_48 (by decide) (by omega) (fun c2 => ?_) (fun c2 => absurd c2 (by omega))
    refine sr_iconst (v := nI 0) hA si_213_91 (by decide) ?_
    refine sr_istore_n (ls1 := [.ref 64, .int (nI r), .int (nI 0), .int (nI i)]) hA si_213_92 rfl (by rw [sq_l_213]; decide) rfl ?_
    refine sr_iincN (x := i) (y := 1) (ls1 := [.ref 64, .int (nI r), .int (nI 0), .int (nI (i + 1))]) hA si_213_93 rfl rfl (by rw [sq_l_213]; decide) rfl ?_
    refine sr_goto (tgt := 37) hA si_213_96 (by decide) ?_
    exact ih (i + 1) (by omega)
set_option maxRecDepth 20000 in
theorem ml_np20 {X : sp_X} {ac : sp_Ac} {g : sp_G} {r z n : Nat} (hr : r < 6) (hz : g.1 66 r = nI z) (hzb : z ≤ 40) (hn : g.1 64 11 = nI n) (hb : n ≤ 6) (hg : ∀ i, i < z → sp_eg (fun i => g.1 67 (40 * r + i)) n i) (hA : sp_Act X 213 2 (sp_Fi (nI 0) g) ac) : ∀ (m : Nat) (i : Nat), i + m = z → sp_Ev X ac 213 37 [.ref 64, .int (nI r), .int (nI 1), .int (nI i)] [] g := by
  intro m
  induction m with
  | zero =>
    intro i h0_
    refine sr_iload_n hA si_213_37 rfl ?_
    refine sr_aload_n hA si_213_38 rfl ?_
    refine sr_getR (r := 66) hA si_213_39 sf_213_17 (by decide) (by decide) rfl rfl rfl ?_
    refine sr_iload_n hA si_213_42 rfl ?_
    refine sr_ialdNv (v := nI z) (n := 6) hA si_213_43 (by decide) rfl rfl (by omega) (by decide) hz ?_
    refine sr_icmp_geN (tgt := 99) hA si_213_44 (by decide) (by omega) (by omega) (fun c1 => ?_) (fun c1 => absurd c1 (by omega))
    refine sr_iload_n hA si_213_99 rfl ?_
    refine sr_if_eqN (tgt := 107) hA si_213_100 (by decide) (by omega) (fun c2 => absurd c2 (by omega)) (fun c2 => ?_)
    refine sr_iconst (v := nI 0) hA si_213_103 (by decide) ?_
    refine sr_goto (tgt := 112) hA si_213_104 (by decide) ?_
    exact sr_iretF hA si_213_112 sq_r_213 rfl rfl
  | succ m ih =>
    intro i h0_
    rcases Nat.mod_two_eq_zero_or_one i with hpar | hpar
    · obtain ⟨a, ha, ea⟩ := (hg i (by omega)).1 hpar
      refine sr_iload_n hA si_213_37 rfl ?_
      refine sr_aload_n hA si_213_38 rfl ?_
      refine sr_getR (r := 66) hA si_213_39 sf_213_17 (by decide) (by decide) rfl rfl rfl ?_
      refine sr_iload_n hA si_213_42 rfl ?_
      refine sr_ialdNv (v := nI z) (n := 6) hA si_213_43 (by decide) rfl rfl (by omega) (by decide) hz ?_
      refine sr_icmp_geN (tgt := 99) hA si_213_44 (by decide) (by omega) (by omega) (fun c1 => absurd c1 (by omega)) (fun c1 => ?_)
      refine sr_iload_n hA si_213_47 rfl ?_
      refine sr_if_eqN (tgt := 91) hA si_213_48 (by decide) (by omega) (fun c2 => absurd c2 (by omega)) (fun c2 => ?_)
      refine sr_iload_n hA si_213_51 rfl ?_
      refine sr_iconst (v := nI 2) hA si_213_52 (by decide) ?_
      refine sr_iremN hA si_213_53 (by omega) (by omega) (by omega) ?_
      refine sr_if_neN (tgt := 73) hA si_213_54 (by decide) (by omega) (fun c3 => absurd c3 (by omega)) (fun c3 => ?_)
      refine sr_aload_n hA si_213_57 rfl ?_
      refine sr_aload_n hA si_213_58 rfl ?_
      refine sr_iload_n hA si_213_59 rfl ?_
      refine sr_iload_n hA si_213_60 rfl ?_
      refine sr_VFi (c := 64) (ci := 8) (as := [.int (nI r), .int (nI i)]) (st := [.ref 64]) hA si_213_61 sv_143 sk_213_101 (by have h := mc_rowAt X g (r := r) (i := i) (by omega); rw [show g.1 67 (40 * r + i) = nI a from ea] at h; exact h) (by omega) rfl (by decide) (by decide) rfl sq_c_143 rfl (Nat.le_of_ble_eq_true rfl) ?_
      refine sr_VFi (c := 64) (ci := 8) (as := [.int (nI a)]) (st := []) hA si_213_64 sv_162 sk_213_174 (mc_isKey1 X g (n := n) hn (by omega) (by omega)) (by omega) rfl (by decide) (by decide) rfl sq_c_162 rfl (Nat.le_of_ble_eq_true rfl) ?_
      refine sr_if_eqN (tgt := 91) hA si_213_67 (by decide) (by omega) (fun c4 => absurd c4 (by omega)) (fun c4 => ?_)
      refine sr_goto (tgt := 87) hA si_213_70 (by decide) ?_
      refine sr_iconst (v := nI 1) hA si_213_87 (by decide) ?_
      refine sr_goto (tgt := 92) hA si_213_88 (by decide) ?_
      refine sr_istore_n (ls1 := [.ref 64, .int (nI r), .int (nI 1), .int (nI i)]) hA si_213_92 rfl (by rw [sq_l_213]; decide) rfl ?_
      refine sr_iincN (x := i) (y := 1) (ls1 := [.ref 64, .int (nI r), .int (nI 1), .int (nI (i + 1))]) hA si_213_93 rfl rfl (by rw [sq_l_213]; decide) rfl ?_
      refine sr_goto (tgt := 37) hA si_213_96 (by decide) ?_
      exact ih (i + 1) (by omega)
    · obtain ⟨s, hs, es⟩ := (hg i (by omega)).2 hpar
      refine sr_iload_n hA si_213_37 rfl ?_
      refine sr_aload_n hA si_213_38 rfl ?_
      refine sr_getR (r := 66) hA si_213_39 sf_213_17 (by decide) (by decide) rfl rfl rfl ?_
      refine sr_iload_n hA si_213_42 rfl ?_
      refine sr_ialdNv (v := nI z) (n := 6) hA si_213_43 (by decide) rfl rfl (by omega) (by decide) hz ?_
      refine sr_icmp_geN (tgt := 99) hA si_213_44 (by decide) (by omega) (by omega) (fun c1 => absurd c1 (by omega)) (fun c1 => ?_)
      refine sr_iload_n hA si_213_47 rfl ?_
      refine sr_if_eqN (tgt := 91) hA si_213_48 (by decide) (by omega) (fun c2 => absurd c2 (by omega)) (fun c2 => ?_)
      refine sr_iload_n hA si_213_51 rfl ?_
      refine sr_iconst (v := nI 2) hA si_213_52 (by decide) ?_
      refine sr_iremN hA si_213_53 (by omega) (by omega) (by omega) ?_
      refine sr_if_neN (tgt := 73) hA si_213_54 (by decide) (by omega) (fun c3 => ?_) (fun c3 => absurd c3 (by omega))
      refine sr_aload_n hA si_213_73 rfl ?_
      refine sr_iload_n hA si_213_74 rfl ?_
      refine sr_iload_n hA si_213_75 rfl ?_
      refine sr_VFi (c := 64) (ci := 8) (as := [.int (nI r), .int (nI i)]) (st := []) hA si_213_76 sv_143 sk_213_101 (by have h := mc_rowAt X g (r := r) (i := i) (by omega); rw [show g.1 67 (40 * r + i) = nI s from es] at h; exact h) (by omega) rfl (by decide) (by decide) rfl sq_c_143 rfl (Nat.le_of_ble_eq_true rfl) ?_
      refine sr_iconst (v := nI 0) hA si_213_79 (by decide) ?_
      refine sr_iconst (v := nI 1) hA si_213_80 (by decide) ?_
      refine sr_SFi (as := [.int (nI s), .int (nI 0), .int (nI 1)]) (st := []) hA si_213_81 ss_135 sk_213_83 (mc_inN X g (by omega) (by omega) (by omega)) (by omega) rfl rfl (Nat.le_of_ble_eq_true rfl) ?_
      refine sr_if_eqN (tgt := 91) hA si_213_84 (by decide) (by omega) (fun c4 => absurd c4 (by omega)) (fun c4 => ?_)
      refine sr_iconst (v := nI 1) hA si_213_87 (by decide) ?_
      refine sr_goto (tgt := 92) hA si_213_88 (by decide) ?_
      refine sr_istore_n (ls1 := [.ref 64, .int (nI r), .int (nI 1), .int (nI i)]) hA si_213_92 rfl (by rw [sq_l_213]; decide) rfl ?_
      refine sr_iincN (x := i) (y := 1) (ls1 := [.ref 64, .int (nI r), .int (nI 1), .int (nI (i + 1))]) hA si_213_93 rfl rfl (by rw [sq_l_213]; decide) rfl ?_
      refine sr_goto (tgt := 37) hA si_213_96 (by decide) ?_
      exact ih (i + 1) (by omega)
set_option maxRecDepth 20000 in
theorem mc_np2_0 (X : sp_X) (g : sp_G) {r z n : Nat} (hr : r < 6) (hz : g.1 66 r = nI z) (hzb : z ≤ 40) (hn : g.1 64 11 = nI n) (hb : n ≤ 6) (hev : z % 2 = 0) (hg : ∀ i, i < z → sp_eg (fun i => g.1 67 (40 * r + i)) n i) : sp_Ct X 2 213 [.ref 64, .int (nI r)] g (sp_Fi (nI 0) g) := by
  refine sp_walkN (n := 4) sq_p_213 sq_l_213 (Nat.le_of_ble_eq_true rfl) (fun ac hA => ?_)
  show sp_Ev X ac 213 0 [.ref 64, .int (nI r), .null, .null] [] g
  refine sr_aload_n hA si_213_0 rfl ?_
  refine sr_getR (r := 66) hA si_213_1 sf_213_17 (by decide) (by decide) rfl rfl rfl ?_
  refine sr_iload_n hA si_213_4 rfl ?_
  refine sr_ialdNv (v := nI z) (n := 6) hA si_213_5 (by decide) rfl rfl (by omega) (by decide) hz ?_
  refine sr_if_geN (tgt := 15) hA si_213_6 (by decide) (by omega) ?_
  refine sr_aload_n hA si_213_15 rfl ?_
  refine sr_getR (r := 66) hA si_213_16 sf_213_17 (by decide) (by decide) rfl rfl rfl ?_
  refine sr_iload_n hA si_213_19 rfl ?_
  refine sr_ialdNv (v := nI z) (n := 6) hA si_213_20 (by decide) rfl rfl (by omega) (by decide) hz ?_
  refine sr_iconst (v := nI 2) hA si_213_21 (by decide) ?_
  refine sr_iremN hA si_213_22 (by omega) (by omega) (by omega) ?_
  refine sr_iconst (v := nI 1) hA si_213_23 (by decide) ?_
  refine sr_icmp_neN (tgt := 33) hA si_213_24 (by decide) (by omega) (by omega) (fun c2 => ?_) (fun c2 => absurd c2 (by omega))
  refine sr_iconst (v := nI 1) hA si_213_33 (by decide) ?_
  refine sr_istore_n (ls1 := [.ref 64, .int (nI r), .int (nI 1), .null]) hA si_213_34 rfl (by rw [sq_l_213]; decide) rfl ?_
  refine sr_iconst (v := nI 0) hA si_213_35 (by decide) ?_
  refine sr_istore_n (ls1 := [.ref 64, .int (nI r), .int (nI 1), .int (nI 0)]) hA si_213_36 rfl (by rw [sq_l_213]; decide) rfl ?_
  exact ml_np20 hr hz hzb hn hb hg hA z 0 (by omega)
set_option maxRecDepth 20000 in
theorem ml_np2KM {X : sp_X} {ac : sp_Ac} {g : sp_G} {r z n : Nat} (hr : r < 6) (hz : g.1 66 r = nI z) (hzb : z ≤ 40) (hn : g.1 64 11 = nI n) (hb : n ≤ 6) {p : Nat} (hp : p < z) (hg : ∀ i, i < p → sp_eg (fun i => g.1 67 (40 * r + i)) n i) (hpar : p % 2 = 0) {x : Int32} (hx : x < 0) (ex : g.1 67 (40 * r + p) = x) (hA : sp_Act X 213 2 (sp_Fi (-3) (sp_rm6 g 3)) ac) : ∀ (m : Nat) (i : Nat), i + m = p → sp_Ev X ac 213 37 [.ref 64, .int (nI r), .int (nI 1), .int (nI i)] [] g := by
  intro m
  induction m with
  | zero =>
    intro i h0_
    refine sr_iload_n hA si_213_37 rfl ?_
    refine sr_aload_n hA si_213_38 rfl ?_
    refine sr_getR (r := 66) hA si_213_39 sf_213_17 (by decide) (by decide) rfl rfl rfl ?_
    refine sr_iload_n hA si_213_42 rfl ?_
    refine sr_ialdNv (v := nI z) (n := 6) hA si_213_43 (by decide) rfl rfl (by omega) (by decide) hz ?_
    refine sr_icmp_geN (tgt := 99) hA si_213_44 (by decide) (by omega) (by omega) (fun c1 => absurd c1 (by omega)) (fun c1 => ?_)
    refine sr_iload_n hA si_213_47 rfl ?_
    refine sr_if_eqN (tgt := 91) hA si_213_48 (by decide) (by omega) (fun c2 => absurd c2 (by omega)) (fun c2 => ?_)
    refine sr_iload_n hA si_213_51 rfl ?_
    refine sr_iconst (v := nI 2) hA si_213_52 (by decide) ?_
    refine sr_iremN hA si_213_53 (by omega) (by omega) (by omega) ?_
    refine sr_if_neN (tgt := 73) hA si_213_54 (by decide) (by omega) (fun c3 => absurd c3 (by omega)) (fun c3 => ?_)
    refine sr_aload_n hA si_213_57 rfl ?_
    refine sr_aload_n hA si_213_58 rfl ?_
    refine sr_iload_n hA si_213_59 rfl ?_
    refine sr_iload_n hA si_213_60 rfl ?_
    refine sr_VFi (c := 64) (ci := 8) (as := [.int (nI r), .int (nI i)]) (st := [.ref 64]) hA si_213_61 sv_143 sk_213_101 (by have h := mc_rowAt X g (r := r) (i := i) (by omega); rw [show g.1 67 (40 * r + i) = x from (by rw [show i = p by omega]; exact ex)] at h; exact h) (by omega) rfl (by decide) (by decide) rfl sq_c_143 rfl (Nat.le_of_ble_eq_true rfl) ?_
    refine sr_VFi (c := 64) (ci := 8) (as := [.int x]) (st := []) hA si_213_64 sv_162 sk_213_174 (mc_isKeyM X g (n := n) hn hx) (by omega) rfl (by decide) (by decide) rfl sq_c_162 rfl (Nat.le_of_ble_eq_true rfl) ?_
    refine sr_if_eqN (tgt := 91) hA si_213_67 (by decide) (by omega) (fun c4 => ?_) (fun c4 => absurd c4 (by omega))
    refine sr_iconst (v := nI 0) hA si_213_91 (by decide) ?_
    refine sr_istore_n (ls1 := [.ref 64, .int (nI r), .int (nI 0), .int (nI i)]) hA si_213_92 rfl (by rw [sq_l_213]; decide) rfl ?_
    refine sr_iincN (x := i) (y := 1) (ls1 := [.ref 64, .int (nI r), .int (nI 0), .int (nI (i + 1))]) hA si_213_93 rfl rfl (by rw [sq_l_213]; decide) rfl ?_
    refine sr_goto (tgt := 37) hA si_213_96 (by decide) ?_
    exact ml_npB2 hr hz hzb hA (z - (i + 1)) (i + 1) (by omega)
  | succ m ih =>
    intro i h0_
    rcases Nat.mod_two_eq_zero_or_one i with hpq | hpq
    · obtain ⟨a, ha, ea⟩ := (hg i (by omega)).1 hpq
      refine sr_iload_n hA si_213_37 rfl ?_
      refine sr_aload_n hA si_213_38 rfl ?_
      refine sr_getR (r := 66) hA si_213_39 sf_213_17 (by decide) (by decide) rfl rfl rfl ?_
      refine sr_iload_n hA si_213_42 rfl ?_
      refine sr_ialdNv (v := nI z) (n := 6) hA si_213_43 (by decide) rfl rfl (by omega) (by decide) hz ?_
      refine sr_icmp_geN (tgt := 99) hA si_213_44 (by decide) (by omega) (by omega) (fun c1 => absurd c1 (by omega)) (fun c1 => ?_)
      refine sr_iload_n hA si_213_47 rfl ?_
      refine sr_if_eqN (tgt := 91) hA si_213_48 (by decide) (by omega) (fun c2 => absurd c2 (by omega)) (fun c2 => ?_)
      refine sr_iload_n hA si_213_51 rfl ?_
      refine sr_iconst (v := nI 2) hA si_213_52 (by decide) ?_
      refine sr_iremN hA si_213_53 (by omega) (by omega) (by omega) ?_
      refine sr_if_neN (tgt := 73) hA si_213_54 (by decide) (by omega) (fun c3 => absurd c3 (by omega)) (fun c3 => ?_)
      refine sr_aload_n hA si_213_57 rfl ?_
      refine sr_aload_n hA si_213_58 rfl ?_
      refine sr_iload_n hA si_213_59 rfl ?_
      refine sr_iload_n hA si_213_60 rfl ?_
      refine sr_VFi (c := 64) (ci := 8) (as := [.int (nI r), .int (nI i)]) (st := [.ref 64]) hA si_213_61 sv_143 sk_213_101 (by have h := mc_rowAt X g (r := r) (i := i) (by omega); rw [show g.1 67 (40 * r + i) = nI a from ea] at h; exact h) (by omega) rfl (by decide) (by decide) rfl sq_c_143 rfl (Nat.le_of_ble_eq_true rfl) ?_
      refine sr_VFi (c := 64) (ci := 8) (as := [.int (nI a)]) (st := []) hA si_213_64 sv_162 sk_213_174 (mc_isKey1 X g (n := n) hn (by omega) (by omega)) (by omega) rfl (by decide) (by decide) rfl sq_c_162 rfl (Nat.le_of_ble_eq_true rfl) ?_
      refine sr_if_eqN (tgt := 91) hA si_213_67 (by decide) (by omega) (fun c4 => absurd c4 (by omega)) (fun c4 => ?_)
      refine sr_goto (tgt := 87) hA si_213_70 (by decide) ?_
      refine sr_iconst (v := nI 1) hA si_213_87 (by decide) ?_
      refine sr_goto (tgt := 92) hA si_213_88 (by decide) ?_
      refine sr_istore_n (ls1 := [.ref 64, .int (nI r), .int (nI 1), .int (nI i)]) hA si_213_92 rfl (by rw [sq_l_213]; decide) rfl ?_
      refine sr_iincN (x := i) (y := 1) (ls1 := [.ref 64, .int (nI r), .int (nI 1), .int (nI (i + 1))]) hA si_213_93 rfl rfl (by rw [sq_l_213]; decide) rfl ?_
      refine sr_goto (tgt := 37) hA si_213_96 (by decide) ?_
      exact ih (i + 1) (by omega)
    · obtain ⟨s, hs, es⟩ := (hg i (by omega)).2 hpq
      refine sr_iload_n hA si_213_37 rfl ?_
      refine sr_aload_n hA si_213_38 rfl ?_
      refine sr_getR (r := 66) hA si_213_39 sf_213_17 (by decide) (by decide) rfl rfl rfl ?_
      refine sr_iload_n hA si_213_42 rfl ?_
      refine sr_ialdNv (v := nI z) (n := 6) hA si_213_43 (by decide) rfl rfl (by omega) (by decide) hz ?_
      refine sr_icmp_geN (tgt := 99) hA si_213_44 (by decide) (by omega) (by omega) (fun c1 => absurd c1 (by omega)) (fun c1 => ?_)
      refine sr_iload_n hA si_213_47 rfl ?_
      refine sr_if_eqN (tgt := 91) hA si_213_48 (by decide) (by omega) (fun c2 => absurd c2 (by omega)) (fun c2 => ?_)
      refine sr_iload_n hA si_213_51 rfl ?_
      refine sr_iconst (v := nI 2) hA si_213_52 (by decide) ?_
      refine sr_iremN hA si_213_53 (by omega) (by omega) (by omega) ?_
      refine sr_if_neN (tgt := 73) hA si_213_54 (by decide) (by omega) (fun c3 => ?_) (fun c3 => absurd c3 (by omega))
      refine sr_aload_n hA si_213_73 rfl ?_
      refine sr_iload_n hA si_213_74 rfl ?_
      refine sr_iload_n hA si_213_75 rfl ?_
      refine sr_VFi (c := 64) (ci := 8) (as := [.int (nI r), .int (nI i)]) (st := []) hA si_213_76 sv_143 sk_213_101 (by have h := mc_rowAt X g (r := r) (i := i) (by omega); rw [show g.1 67 (40 * r + i) = nI s from es] at h; exact h) (by omega) rfl (by decide) (by decide) rfl sq_c_143 rfl (Nat.le_of_ble_eq_true rfl) ?_
      refine sr_iconst (v := nI 0) hA si_213_79 (by decide) ?_
      refine sr_iconst (v := nI 1) hA si_213_80 (by decide) ?_
      refine sr_SFi (as := [.int (nI s), .int (nI 0), .int (nI 1)]) (st := []) hA si_213_81 ss_135 sk_213_83 (mc_inN X g (by omega) (by omega) (by omega)) (by omega) rfl rfl (Nat.le_of_ble_eq_true rfl) ?_
      refine sr_if_eqN (tgt := 91) hA si_213_84 (by decide) (by omega) (fun c4 => absurd c4 (by omega)) (fun c4 => ?_)
      refine sr_iconst (v := nI 1) hA si_213_87 (by decide) ?_
      refine sr_goto (tgt := 92) hA si_213_88 (by decide) ?_
      refine sr_istore_n (ls1 := [.ref 64, .int (nI r), .int (nI 1), .int (nI i)]) hA si_213_92 rfl (by rw [sq_l_213]; decide) rfl ?_
      refine sr_iincN (x := i) (y := 1) (ls1 := [.ref 64, .int (nI r), .int (nI 1), .int (nI (i + 1))]) hA si_213_93 rfl rfl (by rw [sq_l_213]; decide) rfl ?_
      refine sr_goto (tgt := 37) hA si_213_96 (by decide) ?_
      exact ih (i + 1) (by omega)
set_option maxRecDepth 20000 in
theorem mc_np2KM (X : sp_X) (g : sp_G) {r z n : Nat} (hr : r < 6) (hz : g.1 66 r = nI z) (hzb : z ≤ 40) (hn : g.1 64 11 = nI n) (hb : n ≤ 6) (hev : z % 2 = 0) {p : Nat} (hp : p < z) (hg : ∀ i, i < p → sp_eg (fun i => g.1 67 (40 * r + i)) n i) (hpar : p % 2 = 0) {x : Int32} (hx : x < 0) (ex : g.1 67 (40 * r + p) = x) : sp_Ct X 2 213 [.ref 64, .int (nI r)] g (sp_Fi (-3) (sp_rm6 g 3)) := by
  refine sp_walkN (n := 4) sq_p_213 sq_l_213 (Nat.le_of_ble_eq_true rfl) (fun ac hA => ?_)
  show sp_Ev X ac 213 0 [.ref 64, .int (nI r), .null, .null] [] g
  refine sr_aload_n hA si_213_0 rfl ?_
  refine sr_getR (r := 66) hA si_213_1 sf_213_17 (by decide) (by decide) rfl rfl rfl ?_
  refine sr_iload_n hA si_213_4 rfl ?_
  refine sr_ialdNv (v := nI z) (n := 6) hA si_213_5 (by decide) rfl rfl (by omega) (by decide) hz ?_
  refine sr_if_geN (tgt := 15) hA si_213_6 (by decide) (by omega) ?_
  refine sr_aload_n hA si_213_15 rfl ?_
  refine sr_getR (r := 66) hA si_213_16 sf_213_17 (by decide) (by decide) rfl rfl rfl ?_
  refine sr_iload_n hA si_213_19 rfl ?_
  refine sr_ialdNv (v := nI z) (n := 6) hA si_213_20 (by decide) rfl rfl (by omega) (by decide) hz ?_
  refine sr_iconst (v := nI 2) hA si_213_21 (by decide) ?_
  refine sr_iremN hA si_213_22 (by omega) (by omega) (by omega) ?_
  refine sr_iconst (v := nI 1) hA si_213_23 (by decide) ?_
  refine sr_icmp_neN (tgt := 33) hA si_213_24 (by decide) (by omega) (by omega) (fun c2 => ?_) (fun c2 => absurd c2 (by omega))
  refine sr_iconst (v := nI 1) hA si_213_33 (by decide) ?_
  refine sr_istore_n (ls1 := [.ref 64, .int (nI r), .int (nI 1), .null]) hA si_213_34 rfl (by rw [sq_l_213]; decide) rfl ?_
  refine sr_iconst (v := nI 0) hA si_213_35 (by decide) ?_
  refine sr_istore_n (ls1 := [.ref 64, .int (nI r), .int (nI 1), .int (nI 0)]) hA si_213_36 rfl (by rw [sq_l_213]; decide) rfl ?_
  exact ml_np2KM hr hz hzb hn hb hp hg hpar hx ex hA p 0 (by omega)
set_option maxRecDepth 20000 in
theorem ml_np2KH {X : sp_X} {ac : sp_Ac} {g : sp_G} {r z n : Nat} (hr : r < 6) (hz : g.1 66 r = nI z) (hzb : z ≤ 40) (hn : g.1 64 11 = nI n) (hb : n ≤ 6) {p : Nat} (hp : p < z) (hg : ∀ i, i < p → sp_eg (fun i => g.1 67 (40 * r + i)) n i) (hpar : p % 2 = 0) {e : Nat} (hen : n ≤ e) (heb : e < 2 ^ 31) (ex : g.1 67 (40 * r + p) = nI e) (hA : sp_Act X 213 2 (sp_Fi (-3) (sp_rm6 g 3)) ac) : ∀ (m : Nat) (i : Nat), i + m = p → sp_Ev X ac 213 37 [.ref 64, .int (nI r), .int (nI 1), .int (nI i)] [] g := by
  intro m
  induction m with
  | zero =>
    intro i h0_
    refine sr_iload_n hA si_213_37 rfl ?_
    refine sr_aload_n hA si_213_38 rfl ?_
    refine sr_getR (r := 66) hA si_213_39 sf_213_17 (by decide) (by decide) rfl rfl rfl ?_
    refine sr_iload_n hA si_213_42 rfl ?_
    refine sr_ialdNv (v := nI z) (n := 6) hA si_213_43 (by decide) rfl rfl (by omega) (by decide) hz ?_
    refine sr_icmp_geN (tgt := 99) hA si_213_44 (by decide) (by omega) (by omega) (fun c1 => absurd c1 (by omega)) (fun c1 => ?_)
    refine sr_iload_n hA si_213_47 rfl ?_
    refine sr_if_eqN (tgt := 91) hA si_213_48 (by decide) (by omega) (fun c2 => absurd c2 (by omega)) (fun c2 => ?_)
    refine sr_iload_n hA si_213_51 rfl ?_
    refine sr_iconst (v := nI 2) hA si_213_52 (by decide) ?_
    refine sr_iremN hA si_213_53 (by omega) (by omega) (by omega) ?_
    refine sr_if_neN (tgt := 73) hA si_213_54 (by decide) (by omega) (fun c3 => absurd c3 (by omega)) (fun c3 => ?_)
    refine sr_aload_n hA si_213_57 rfl ?_
    refine sr_aload_n hA si_213_58 rfl ?_
    refine sr_iload_n hA si_213_59 rfl ?_
    refine sr_iload_n hA si_213_60 rfl ?_
    refine sr_VFi (c := 64) (ci := 8) (as := [.int (nI r), .int (nI i)]) (st := [.ref 64]) hA si_213_61 sv_143 sk_213_101 (by have h := mc_rowAt X g (r := r) (i := i) (by omega); rw [show g.1 67 (40 * r + i) = nI e from (by rw [show i = p by omega]; exact ex)] at h; exact h) (by omega) rfl (by decide) (by decide) rfl sq_c_143 rfl (Nat.le_of_ble_eq_true rfl) ?_
    refine sr_VFi (c := 64) (ci := 8) (as := [.int (nI e)]) (st := []) hA si_213_64 sv_162 sk_213_174 (mc_isKeyH X g (n := n) hn (by omega) (by omega)) (by omega) rfl (by decide) (by decide) rfl sq_c_162 rfl (Nat.le_of_ble_eq_true rfl) ?_
    refine sr_if_eqN (tgt := 91) hA si_213_67 (by decide) (by omega) (fun c4 => ?_) (fun c4 => absurd c4 (by omega))
    refine sr_iconst (v := nI 0) hA si_213_91 (by decide) ?_
    refine sr_istore_n (ls1 := [.ref 64, .int (nI r), .int (nI 0), .int (nI i)]) hA si_213_92 rfl (by rw [sq_l_213]; decide) rfl ?_
    refine sr_iincN (x := i) (y := 1) (ls1 := [.ref 64, .int (nI r), .int (nI 0), .int (nI (i + 1))]) hA si_213_93 rfl rfl (by rw [sq_l_213]; decide) rfl ?_
    refine sr_goto (tgt := 37) hA si_213_96 (by decide) ?_
    exact ml_npB2 hr hz hzb hA (z - (i + 1)) (i + 1) (by omega)
  | succ m ih =>
    intro i h0_
    rcases Nat.mod_two_eq_zero_or_one i with hpq | hpq
    · obtain ⟨a, ha, ea⟩ := (hg i (by omega)).1 hpq
      refine sr_iload_n hA si_213_37 rfl ?_
      refine sr_aload_n hA si_213_38 rfl ?_
      refine sr_getR (r := 66) hA si_213_39 sf_213_17 (by decide) (by decide) rfl rfl rfl ?_
      refine sr_iload_n hA si_213_42 rfl ?_
      refine sr_ialdNv (v := nI z) (n := 6) hA si_213_43 (by decide) rfl rfl (by omega) (by decide) hz ?_
      refine sr_icmp_geN (tgt := 99) hA si_213_44 (by decide) (by omega) (by omega) (fun c1 => absurd c1 (by omega)) (fun c1 => ?_)
      refine sr_iload_n hA si_213_47 rfl ?_
      refine sr_if_eqN (tgt := 91) hA si_213_48 (by decide) (by omega) (fun c2 => absurd c2 (by omega)) (fun c2 => ?_)
      refine sr_iload_n hA si_213_51 rfl ?_
      refine sr_iconst (v := nI 2) hA si_213_52 (by decide) ?_
      refine sr_iremN hA si_213_53 (by omega) (by omega) (by omega) ?_
      refine sr_if_neN (tgt := 73) hA si_213_54 (by decide) (by omega) (fun c3 => absurd c3 (by omega)) (fun c3 => ?_)
      refine sr_aload_n hA si_213_57 rfl ?_
      refine sr_aload_n hA si_213_58 rfl ?_
      refine sr_iload_n hA si_213_59 rfl ?_
      refine sr_iload_n hA si_213_60 rfl ?_
      refine sr_VFi (c := 64) (ci := 8) (as := [.int (nI r), .int (nI i)]) (st := [.ref 64]) hA si_213_61 sv_143 sk_213_101 (by have h := mc_rowAt X g (r := r) (i := i) (by omega); rw [show g.1 67 (40 * r + i) = nI a from ea] at h; exact h) (by omega) rfl (by decide) (by decide) rfl sq_c_143 rfl (Nat.le_of_ble_eq_true rfl) ?_
      refine sr_VFi (c := 64) (ci := 8) (as := [.int (nI a)]) (st := []) hA si_213_64 sv_162 sk_213_174 (mc_isKey1 X g (n := n) hn (by omega) (by omega)) (by omega) rfl (by decide) (by decide) rfl sq_c_162 rfl (Nat.le_of_ble_eq_true rfl) ?_
      refine sr_if_eqN (tgt := 91) hA si_213_67 (by decide) (by omega) (fun c4 => absurd c4 (by omega)) (fun c4 => ?_)
      refine sr_goto (tgt := 87) hA si_213_70 (by decide) ?_
      refine sr_iconst (v := nI 1) hA si_213_87 (by decide) ?_
      refine sr_goto (tgt := 92) hA si_213_88 (by decide) ?_
      refine sr_istore_n (ls1 := [.ref 64, .int (nI r), .int (nI 1), .int (nI i)]) hA si_213_92 rfl (by rw [sq_l_213]; decide) rfl ?_
      refine sr_iincN (x := i) (y := 1) (ls1 := [.ref 64, .int (nI r), .int (nI 1), .int (nI (i + 1))]) hA si_213_93 rfl rfl (by rw [sq_l_213]; decide) rfl ?_
      refine sr_goto (tgt := 37) hA si_213_96 (by decide) ?_
      exact ih (i + 1) (by omega)
    · obtain ⟨s, hs, es⟩ := (hg i (by omega)).2 hpq
      refine sr_iload_n hA si_213_37 rfl ?_
      refine sr_aload_n hA si_213_38 rfl ?_
      refine sr_getR (r := 66) hA si_213_39 sf_213_17 (by decide) (by decide) rfl rfl rfl ?_
      refine sr_iload_n hA si_213_42 rfl ?_
      refine sr_ialdNv (v := nI z) (n := 6) hA si_213_43 (by decide) rfl rfl (by omega) (by decide) hz ?_
      refine sr_icmp_geN (tgt := 99) hA si_213_44 (by decide) (by omega) (by omega) (fun c1 => absurd c1 (by omega)) (fun c1 => ?_)
      refine sr_iload_n hA si_213_47 rfl ?_
      refine sr_if_eqN (tgt := 91) hA si_213_48 (by decide) (by omega) (fun c2 => absurd c2 (by omega)) (fun c2 => ?_)
      refine sr_iload_n hA si_213_51 rfl ?_
      refine sr_iconst (v := nI 2) hA si_213_52 (by decide) ?_
      refine sr_iremN hA si_213_53 (by omega) (by omega) (by omega) ?_
      refine sr_if_neN (tgt := 73) hA si_213_54 (by decide) (by omega) (fun c3 => ?_) (fun c3 => absurd c3 (by omega))
      refine sr_aload_n hA si_213_73 rfl ?_
      refine sr_iload_n hA si_213_74 rfl ?_
      refine sr_iload_n hA si_213_75 rfl ?_
      refine sr_VFi (c := 64) (ci := 8) (as := [.int (nI r), .int (nI i)]) (st := []) hA si_213_76 sv_143 sk_213_101 (by have h := mc_rowAt X g (r := r) (i := i) (by omega); rw [show g.1 67 (40 * r + i) = nI s from es] at h; exact h) (by omega) rfl (by decide) (by decide) rfl sq_c_143 rfl (Nat.le_of_ble_eq_true rfl) ?_
      refine sr_iconst (v := nI 0) hA si_213_79 (by decide) ?_
      refine sr_iconst (v := nI 1) hA si_213_80 (by decide) ?_
      refine sr_SFi (as := [.int (nI s), .int (nI 0), .int (nI 1)]) (st := []) hA si_213_81 ss_135 sk_213_83 (mc_inN X g (by omega) (by omega) (by omega)) (by omega) rfl rfl (Nat.le_of_ble_eq_true rfl) ?_
      refine sr_if_eqN (tgt := 91) hA si_213_84 (by decide) (by omega) (fun c4 => absurd c4 (by omega)) (fun c4 => ?_)
      refine sr_iconst (v := nI 1) hA si_213_87 (by decide) ?_
      refine sr_goto (tgt := 92) hA si_213_88 (by decide) ?_
      refine sr_istore_n (ls1 := [.ref 64, .int (nI r), .int (nI 1), .int (nI i)]) hA si_213_92 rfl (by rw [sq_l_213]; decide) rfl ?_
      refine sr_iincN (x := i) (y := 1) (ls1 := [.ref 64, .int (nI r), .int (nI 1), .int (nI (i + 1))]) hA si_213_93 rfl rfl (by rw [sq_l_213]; decide) rfl ?_
      refine sr_goto (tgt := 37) hA si_213_96 (by decide) ?_
      exact ih (i + 1) (by omega)
set_option maxRecDepth 20000 in
theorem mc_np2KH (X : sp_X) (g : sp_G) {r z n : Nat} (hr : r < 6) (hz : g.1 66 r = nI z) (hzb : z ≤ 40) (hn : g.1 64 11 = nI n) (hb : n ≤ 6) (hev : z % 2 = 0) {p : Nat} (hp : p < z) (hg : ∀ i, i < p → sp_eg (fun i => g.1 67 (40 * r + i)) n i) (hpar : p % 2 = 0) {e : Nat} (hen : n ≤ e) (heb : e < 2 ^ 31) (ex : g.1 67 (40 * r + p) = nI e) : sp_Ct X 2 213 [.ref 64, .int (nI r)] g (sp_Fi (-3) (sp_rm6 g 3)) := by
  refine sp_walkN (n := 4) sq_p_213 sq_l_213 (Nat.le_of_ble_eq_true rfl) (fun ac hA => ?_)
  show sp_Ev X ac 213 0 [.ref 64, .int (nI r), .null, .null] [] g
  refine sr_aload_n hA si_213_0 rfl ?_
  refine sr_getR (r := 66) hA si_213_1 sf_213_17 (by decide) (by decide) rfl rfl rfl ?_
  refine sr_iload_n hA si_213_4 rfl ?_
  refine sr_ialdNv (v := nI z) (n := 6) hA si_213_5 (by decide) rfl rfl (by omega) (by decide) hz ?_
  refine sr_if_geN (tgt := 15) hA si_213_6 (by decide) (by omega) ?_
  refine sr_aload_n hA si_213_15 rfl ?_
  refine sr_getR (r := 66) hA si_213_16 sf_213_17 (by decide) (by decide) rfl rfl rfl ?_
  refine sr_iload_n hA si_213_19 rfl ?_
  refine sr_ialdNv (v := nI z) (n := 6) hA si_213_20 (by decide) rfl rfl (by omega) (by decide) hz ?_
  refine sr_iconst (v := nI 2) hA si_213_21 (by decide) ?_
  refine sr_iremN hA si_213_22 (by omega) (by omega) (by omega) ?_
  refine sr_iconst (v := nI 1) hA si_213_23 (by decide) ?_
  refine sr_icmp_neN (tgt := 33) hA si_213_24 (by decide) (by omega) (by omega) (fun c2 => ?_) (fun c2 => absurd c2 (by omega))
  refine sr_iconst (v := nI 1) hA si_213_33 (by decide) ?_
  refine sr_istore_n (ls1 := [.ref 64, .int (nI r), .int (nI 1), .null]) hA si_213_34 rfl (by rw [sq_l_213]; decide) rfl ?_
  refine sr_iconst (v := nI 0) hA si_213_35 (by decide) ?_
  refine sr_istore_n (ls1 := [.ref 64, .int (nI r), .int (nI 1), .int (nI 0)]) hA si_213_36 rfl (by rw [sq_l_213]; decide) rfl ?_
  exact ml_np2KH hr hz hzb hn hb hp hg hpar hen heb ex hA p 0 (by omega)
set_option maxRecDepth 20000 in
theorem ml_np2SM {X : sp_X} {ac : sp_Ac} {g : sp_G} {r z n : Nat} (hr : r < 6) (hz : g.1 66 r = nI z) (hzb : z ≤ 40) (hn : g.1 64 11 = nI n) (hb : n ≤ 6) {p : Nat} (hp : p < z) (hg : ∀ i, i < p → sp_eg (fun i => g.1 67 (40 * r + i)) n i) (hpar : p % 2 = 1) {x : Int32} (hx : x < 0) (ex : g.1 67 (40 * r + p) = x) (hA : sp_Act X 213 2 (sp_Fi (-3) (sp_rm6 g 3)) ac) : ∀ (m : Nat) (i : Nat), i + m = p → sp_Ev X ac 213 37 [.ref 64, .int (nI r), .int (nI 1), .int (nI i)] [] g := by
  intro m
  induction m with
  | zero =>
    intro i h0_
    refine sr_iload_n hA si_213_37 rfl ?_
    refine sr_aload_n hA si_213_38 rfl ?_
    refine sr_getR (r := 66) hA si_213_39 sf_213_17 (by decide) (by decide) rfl rfl rfl ?_
    refine sr_iload_n hA si_213_42 rfl ?_
    refine sr_ialdNv (v := nI z) (n := 6) hA si_213_43 (by decide) rfl rfl (by omega) (by decide) hz ?_
    refine sr_icmp_geN (tgt := 99) hA si_213_44 (by decide) (by omega) (by omega) (fun c1 => absurd c1 (by omega)) (fun c1 => ?_)
    refine sr_iload_n hA si_213_47 rfl ?_
    refine sr_if_eqN (tgt := 91) hA si_213_48 (by decide) (by omega) (fun c2 => absurd c2 (by omega)) (fun c2 => ?_)
    refine sr_iload_n hA si_213_51 rfl ?_
    refine sr_iconst (v := nI 2) hA si_213_52 (by decide) ?_
    refine sr_iremN hA si_213_53 (by omega) (by omega) (by omega) ?_
    refine sr_if_neN (tgt := 73) hA si_213_54 (by decide) (by omega) (fun c3 => ?_) (fun c3 => absurd c3 (by omega))
    refine sr_aload_n hA si_213_73 rfl ?_
    refine sr_iload_n hA si_213_74 rfl ?_
    refine sr_iload_n hA si_213_75 rfl ?_
    refine sr_VFi (c := 64) (ci := 8) (as := [.int (nI r), .int (nI i)]) (st := []) hA si_213_76 sv_143 sk_213_101 (by have h := mc_rowAt X g (r := r) (i := i) (by omega); rw [show g.1 67 (40 * r + i) = x from (by rw [show i = p by omega]; exact ex)] at h; exact h) (by omega) rfl (by decide) (by decide) rfl sq_c_143 rfl (Nat.le_of_ble_eq_true rfl) ?_
    refine sr_iconst (v := nI 0) hA si_213_79 (by decide) ?_
    refine sr_iconst (v := nI 1) hA si_213_80 (by decide) ?_
    refine sr_SFi (as := [.int x, .int (nI 0), .int (nI 1)]) (st := []) hA si_213_81 ss_135 sk_213_83 (mc_inM X g hx (by omega)) (by omega) rfl rfl (Nat.le_of_ble_eq_true rfl) ?_
    refine sr_if_eqN (tgt := 91) hA si_213_84 (by decide) (by omega) (fun c4 => ?_) (fun c4 => absurd c4 (by omega))
    refine sr_iconst (v := nI 0) hA si_213_91 (by decide) ?_
    refine sr_istore_n (ls1 := [.ref 64, .int (nI r), .int (nI 0), .int (nI i)]) hA si_213_92 rfl (by rw [sq_l_213]; decide) rfl ?_
    refine sr_iincN (x := i) (y := 1) (ls1 := [.ref 64, .int (nI r), .int (nI 0), .int (nI (i + 1))]) hA si_213_93 rfl rfl (by rw [sq_l_213]; decide) rfl ?_
    refine sr_goto (tgt := 37) hA si_213_96 (by decide) ?_
    exact ml_npB2 hr hz hzb hA (z - (i + 1)) (i + 1) (by omega)
  | succ m ih =>
    intro i h0_
    rcases Nat.mod_two_eq_zero_or_one i with hpq | hpq
    · obtain ⟨a, ha, ea⟩ := (hg i (by omega)).1 hpq
      refine sr_iload_n hA si_213_37 rfl ?_
      refine sr_aload_n hA si_213_38 rfl ?_
      refine sr_getR (r := 66) hA si_213_39 sf_213_17 (by decide) (by decide) rfl rfl rfl ?_
      refine sr_iload_n hA si_213_42 rfl ?_
      refine sr_ialdNv (v := nI z) (n := 6) hA si_213_43 (by decide) rfl rfl (by omega) (by decide) hz ?_
      refine sr_icmp_geN (tgt := 99) hA si_213_44 (by decide) (by omega) (by omega) (fun c1 => absurd c1 (by omega)) (fun c1 => ?_)
      refine sr_iload_n hA si_213_47 rfl ?_
      refine sr_if_eqN (tgt := 91) hA si_213_48 (by decide) (by omega) (fun c2 => absurd c2 (by omega)) (fun c2 => ?_)
      refine sr_iload_n hA si_213_51 rfl ?_
      refine sr_iconst (v := nI 2) hA si_213_52 (by decide) ?_
      refine sr_iremN hA si_213_53 (by omega) (by omega) (by omega) ?_
      refine sr_if_neN (tgt := 73) hA si_213_54 (by decide) (by omega) (fun c3 => absurd c3 (by omega)) (fun c3 => ?_)
      refine sr_aload_n hA si_213_57 rfl ?_
      refine sr_aload_n hA si_213_58 rfl ?_
      refine sr_iload_n hA si_213_59 rfl ?_
      refine sr_iload_n hA si_213_60 rfl ?_
      refine sr_VFi (c := 64) (ci := 8) (as := [.int (nI r), .int (nI i)]) (st := [.ref 64]) hA si_213_61 sv_143 sk_213_101 (by have h := mc_rowAt X g (r := r) (i := i) (by omega); rw [show g.1 67 (40 * r + i) = nI a from ea] at h; exact h) (by omega) rfl (by decide) (by decide) rfl sq_c_143 rfl (Nat.le_of_ble_eq_true rfl) ?_
      refine sr_VFi (c := 64) (ci := 8) (as := [.int (nI a)]) (st := []) hA si_213_64 sv_162 sk_213_174 (mc_isKey1 X g (n := n) hn (by omega) (by omega)) (by omega) rfl (by decide) (by decide) rfl sq_c_162 rfl (Nat.le_of_ble_eq_true rfl) ?_
      refine sr_if_eqN (tgt := 91) hA si_213_67 (by decide) (by omega) (fun c4 => absurd c4 (by omega)) (fun c4 => ?_)
      refine sr_goto (tgt := 87) hA si_213_70 (by decide) ?_
      refine sr_iconst (v := nI 1) hA si_213_87 (by decide) ?_
      refine sr_goto (tgt := 92) hA si_213_88 (by decide) ?_
      refine sr_istore_n (ls1 := [.ref 64, .int (nI r), .int (nI 1), .int (nI i)]) hA si_213_92 rfl (by rw [sq_l_213]; decide) rfl ?_
      refine sr_iincN (x := i) (y := 1) (ls1 := [.ref 64, .int (nI r), .int (nI 1), .int (nI (i + 1))]) hA si_213_93 rfl rfl (by rw [sq_l_213]; decide) rfl ?_
      refine sr_goto (tgt := 37) hA si_213_96 (by decide) ?_
      exact ih (i + 1) (by omega)
    · obtain ⟨s, hs, es⟩ := (hg i (by omega)).2 hpq
      refine sr_iload_n hA si_213_37 rfl ?_
      refine sr_aload_n hA si_213_38 rfl ?_
      refine sr_getR (r := 66) hA si_213_39 sf_213_17 (by decide) (by decide) rfl rfl rfl ?_
      refine sr_iload_n hA si_213_42 rfl ?_
      refine sr_ialdNv (v := nI z) (n := 6) hA si_213_43 (by decide) rfl rfl (by omega) (by decide) hz ?_
      refine sr_icmp_geN (tgt := 99) hA si_213_44 (by decide) (by omega) (by omega) (fun c1 => absurd c1 (by omega)) (fun c1 => ?_)
      refine sr_iload_n hA si_213_47 rfl ?_
      refine sr_if_eqN (tgt := 91) hA si_213_48 (by decide) (by omega) (fun c2 => absurd c2 (by omega)) (fun c2 => ?_)
      refine sr_iload_n hA si_213_51 rfl ?_
      refine sr_iconst (v := nI 2) hA si_213_52 (by decide) ?_
      refine sr_iremN hA si_213_53 (by omega) (by omega) (by omega) ?_
      refine sr_if_neN (tgt := 73) hA si_213_54 (by decide) (by omega) (fun c3 => ?_) (fun c3 => absurd c3 (by omega))
      refine sr_aload_n hA si_213_73 rfl ?_
      refine sr_iload_n hA si_213_74 rfl ?_
      refine sr_iload_n hA si_213_75 rfl ?_
      refine sr_VFi (c := 64) (ci := 8) (as := [.int (nI r), .int (nI i)]) (st := []) hA si_213_76 sv_143 sk_213_101 (by have h := mc_rowAt X g (r := r) (i := i) (by omega); rw [show g.1 67 (40 * r + i) = nI s from es] at h; exact h) (by omega) rfl (by decide) (by decide) rfl sq_c_143 rfl (Nat.le_of_ble_eq_true rfl) ?_
      refine sr_iconst (v := nI 0) hA si_213_79 (by decide) ?_
      refine sr_iconst (v := nI 1) hA si_213_80 (by decide) ?_
      refine sr_SFi (as := [.int (nI s), .int (nI 0), .int (nI 1)]) (st := []) hA si_213_81 ss_135 sk_213_83 (mc_inN X g (by omega) (by omega) (by omega)) (by omega) rfl rfl (Nat.le_of_ble_eq_true rfl) ?_
      refine sr_if_eqN (tgt := 91) hA si_213_84 (by decide) (by omega) (fun c4 => absurd c4 (by omega)) (fun c4 => ?_)
      refine sr_iconst (v := nI 1) hA si_213_87 (by decide) ?_
      refine sr_goto (tgt := 92) hA si_213_88 (by decide) ?_
      refine sr_istore_n (ls1 := [.ref 64, .int (nI r), .int (nI 1), .int (nI i)]) hA si_213_92 rfl (by rw [sq_l_213]; decide) rfl ?_
      refine sr_iincN (x := i) (y := 1) (ls1 := [.ref 64, .int (nI r), .int (nI 1), .int (nI (i + 1))]) hA si_213_93 rfl rfl (by rw [sq_l_213]; decide) rfl ?_
      refine sr_goto (tgt := 37) hA si_213_96 (by decide) ?_
      exact ih (i + 1) (by omega)
set_option maxRecDepth 20000 in
theorem mc_np2SM (X : sp_X) (g : sp_G) {r z n : Nat} (hr : r < 6) (hz : g.1 66 r = nI z) (hzb : z ≤ 40) (hn : g.1 64 11 = nI n) (hb : n ≤ 6) (hev : z % 2 = 0) {p : Nat} (hp : p < z) (hg : ∀ i, i < p → sp_eg (fun i => g.1 67 (40 * r + i)) n i) (hpar : p % 2 = 1) {x : Int32} (hx : x < 0) (ex : g.1 67 (40 * r + p) = x) : sp_Ct X 2 213 [.ref 64, .int (nI r)] g (sp_Fi (-3) (sp_rm6 g 3)) := by
  refine sp_walkN (n := 4) sq_p_213 sq_l_213 (Nat.le_of_ble_eq_true rfl) (fun ac hA => ?_)
  show sp_Ev X ac 213 0 [.ref 64, .int (nI r), .null, .null] [] g
  refine sr_aload_n hA si_213_0 rfl ?_
  refine sr_getR (r := 66) hA si_213_1 sf_213_17 (by decide) (by decide) rfl rfl rfl ?_
  refine sr_iload_n hA si_213_4 rfl ?_
  refine sr_ialdNv (v := nI z) (n := 6) hA si_213_5 (by decide) rfl rfl (by omega) (by decide) hz ?_
  refine sr_if_geN (tgt := 15) hA si_213_6 (by decide) (by omega) ?_
  refine sr_aload_n hA si_213_15 rfl ?_
  refine sr_getR (r := 66) hA si_213_16 sf_213_17 (by decide) (by decide) rfl rfl rfl ?_
  refine sr_iload_n hA si_213_19 rfl ?_
  refine sr_ialdNv (v := nI z) (n := 6) hA si_213_20 (by decide) rfl rfl (by omega) (by decide) hz ?_
  refine sr_iconst (v := nI 2) hA si_213_21 (by decide) ?_
  refine sr_iremN hA si_213_22 (by omega) (by omega) (by omega) ?_
  refine sr_iconst (v := nI 1) hA si_213_23 (by decide) ?_
  refine sr_icmp_neN (tgt := 33) hA si_213_24 (by decide) (by omega) (by omega) (fun c2 => ?_) (fun c2 => absurd c2 (by omega))
  refine sr_iconst (v := nI 1) hA si_213_33 (by decide) ?_
  refine sr_istore_n (ls1 := [.ref 64, .int (nI r), .int (nI 1), .null]) hA si_213_34 rfl (by rw [sq_l_213]; decide) rfl ?_
  refine sr_iconst (v := nI 0) hA si_213_35 (by decide) ?_
  refine sr_istore_n (ls1 := [.ref 64, .int (nI r), .int (nI 1), .int (nI 0)]) hA si_213_36 rfl (by rw [sq_l_213]; decide) rfl ?_
  exact ml_np2SM hr hz hzb hn hb hp hg hpar hx ex hA p 0 (by omega)
set_option maxRecDepth 20000 in
theorem ml_np2SH {X : sp_X} {ac : sp_Ac} {g : sp_G} {r z n : Nat} (hr : r < 6) (hz : g.1 66 r = nI z) (hzb : z ≤ 40) (hn : g.1 64 11 = nI n) (hb : n ≤ 6) {p : Nat} (hp : p < z) (hg : ∀ i, i < p → sp_eg (fun i => g.1 67 (40 * r + i)) n i) (hpar : p % 2 = 1) {e : Nat} (hen : 2 ≤ e) (heb : e < 2 ^ 31) (ex : g.1 67 (40 * r + p) = nI e) (hA : sp_Act X 213 2 (sp_Fi (-3) (sp_rm6 g 3)) ac) : ∀ (m : Nat) (i : Nat), i + m = p → sp_Ev X ac 213 37 [.ref 64, .int (nI r), .int (nI 1), .int (nI i)] [] g := by
  intro m
  induction m with
  | zero =>
    intro i h0_
    refine sr_iload_n hA si_213_37 rfl ?_
    refine sr_aload_n hA si_213_38 rfl ?_
    refine sr_getR (r := 66) hA si_213_39 sf_213_17 (by decide) (by decide) rfl rfl rfl ?_
    refine sr_iload_n hA si_213_42 rfl ?_
    refine sr_ialdNv (v := nI z) (n := 6) hA si_213_43 (by decide) rfl rfl (by omega) (by decide) hz ?_
    refine sr_icmp_geN (tgt := 99) hA si_213_44 (by decide) (by omega) (by omega) (fun c1 => absurd c1 (by omega)) (fun c1 => ?_)
    refine sr_iload_n hA si_213_47 rfl ?_
    refine sr_if_eqN (tgt := 91) hA si_213_48 (by decide) (by omega) (fun c2 => absurd c2 (by omega)) (fun c2 => ?_)
    refine sr_iload_n hA si_213_51 rfl ?_
    refine sr_iconst (v := nI 2) hA si_213_52 (by decide) ?_
    refine sr_iremN hA si_213_53 (by omega) (by omega) (by omega) ?_
    refine sr_if_neN (tgt := 73) hA si_213_54 (by decide) (by omega) (fun c3 => ?_) (fun c3 => absurd c3 (by omega))
    refine sr_aload_n hA si_213_73 rfl ?_
    refine sr_iload_n hA si_213_74 rfl ?_
    refine sr_iload_n hA si_213_75 rfl ?_
    refine sr_VFi (c := 64) (ci := 8) (as := [.int (nI r), .int (nI i)]) (st := []) hA si_213_76 sv_143 sk_213_101 (by have h := mc_rowAt X g (r := r) (i := i) (by omega); rw [show g.1 67 (40 * r + i) = nI e from (by rw [show i = p by omega]; exact ex)] at h; exact h) (by omega) rfl (by decide) (by decide) rfl sq_c_143 rfl (Nat.le_of_ble_eq_true rfl) ?_
    refine sr_iconst (v := nI 0) hA si_213_79 (by decide) ?_
    refine sr_iconst (v := nI 1) hA si_213_80 (by decide) ?_
    refine sr_SFi (as := [.int (nI e), .int (nI 0), .int (nI 1)]) (st := []) hA si_213_81 ss_135 sk_213_83 (mc_inH X g (by omega) (by omega)) (by omega) rfl rfl (Nat.le_of_ble_eq_true rfl) ?_
    refine sr_if_eqN (tgt := 91) hA si_213_84 (by decide) (by omega) (fun c4 => ?_) (fun c4 => absurd c4 (by omega))
    refine sr_iconst (v := nI 0) hA si_213_91 (by decide) ?_
    refine sr_istore_n (ls1 := [.ref 64, .int (nI r), .int (nI 0), .int (nI i)]) hA si_213_92 rfl (by rw [sq_l_213]; decide) rfl ?_
    refine sr_iincN (x := i) (y := 1) (ls1 := [.ref 64, .int (nI r), .int (nI 0), .int (nI (i + 1))]) hA si_213_93 rfl rfl (by rw [sq_l_213]; decide) rfl ?_
    refine sr_goto (tgt := 37) hA si_213_96 (by decide) ?_
    exact ml_npB2 hr hz hzb hA (z - (i + 1)) (i + 1) (by omega)
  | succ m ih =>
    intro i h0_
    rcases Nat.mod_two_eq_zero_or_one i with hpq | hpq
    · obtain ⟨a, ha, ea⟩ := (hg i (by omega)).1 hpq
      refine sr_iload_n hA si_213_37 rfl ?_
      refine sr_aload_n hA si_213_38 rfl ?_
      refine sr_getR (r := 66) hA si_213_39 sf_213_17 (by decide) (by decide) rfl rfl rfl ?_
      refine sr_iload_n hA si_213_42 rfl ?_
      refine sr_ialdNv (v := nI z) (n := 6) hA si_213_43 (by decide) rfl rfl (by omega) (by decide) hz ?_
      refine sr_icmp_geN (tgt := 99) hA si_213_44 (by decide) (by omega) (by omega) (fun c1 => absurd c1 (by omega)) (fun c1 => ?_)
      refine sr_iload_n hA si_213_47 rfl ?_
      refine sr_if_eqN (tgt := 91) hA si_213_48 (by decide) (by omega) (fun c2 => absurd c2 (by omega)) (fun c2 => ?_)
      refine sr_iload_n hA si_213_51 rfl ?_
      refine sr_iconst (v := nI 2) hA si_213_52 (by decide) ?_
      refine sr_iremN hA si_213_53 (by omega) (by omega) (by omega) ?_
      refine sr_if_neN (tgt := 73) hA si_213_54 (by decide) (by omega) (fun c3 => absurd c3 (by omega)) (fun c3 => ?_)
      refine sr_aload_n hA si_213_57 rfl ?_
      refine sr_aload_n hA si_213_58 rfl ?_
      refine sr_iload_n hA si_213_59 rfl ?_
      refine sr_iload_n hA si_213_60 rfl ?_
      refine sr_VFi (c := 64) (ci := 8) (as := [.int (nI r), .int (nI i)]) (st := [.ref 64]) hA si_213_61 sv_143 sk_213_101 (by have h := mc_rowAt X g (r := r) (i := i) (by omega); rw [show g.1 67 (40 * r + i) = nI a from ea] at h; exact h) (by omega) rfl (by decide) (by decide) rfl sq_c_143 rfl (Nat.le_of_ble_eq_true rfl) ?_
      refine sr_VFi (c := 64) (ci := 8) (as := [.int (nI a)]) (st := []) hA si_213_64 sv_162 sk_213_174 (mc_isKey1 X g (n := n) hn (by omega) (by omega)) (by omega) rfl (by decide) (by decide) rfl sq_c_162 rfl (Nat.le_of_ble_eq_true rfl) ?_
      refine sr_if_eqN (tgt := 91) hA si_213_67 (by decide) (by omega) (fun c4 => absurd c4 (by omega)) (fun c4 => ?_)
      refine sr_goto (tgt := 87) hA si_213_70 (by decide) ?_
      refine sr_iconst (v := nI 1) hA si_213_87 (by decide) ?_
      refine sr_goto (tgt := 92) hA si_213_88 (by decide) ?_
      refine sr_istore_n (ls1 := [.ref 64, .int (nI r), .int (nI 1), .int (nI i)]) hA si_213_92 rfl (by rw [sq_l_213]; decide) rfl ?_
      refine sr_iincN (x := i) (y := 1) (ls1 := [.ref 64, .int (nI r), .int (nI 1), .int (nI (i + 1))]) hA si_213_93 rfl rfl (by rw [sq_l_213]; decide) rfl ?_
      refine sr_goto (tgt := 37) hA si_213_96 (by decide) ?_
      exact ih (i + 1) (by omega)
    · obtain ⟨s, hs, es⟩ := (hg i (by omega)).2 hpq
      refine sr_iload_n hA si_213_37 rfl ?_
      refine sr_aload_n hA si_213_38 rfl ?_
      refine sr_getR (r := 66) hA si_213_39 sf_213_17 (by decide) (by decide) rfl rfl rfl ?_
      refine sr_iload_n hA si_213_42 rfl ?_
      refine sr_ialdNv (v := nI z) (n := 6) hA si_213_43 (by decide) rfl rfl (by omega) (by decide) hz ?_
      refine sr_icmp_geN (tgt := 99) hA si_213_44 (by decide) (by omega) (by omega) (fun c1 => absurd c1 (by omega)) (fun c1 => ?_)
      refine sr_iload_n hA si_213_47 rfl ?_
      refine sr_if_eqN (tgt := 91) hA si_213_48 (by decide) (by omega) (fun c2 => absurd c2 (by omega)) (fun c2 => ?_)
      refine sr_iload_n hA si_213_51 rfl ?_
      refine sr_iconst (v := nI 2) hA si_213_52 (by decide) ?_
      refine sr_iremN hA si_213_53 (by omega) (by omega) (by omega) ?_
      refine sr_if_neN (tgt := 73) hA si_213_54 (by decide) (by omega) (fun c3 => ?_) (fun c3 => absurd c3 (by omega))
      refine sr_aload_n hA si_213_73 rfl ?_
      refine sr_iload_n hA si_213_74 rfl ?_
      refine sr_iload_n hA si_213_75 rfl ?_
      refine sr_VFi (c := 64) (ci := 8) (as := [.int (nI r), .int (nI i)]) (st := []) hA si_213_76 sv_143 sk_213_101 (by have h := mc_rowAt X g (r := r) (i := i) (by omega); rw [show g.1 67 (40 * r + i) = nI s from es] at h; exact h) (by omega) rfl (by decide) (by decide) rfl sq_c_143 rfl (Nat.le_of_ble_eq_true rfl) ?_
      refine sr_iconst (v := nI 0) hA si_213_79 (by decide) ?_
      refine sr_iconst (v := nI 1) hA si_213_80 (by decide) ?_
      refine sr_SFi (as := [.int (nI s), .int (nI 0), .int (nI 1)]) (st := []) hA si_213_81 ss_135 sk_213_83 (mc_inN X g (by omega) (by omega) (by omega)) (by omega) rfl rfl (Nat.le_of_ble_eq_true rfl) ?_
      refine sr_if_eqN (tgt := 91) hA si_213_84 (by decide) (by omega) (fun c4 => absurd c4 (by omega)) (fun c4 => ?_)
      refine sr_iconst (v := nI 1) hA si_213_87 (by decide) ?_
      refine sr_goto (tgt := 92) hA si_213_88 (by decide) ?_
      refine sr_istore_n (ls1 := [.ref 64, .int (nI r), .int (nI 1), .int (nI i)]) hA si_213_92 rfl (by rw [sq_l_213]; decide) rfl ?_
      refine sr_iincN (x := i) (y := 1) (ls1 := [.ref 64, .int (nI r), .int (nI 1), .int (nI (i + 1))]) hA si_213_93 rfl rfl (by rw [sq_l_213]; decide) rfl ?_
      refine sr_goto (tgt := 37) hA si_213_96 (by decide) ?_
      exact ih (i + 1) (by omega)
set_option maxRecDepth 20000 in
theorem mc_np2SH (X : sp_X) (g : sp_G) {r z n : Nat} (hr : r < 6) (hz : g.1 66 r = nI z) (hzb : z ≤ 40) (hn : g.1 64 11 = nI n) (hb : n ≤ 6) (hev : z % 2 = 0) {p : Nat} (hp : p < z) (hg : ∀ i, i < p → sp_eg (fun i => g.1 67 (40 * r + i)) n i) (hpar : p % 2 = 1) {e : Nat} (hen : 2 ≤ e) (heb : e < 2 ^ 31) (ex : g.1 67 (40 * r + p) = nI e) : sp_Ct X 2 213 [.ref 64, .int (nI r)] g (sp_Fi (-3) (sp_rm6 g 3)) := by
  refine sp_walkN (n := 4) sq_p_213 sq_l_213 (Nat.le_of_ble_eq_true rfl) (fun ac hA => ?_)
  show sp_Ev X ac 213 0 [.ref 64, .int (nI r), .null, .null] [] g
  refine sr_aload_n hA si_213_0 rfl ?_
  refine sr_getR (r := 66) hA si_213_1 sf_213_17 (by decide) (by decide) rfl rfl rfl ?_
  refine sr_iload_n hA si_213_4 rfl ?_
  refine sr_ialdNv (v := nI z) (n := 6) hA si_213_5 (by decide) rfl rfl (by omega) (by decide) hz ?_
  refine sr_if_geN (tgt := 15) hA si_213_6 (by decide) (by omega) ?_
  refine sr_aload_n hA si_213_15 rfl ?_
  refine sr_getR (r := 66) hA si_213_16 sf_213_17 (by decide) (by decide) rfl rfl rfl ?_
  refine sr_iload_n hA si_213_19 rfl ?_
  refine sr_ialdNv (v := nI z) (n := 6) hA si_213_20 (by decide) rfl rfl (by omega) (by decide) hz ?_
  refine sr_iconst (v := nI 2) hA si_213_21 (by decide) ?_
  refine sr_iremN hA si_213_22 (by omega) (by omega) (by omega) ?_
  refine sr_iconst (v := nI 1) hA si_213_23 (by decide) ?_
  refine sr_icmp_neN (tgt := 33) hA si_213_24 (by decide) (by omega) (by omega) (fun c2 => ?_) (fun c2 => absurd c2 (by omega))
  refine sr_iconst (v := nI 1) hA si_213_33 (by decide) ?_
  refine sr_istore_n (ls1 := [.ref 64, .int (nI r), .int (nI 1), .null]) hA si_213_34 rfl (by rw [sq_l_213]; decide) rfl ?_
  refine sr_iconst (v := nI 0) hA si_213_35 (by decide) ?_
  refine sr_istore_n (ls1 := [.ref 64, .int (nI r), .int (nI 1), .int (nI 0)]) hA si_213_36 rfl (by rw [sq_l_213]; decide) rfl ?_
  exact ml_np2SH hr hz hzb hn hb hp hg hpar hen heb ex hA p 0 (by omega)
theorem mc_np2_3 (X : sp_X) (g : sp_G) {r z n p : Nat} (hr : r < 6) (hz : g.1 66 r = nI z) (hzb : z ≤ 40) (hn : g.1 64 11 = nI n) (hb : n ≤ 6) (hev : z % 2 = 0) (hp : p < z) (hg : ∀ i, i < p → sp_eg (fun i => g.1 67 (40 * r + i)) n i) (hbad : (p % 2 = 0 ∧ sp_bk ((fun i => g.1 67 (40 * r + i)) p) n) ∨ (p % 2 = 1 ∧ sp_bk ((fun i => g.1 67 (40 * r + i)) p) 2)) : sp_Ct X 2 213 [.ref 64, .int (nI r)] g (sp_Fi (-3) (sp_rm6 g 3)) := by
  rcases hbad with ⟨h1, hx | ⟨e, e1, e2, e3⟩⟩ | ⟨h1, hx | ⟨e, e1, e2, e3⟩⟩
  · exact mc_np2KM X g hr hz hzb hn hb hev hp hg h1 hx rfl
  · exact mc_np2KH X g hr hz hzb hn hb hev hp hg h1 e1 e2 e3
  · exact mc_np2SM X g hr hz hzb hn hb hev hp hg h1 hx rfl
  · exact mc_np2SH X g hr hz hzb hn hb hev hp hg h1 e1 e2 e3
