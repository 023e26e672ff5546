/-- no key of n -/
def sp_bk (x : Int32) (n : Nat) : Prop := x < 0 ∨ ∃ e, n ≤ e ∧ e < 2 ^ 31 ∧ x = nI e
theorem sp_ks_or (f : Nat → Int32) (n : Nat) : ∀ z, sp_ks f n z ∨ ∃ b, b < z ∧ sp_ks f n b ∧ sp_bk (f b) n
  | 0 => Or.inl (fun i hi => absurd hi (by omega))
  | z + 1 => by
    rcases sp_ks_or f n z with h | ⟨b, h1, h2, h3⟩
    · rcases sp_cls (f z) with hx | ⟨e, he, ee⟩
      · exact Or.inr ⟨z, by omega, h, Or.inl hx⟩
      · by_cases hen : e < n
        · refine Or.inl (fun i hi => ?_)
          by_cases hiz : i = z
          · subst hiz; exact ⟨e, hen, ee⟩
          · exact h i (by omega)
        · exact Or.inr ⟨z, by omega, h, Or.inr ⟨e, by omega, he, ee⟩⟩
    · exact Or.inr ⟨b, by omega, h2, h3⟩
set_option maxRecDepth 20000 in
theorem xc_pwr1 (X : sp_X) (g : sp_G) {r : Nat} (hr : r < 6) (hz : g.1 9 r = -1) : sp_Ct X 2 73 [.ref 0, .int (nI r)] g (sp_Fi (nI 1) g) := by
  refine sp_walkN (n := 4) sq_p_73 sq_l_73 (Nat.le_of_ble_eq_true rfl) (fun a hA => ?_)
  show sp_Ev X a 73 0 [.ref 0, .int (nI r), .null, .null] [] g
  refine sr_aload_n hA si_73_0 rfl ?_
  refine sr_getR (r := 1) hA si_73_1 sf_73_14 (by decide) (by decide) rfl rfl rfl ?_
  refine sr_iload_n hA si_73_4 rfl ?_
  refine sr_VFi (c := 1) (ci := 5) (as := [.int (nI r)]) (st := []) hA si_73_5 sv_16 sk_73_99 (xc_thereR0 X g (by omega) hz) (by omega) rfl (by decide) (by decide) rfl sq_c_16 rfl (Nat.le_of_ble_eq_true rfl) ?_
  refine sr_if_neN (tgt := 13) hA si_73_8 (by decide) (by omega) (fun c1 => absurd c1 (by omega)) (fun c1 => ?_)
  refine sr_iconst (v := nI 1) hA si_73_11 (by decide) ?_
  exact sr_iretF hA si_73_12 sq_r_73 rfl rfl
set_option maxRecDepth 20000 in
theorem xc_pwr5 (X : sp_X) (g : sp_G) {r : Nat} (hr : r < 6) {z : Nat} (hz : g.1 9 r = nI z) (hz12 : 12 < z) (hzb : z ≤ 40) : sp_Ct X 2 73 [.ref 0, .int (nI r)] g (sp_Fi (nI 5) g) := by
  refine sp_walkN (n := 4) sq_p_73 sq_l_73 (Nat.le_of_ble_eq_true rfl) (fun a hA => ?_)
  show sp_Ev X a 73 0 [.ref 0, .int (nI r), .null, .null] [] g
  refine sr_aload_n hA si_73_0 rfl ?_
  refine sr_getR (r := 1) hA si_73_1 sf_73_14 (by decide) (by decide) rfl rfl rfl ?_
  refine sr_iload_n hA si_73_4 rfl ?_
  refine sr_VFi (c := 1) (ci := 5) (as := [.int (nI r)]) (st := []) hA si_73_5 sv_16 sk_73_99 (xc_thereR1 X g (by omega) hz (by omega)) (by omega) rfl (by decide) (by decide) rfl sq_c_16 rfl (Nat.le_of_ble_eq_true rfl) ?_
  refine sr_if_neN (tgt := 13) hA si_73_8 (by decide) (by omega) (fun c1 => ?_) (fun c1 => absurd c1 (by omega))
  refine sr_aload_n hA si_73_13 rfl ?_
  refine sr_getR (r := 1) hA si_73_14 sf_73_14 (by decide) (by decide) rfl rfl rfl ?_
  refine sr_iload_n hA si_73_17 rfl ?_
  refine sr_VFi (c := 1) (ci := 5) (as := [.int (nI r)]) (st := []) hA si_73_18 sv_26 sk_73_114 (xc_sizeR X g (z := nI z) (by omega) hz) (by omega) rfl (by decide) (by decide) rfl sq_c_26 rfl (Nat.le_of_ble_eq_true rfl) ?_
  refine sr_istore_n (ls1 := [.ref 0, .int (nI r), .int (nI z), .null]) hA si_73_21 rfl (by rw [sq_l_73]; decide) rfl ?_
  refine sr_iload_n hA si_73_22 rfl ?_
  refine sr_bipush (v := nI 12) hA si_73_23 (by decide) ?_
  refine sr_icmp_leN (tgt := 30) hA si_73_25 (by decide) (by omega) (by omega) (fun c2 => absurd c2 (by omega)) (fun c2 => ?_)
  refine sr_iconst (v := nI 5) hA si_73_28 (by decide) ?_
  exact sr_iretF hA si_73_29 sq_r_73 rfl rfl
set_option maxRecDepth 20000 in
theorem xl_pwr0 {X : sp_X} {a : sp_Ac} {g : sp_G} {r : Nat} (hr : r < 6) {z : Nat} (hz : g.1 9 r = nI z) (hzb : z ≤ 12) {n : Nat} (hn : g.1 18 3 = nI n) (hb : n ≤ 6) (hks : sp_ks (fun i => g.1 (3 + r) i) n z) (hA : sp_Act X 73 2 (sp_Fi (nI 0) g) a) : ∀ (m : Nat) (i : Nat), i + m = z → sp_Ev X a 73 32 [.ref 0, .int (nI r), .int (nI z), .int (nI i)] [] g := by
  intro m
  induction m with
  | zero =>
    intro i h0_
    refine sr_iload_n hA si_73_32 rfl ?_
    refine sr_iload_n hA si_73_33 rfl ?_
    refine sr_icmp_geN (tgt := 64) hA si_73_34 (by decide) (by omega) (by omega) (fun c1 => ?_) (fun c1 => absurd c1 (by omega))
    refine sr_iconst (v := nI 0) hA si_73_64 (by decide) ?_
    exact sr_iretF hA si_73_65 sq_r_73 rfl rfl
  | succ m ih =>
    intro i h0_
    obtain ⟨a, ha, ea⟩ := hks i (by omega)
    refine sr_iload_n hA si_73_32 rfl ?_
    refine sr_iload_n hA si_73_33 rfl ?_
    refine sr_icmp_geN (tgt := 64) hA si_73_34 (by decide) (by omega) (by omega) (fun c1 => absurd c1 (by omega)) (fun c1 => ?_)
    refine sr_aload_n hA si_73_37 rfl ?_
    refine sr_getR (r := 18) hA si_73_38 sf_73_32 (by decide) (by decide) rfl rfl rfl ?_
    refine sr_aload_n hA si_73_41 rfl ?_
    refine sr_getR (r := 1) hA si_73_42 sf_73_14 (by decide) (by decide) rfl rfl rfl ?_
    refine sr_iload_n hA si_73_45 rfl ?_
    refine sr_iload_n hA si_73_46 rfl ?_
    refine sr_VFi (c := 1) (ci := 5) (as := [.int (nI r), .int (nI i)]) (st := [.ref 18]) hA si_73_47 sv_18 sk_73_88 (xc_getR X g (v := nI a) (by omega) (by omega) ea) (by omega) rfl (by decide) (by decide) rfl sq_c_18 rfl (Nat.le_of_ble_eq_true rfl) ?_
    refine sr_VFi (c := 18) (ci := 0) (as := [.int (nI a)]) (st := []) hA si_73_50 sv_43 sk_73_148 (xc_isKey1 X g (n := n) hn (by omega) (by omega)) (by omega) rfl (by decide) (by decide) rfl sq_c_43 rfl (Nat.le_of_ble_eq_true rfl) ?_
    refine sr_if_neN (tgt := 58) hA si_73_53 (by decide) (by omega) (fun c2 => ?_) (fun c2 => absurd c2 (by omega))
    refine sr_iincN (x := i) (y := 1) (ls1 := [.ref 0, .int (nI r), .int (nI z), .int (nI (i + 1))]) hA si_73_58 rfl rfl (by rw [sq_l_73]; decide) rfl ?_
    refine sr_goto (tgt := 32) hA si_73_61 (by decide) ?_
    exact ih (i + 1) (by omega)
set_option maxRecDepth 20000 in
theorem xc_pwr0 (X : sp_X) (g : sp_G) {r : Nat} (hr : r < 6) {z : Nat} (hz : g.1 9 r = nI z) (hzb : z ≤ 12) {n : Nat} (hn : g.1 18 3 = nI n) (hb : n ≤ 6) (hks : sp_ks (fun i => g.1 (3 + r) i) n z) : sp_Ct X 2 73 [.ref 0, .int (nI r)] g (sp_Fi (nI 0) g) := by
  refine sp_walkN (n := 4) sq_p_73 sq_l_73 (Nat.le_of_ble_eq_true rfl) (fun a hA => ?_)
  show sp_Ev X a 73 0 [.ref 0, .int (nI r), .null, .null] [] g
  refine sr_aload_n hA si_73_0 rfl ?_
  refine sr_getR (r := 1) hA si_73_1 sf_73_14 (by decide) (by decide) rfl rfl rfl ?_
  refine sr_iload_n hA si_73_4 rfl ?_
  refine sr_VFi (c := 1) (ci := 5) (as := [.int (nI r)]) (st := []) hA si_73_5 sv_16 sk_73_99 (xc_thereR1 X g (by omega) hz (by omega)) (by omega) rfl (by decide) (by decide) rfl sq_c_16 rfl (Nat.le_of_ble_eq_true rfl) ?_
  refine sr_if_neN (tgt := 13) hA si_73_8 (by decide) (by omega) (fun c1 => ?_) (fun c1 => absurd c1 (by omega))
  refine sr_aload_n hA si_73_13 rfl ?_
  refine sr_getR (r := 1) hA si_73_14 sf_73_14 (by decide) (by decide) rfl rfl rfl ?_
  refine sr_iload_n hA si_73_17 rfl ?_
  refine sr_VFi (c := 1) (ci := 5) (as := [.int (nI r)]) (st := []) hA si_73_18 sv_26 sk_73_114 (xc_sizeR X g (z := nI z) (by omega) hz) (by omega) rfl (by decide) (by decide) rfl sq_c_26 rfl (Nat.le_of_ble_eq_true rfl) ?_
  refine sr_istore_n (ls1 := [.ref 0, .int (nI r), .int (nI z), .null]) hA si_73_21 rfl (by rw [sq_l_73]; decide) rfl ?_
  refine sr_iload_n hA si_73_22 rfl ?_
  refine sr_bipush (v := nI 12) hA si_73_23 (by decide) ?_
  refine sr_icmp_leN (tgt := 30) hA si_73_25 (by decide) (by omega) (by omega) (fun c2 => ?_) (fun c2 => absurd c2 (by omega))
  refine sr_iconst (v := nI 0) hA si_73_30 (by decide) ?_
  refine sr_istore_n (ls1 := [.ref 0, .int (nI r), .int (nI z), .int (nI 0)]) hA si_73_31 rfl (by rw [sq_l_73]; decide) rfl ?_
  exact xl_pwr0 hr hz hzb hn hb hks hA z 0 (by omega)
set_option maxRecDepth 20000 in
theorem xl_pwr3M {X : sp_X} {a : sp_Ac} {g : sp_G} {r : Nat} (hr : r < 6) {z : Nat} (hz : g.1 9 r = nI z) (hzb : z ≤ 12) {n : Nat} (hn : g.1 18 3 = nI n) (hb : n ≤ 6) {b : Nat} (hbz : b < z) (hks : sp_ks (fun i => g.1 (3 + r) i) n b) {x : Int32} (hx : x < 0) (ex : g.1 (3 + r) b = x) (hA : sp_Act X 73 2 (sp_Fi (nI 3) g) a) : ∀ (m : Nat) (i : Nat), i + m = b → sp_Ev X a 73 32 [.ref 0, .int (nI r), .int (nI z), .int (nI i)] [] g := by
  intro m
  induction m with
  | zero =>
    intro i h0_
    refine sr_iload_n hA si_73_32 rfl ?_
    refine sr_iload_n hA si_73_33 rfl ?_
    refine sr_icmp_geN (tgt := 64) hA si_73_34 (by decide) (by omega) (by omega) (fun c1 => absurd c1 (by omega)) (fun c1 => ?_)
    refine sr_aload_n hA si_73_37 rfl ?_
    refine sr_getR (r := 18) hA si_73_38 sf_73_32 (by decide) (by decide) rfl rfl rfl ?_
    refine sr_aload_n hA si_73_41 rfl ?_
    refine sr_getR (r := 1) hA si_73_42 sf_73_14 (by decide) (by decide) rfl rfl rfl ?_
    refine sr_iload_n hA si_73_45 rfl ?_
    refine sr_iload_n hA si_73_46 rfl ?_
    refine sr_VFi (c := 1) (ci := 5) (as := [.int (nI r), .int (nI i)]) (st := [.ref 18]) hA si_73_47 sv_18 sk_73_88 (xc_getR X g (v := x) (by omega) (by omega) (by rw [show i = b by omega]; exact ex)) (by omega) rfl (by decide) (by decide) rfl sq_c_18 rfl (Nat.le_of_ble_eq_true rfl) ?_
    refine sr_VFi (c := 18) (ci := 0) (as := [.int x]) (st := []) hA si_73_50 sv_43 sk_73_148 (xc_isKeyM X g hx) (by omega) rfl (by decide) (by decide) rfl sq_c_43 rfl (Nat.le_of_ble_eq_true rfl) ?_
    refine sr_if_neN (tgt := 58) hA si_73_53 (by decide) (by omega) (fun c2 => absurd c2 (by omega)) (fun c2 => ?_)
    refine sr_iconst (v := nI 3) hA si_73_56 (by decide) ?_
    exact sr_iretF hA si_73_57 sq_r_73 rfl rfl
  | succ m ih =>
    intro i h0_
    obtain ⟨a, ha, ea⟩ := hks i (by omega)
    refine sr_iload_n hA si_73_32 rfl ?_
    refine sr_iload_n hA si_73_33 rfl ?_
    refine sr_icmp_geN (tgt := 64) hA si_73_34 (by decide) (by omega) (by omega) (fun c1 => absurd c1 (by omega)) (fun c1 => ?_)
    refine sr_aload_n hA si_73_37 rfl ?_
    refine sr_getR (r := 18) hA si_73_38 sf_73_32 (by decide) (by decide) rfl rfl rfl ?_
    refine sr_aload_n hA si_73_41 rfl ?_
    refine sr_getR (r := 1) hA si_73_42 sf_73_14 (by decide) (by decide) rfl rfl rfl ?_
    refine sr_iload_n hA si_73_45 rfl ?_
    refine sr_iload_n hA si_73_46 rfl ?_
    refine sr_VFi (c := 1) (ci := 5) (as := [.int (nI r), .int (nI i)]) (st := [.ref 18]) hA si_73_47 sv_18 sk_73_88 (xc_getR X g (v := nI a) (by omega) (by omega) ea) (by omega) rfl (by decide) (by decide) rfl sq_c_18 rfl (Nat.le_of_ble_eq_true rfl) ?_
    refine sr_VFi (c := 18) (ci := 0) (as := [.int (nI a)]) (st := []) hA si_73_50 sv_43 sk_73_148 (xc_isKey1 X g (n := n) hn (by omega) (by omega)) (by omega) rfl (by decide) (by decide) rfl sq_c_43 rfl (Nat.le_of_ble_eq_true rfl) ?_
    refine sr_if_neN (tgt := 58) hA si_73_53 (by decide) (by omega) (fun c2 => ?_) (fun c2 => absurd c2 (by omega))
    refine sr_iincN (x := i) (y := 1) (ls1 := [.ref 0, .int (nI r), .int (nI z), .int (nI (i + 1))]) hA si_73_58 rfl rfl (by rw [sq_l_73]; decide) rfl ?_
    refine sr_goto (tgt := 32) hA si_73_61 (by decide) ?_
    exact ih (i + 1) (by omega)
set_option maxRecDepth 20000 in
theorem xc_pwr3M (X : sp_X) (g : sp_G) {r : Nat} (hr : r < 6) {z : Nat} (hz : g.1 9 r = nI z) (hzb : z ≤ 12) {n : Nat} (hn : g.1 18 3 = nI n) (hb : n ≤ 6) {b : Nat} (hbz : b < z) (hks : sp_ks (fun i => g.1 (3 + r) i) n b) {x : Int32} (hx : x < 0) (ex : g.1 (3 + r) b = x) : sp_Ct X 2 73 [.ref 0, .int (nI r)] g (sp_Fi (nI 3) g) := by
  refine sp_walkN (n := 4) sq_p_73 sq_l_73 (Nat.le_of_ble_eq_true rfl) (fun a hA => ?_)
  show sp_Ev X a 73 0 [.ref 0, .int (nI r), .null, .null] [] g
  refine sr_aload_n hA si_73_0 rfl ?_
  refine sr_getR (r := 1) hA si_73_1 sf_73_14 (by decide) (by decide) rfl rfl rfl ?_
  refine sr_iload_n hA si_73_4 rfl ?_
  refine sr_VFi (c := 1) (ci := 5) (as := [.int (nI r)]) (st := []) hA si_73_5 sv_16 sk_73_99 (xc_thereR1 X g (by omega) hz (by omega)) (by omega) rfl (by decide) (by decide) rfl sq_c_16 rfl (Nat.le_of_ble_eq_true rfl) ?_
  refine sr_if_neN (tgt := 13) hA si_73_8 (by decide) (by omega) (fun c1 => ?_) (fun c1 => absurd c1 (by omega))
  refine sr_aload_n hA si_73_13 rfl ?_
  refine sr_getR (r := 1) hA si_73_14 sf_73_14 (by decide) (by decide) rfl rfl rfl ?_
  refine sr_iload_n hA si_73_17 rfl ?_
  refine sr_VFi (c := 1) (ci := 5) (as := [.int (nI r)]) (st := []) hA si_73_18 sv_26 sk_73_114 (xc_sizeR X g (z := nI z) (by omega) hz) (by omega) rfl (by decide) (by decide) rfl sq_c_26 rfl (Nat.le_of_ble_eq_true rfl) ?_
  refine sr_istore_n (ls1 := [.ref 0, .int (nI r), .int (nI z), .null]) hA si_73_21 rfl (by rw [sq_l_73]; decide) rfl ?_
  refine sr_iload_n hA si_73_22 rfl ?_
  refine sr_bipush (v := nI 12) hA si_73_23 (by decide) ?_
  refine sr_icmp_leN (tgt := 30) hA si_73_25 (by decide) (by omega) (by omega) (fun c2 => ?_) (fun c2 => absurd c2 (by omega))
  refine sr_iconst (v := nI 0) hA si_73_30 (by decide) ?_
  refine sr_istore_n (ls1 := [.ref 0, .int (nI r), .int (nI z), .int (nI 0)]) hA si_73_31 rfl (by rw [sq_l_73]; decide) rfl ?_
  exact xl_pwr3M hr hz hzb hn hb hbz hks hx ex hA b 0 (by omega)
set_option maxRecDepth 20000 in
theorem xl_pwr3H {X : sp_X} {a : sp_Ac} {g : sp_G} {r : Nat} (hr : r < 6) {z : Nat} (hz : g.1 9 r = nI z) (hzb : z ≤ 12) {n : Nat} (hn : g.1 18 3 = nI n) (hb : n ≤ 6) {b : Nat} (hbz : b < z) (hks : sp_ks (fun i => g.1 (3 + r) i) n b) {e : Nat} (hen : n ≤ e) (heb : e < 2 ^ 31) (ex : g.1 (3 + r) b = nI e) (hA : sp_Act X 73 2 (sp_Fi (nI 3) g) a) : ∀ (m : Nat) (i : Nat), i + m = b → sp_Ev X a 73 32 [.ref 0, .int (nI r), .int (nI z), .int (nI i)] [] g := by
  intro m
  induction m with
  | zero =>
    intro i h0_
    refine sr_iload_n hA si_73_32 rfl ?_
    refine sr_iload_n hA si_73_33 rfl ?_
    refine sr_icmp_geN (tgt := 64) hA si_73_34 (by decide) (by omega) (by omega) (fun c1 => absurd c1 (by omega)) (fun c1 => ?_)
    refine sr_aload_n hA si_73_37 rfl ?_
    refine sr_getR (r := 18) hA si_73_38 sf_73_32 (by decide) (by decide) rfl rfl rfl ?_
    refine sr_aload_n hA si_73_41 rfl ?_
    refine sr_getR (r := 1) hA si_73_42 sf_73_14 (by decide) (by decide) rfl rfl rfl ?_
    refine sr_iload_n hA si_73_45 rfl ?_
    refine sr_iload_n hA si_73_46 rfl ?_
    refine sr_VFi (c := 1) (ci := 5) (as := [.int (nI r), .int (nI i)]) (st := [.ref 18]) hA si_73_47 sv_18 sk_73_88 (xc_getR X g (v := nI e) (by omega) (by omega) (by rw [show i = b by omega]; exact ex)) (by omega) rfl (by decide) (by decide) rfl sq_c_18 rfl (Nat.le_of_ble_eq_true rfl) ?_
    refine sr_VFi (c := 18) (ci := 0) (as := [.int (nI e)]) (st := []) hA si_73_50 sv_43 sk_73_148 (xc_isKeyH X g (n := n) hn (by omega) (by omega)) (by omega) rfl (by decide) (by decide) rfl sq_c_43 rfl (Nat.le_of_ble_eq_true rfl) ?_
    refine sr_if_neN (tgt := 58) hA si_73_53 (by decide) (by omega) (fun c2 => absurd c2 (by omega)) (fun c2 => ?_)
    refine sr_iconst (v := nI 3) hA si_73_56 (by decide) ?_
    exact sr_iretF hA si_73_57 sq_r_73 rfl rfl
  | succ m ih =>
    intro i h0_
    obtain ⟨a, ha, ea⟩ := hks i (by omega)
    refine sr_iload_n hA si_73_32 rfl ?_
    refine sr_iload_n hA si_73_33 rfl ?_
    refine sr_icmp_geN (tgt := 64) hA si_73_34 (by decide) (by omega) (by omega) (fun c1 => absurd c1 (by omega)) (fun c1 => ?_)
    refine sr_aload_n hA si_73_37 rfl ?_
    refine sr_getR (r := 18) hA si_73_38 sf_73_32 (by decide) (by decide) rfl rfl rfl ?_
    refine sr_aload_n hA si_73_41 rfl ?_
    refine sr_getR (r := 1) hA si_73_42 sf_73_14 (by decide) (by decide) rfl rfl rfl ?_
    refine sr_iload_n hA si_73_45 rfl ?_
    refine sr_iload_n hA si_73_46 rfl ?_
    refine sr_VFi (c := 1) (ci := 5) (as := [.int (nI r), .int (nI i)]) (st := [.ref 18]) hA si_73_47 sv_18 sk_73_88 (xc_getR X g (v := nI a) (by omega) (by omega) ea) (by omega) rfl (by decide) (by decide) rfl sq_c_18 rfl (Nat.le_of_ble_eq_true rfl) ?_
    refine sr_VFi (c := 18) (ci := 0) (as := [.int (nI a)]) (st := []) hA si_73_50 sv_43 sk_73_148 (xc_isKey1 X g (n := n) hn (by omega) (by omega)) (by omega) rfl (by decide) (by decide) rfl sq_c_43 rfl (Nat.le_of_ble_eq_true rfl) ?_
    refine sr_if_neN (tgt := 58) hA si_73_53 (by decide) (by omega) (fun c2 => ?_) (fun c2 => absurd c2 (by omega))
    refine sr_iincN (x := i) (y := 1) (ls1 := [.ref 0, .int (nI r), .int (nI z), .int (nI (i + 1))]) hA si_73_58 rfl rfl (by rw [sq_l_73]; decide) rfl ?_
    refine sr_goto (tgt := 32) hA si_73_61 (by decide) ?_
    exact ih (i + 1) (by omega)
set_option maxRecDepth 20000 in
theorem xc_pwr3H (X : sp_X) (g : sp_G) {r : Nat} (hr : r < 6) {z : Nat} (hz : g.1 9 r = nI z) (hzb : z ≤ 12) {n : Nat} (hn : g.1 18 3 = nI n) (hb : n ≤ 6) {b : Nat} (hbz : b < z) (hks : sp_ks (fun i => g.1 (3 + r) i) n b) {e : Nat} (hen : n ≤ e) (heb : e < 2 ^ 31) (ex : g.1 (3 + r) b = nI e) : sp_Ct X 2 73 [.ref 0, .int (nI r)] g (sp_Fi (nI 3) g) := by
  refine sp_walkN (n := 4) sq_p_73 sq_l_73 (Nat.le_of_ble_eq_true rfl) (fun a hA => ?_)
  show sp_Ev X a 73 0 [.ref 0, .int (nI r), .null, .null] [] g
  refine sr_aload_n hA si_73_0 rfl ?_
  refine sr_getR (r := 1) hA si_73_1 sf_73_14 (by decide) (by decide) rfl rfl rfl ?_
  refine sr_iload_n hA si_73_4 rfl ?_
  refine sr_VFi (c := 1) (ci := 5) (as := [.int (nI r)]) (st := []) hA si_73_5 sv_16 sk_73_99 (xc_thereR1 X g (by omega) hz (by omega)) (by omega) rfl (by decide) (by decide) rfl sq_c_16 rfl (Nat.le_of_ble_eq_true rfl) ?_
  refine sr_if_neN (tgt := 13) hA si_73_8 (by decide) (by omega) (fun c1 => ?_) (fun c1 => absurd c1 (by omega))
  refine sr_aload_n hA si_73_13 rfl ?_
  refine sr_getR (r := 1) hA si_73_14 sf_73_14 (by decide) (by decide) rfl rfl rfl ?_
  refine sr_iload_n hA si_73_17 rfl ?_
  refine sr_VFi (c := 1) (ci := 5) (as := [.int (nI r)]) (st := []) hA si_73_18 sv_26 sk_73_114 (xc_sizeR X g (z := nI z) (by omega) hz) (by omega) rfl (by decide) (by decide) rfl sq_c_26 rfl (Nat.le_of_ble_eq_true rfl) ?_
  refine sr_istore_n (ls1 := [.ref 0, .int (nI r), .int (nI z), .null]) hA si_73_21 rfl (by rw [sq_l_73]; decide) rfl ?_
  refine sr_iload_n hA si_73_22 rfl ?_
  refine sr_bipush (v := nI 12) hA si_73_23 (by decide) ?_
  refine sr_icmp_leN (tgt := 30) hA si_73_25 (by decide) (by omega) (by omega) (fun c2 => ?_) (fun c2 => absurd c2 (by omega))
  refine sr_iconst (v := nI 0) hA si_73_30 (by decide) ?_
  refine sr_istore_n (ls1 := [.ref 0, .int (nI r), .int (nI z), .int (nI 0)]) hA si_73_31 rfl (by rw [sq_l_73]; decide) rfl ?_
  exact xl_pwr3H hr hz hzb hn hb hbz hks hen heb ex hA b 0 (by omega)
theorem xc_pwr3 (X : sp_X) (g : sp_G) {r z n b : Nat} (hr : r < 6) (hz : g.1 9 r = nI z) (hzb : z ≤ 12) (hn : g.1 18 3 = nI n) (hb : n ≤ 6) (hbz : b < z) (hks : sp_ks (fun i => g.1 (3 + r) i) n b) (hbk : sp_bk (g.1 (3 + r) b) n) : sp_Ct X 2 73 [.ref 0, .int (nI r)] g (sp_Fi (nI 3) g) := by
  rcases hbk with hx | ⟨e, h1, h2, h3⟩
  · exact xc_pwr3M X g hr hz hzb hn hb hbz hks hx rfl
  · exact xc_pwr3H X g hr hz hzb hn hb hbz hks h1 h2 h3
set_option maxRecDepth 20000 in
theorem mc_po5 (X : sp_X) (g : sp_G) {r : Nat} (hr : r < 6) {z : Nat} (hz : g.1 66 r = nI z) (hz12 : 12 < z) (hzb : z ≤ 40) : sp_Ct X 2 191 [.ref 64, .int (nI r)] g (sp_Fi (-3) (sp_rm6 g 5)) := by
  refine sp_walkN (n := 4) sq_p_191 sq_l_191 (Nat.le_of_ble_eq_true rfl) (fun a hA => ?_)
  show sp_Ev X a 191 0 [.ref 64, .int (nI r), .null, .null] [] g
  refine sr_aload_n hA si_191_0 rfl ?_
  refine sr_getR (r := 66) hA si_191_1 sf_191_17 (by decide) (by decide) rfl rfl rfl ?_
  refine sr_iload_n hA si_191_4 rfl ?_
  refine sr_ialdNv (v := nI z) (n := 6) hA si_191_5 (by decide) rfl rfl (by omega) (by decide) hz ?_
  refine sr_bipush (v := nI 12) hA si_191_6 (by decide) ?_
  refine sr_icmp_leN (tgt := 17) hA si_191_8 (by decide) (by omega) (by omega) (fun c1 => absurd c1 (by omega)) (fun c1 => ?_)
  refine sr_aload_n hA si_191_11 rfl ?_
  refine sr_iconst (v := nI 5) hA si_191_12 (by decide) ?_
  refine sr_VFi (c := 64) (ci := 8) (as := [.int (nI 5)]) (st := []) hA si_191_13 sv_141 sk_191_97 (mc_meets X g (by omega)) (by omega) rfl (by decide) (by decide) rfl sq_c_141 rfl (Nat.le_of_ble_eq_true rfl) ?_
  exact sr_iretF hA si_191_16 sq_r_191 rfl rfl
set_option maxRecDepth 20000 in
theorem ml_po0 {X : sp_X} {a : sp_Ac} {g : sp_G} {r : Nat} (hr : r < 6) {z : Nat} (hz : g.1 66 r = nI z) (hzb : z ≤ 12) {n : Nat} (hn : g.1 64 11 = nI n) (hb : n ≤ 6) (hks : sp_ks (fun i => g.1 67 (40 * r + i)) n z) (hA : sp_Act X 191 2 (sp_Fi (nI 0) g) a) : ∀ (m : Nat) (i : Nat), i + m = z → sp_Ev X a 191 21 [.ref 64, .int (nI r), .int (nI 1), .int (nI i)] [] g := by
  intro m
  induction m with
  | zero =>
    intro i h0_
    refine sr_iload_n hA si_191_21 rfl ?_
    refine sr_aload_n hA si_191_22 rfl ?_
    refine sr_getR (r := 66) hA si_191_23 sf_191_17 (by decide) (by decide) rfl rfl rfl ?_
    refine sr_iload_n hA si_191_26 rfl ?_
    refine sr_ialdNv (v := nI z) (n := 6) hA si_191_27 (by decide) rfl rfl (by omega) (by decide) hz ?_
    refine sr_icmp_geN (tgt := 60) hA si_191_28 (by decide) (by omega) (by omega) (fun c1 => ?_) (fun c1 => absurd c1 (by omega))
    refine sr_iload_n hA si_191_60 rfl ?_
    refine sr_if_eqN (tgt := 68) hA si_191_61 (by decide) (by omega) (fun c2 => absurd c2 (by omega)) (fun c2 => ?_)
    refine sr_iconst (v := nI 0) hA si_191_64 (by decide) ?_
    refine sr_goto (tgt := 73) hA si_191_65 (by decide) ?_
    exact sr_iretF hA si_191_73 sq_r_191 rfl rfl
  | succ m ih =>
    intro i h0_
    obtain ⟨a, ha, ea⟩ := hks i (by omega)
    refine sr_iload_n hA si_191_21 rfl ?_
    refine sr_aload_n hA si_191_22 rfl ?_
    refine sr_getR (r := 66) hA si_191_23 sf_191_17 (by decide) (by decide) rfl rfl rfl ?_
    refine sr_iload_n hA si_191_26 rfl ?_
    refine sr_ialdNv (v := nI z) (n := 6) hA si_191_27 (by decide) rfl rfl (by omega) (by decide) hz ?_
    refine sr_icmp_geN (tgt := 60) hA si_191_28 (by decide) (by omega) (by omega) (fun c1 => absurd c1 (by omega)) (fun c1 => ?_)
    refine sr_iload_n hA si_191_31 rfl ?_
    refine sr_if_eqN (tgt := 52) hA si_191_32 (by decide) (by omega) (fun c2 => absurd c2 (by omega)) (fun c2 => ?_)
    refine sr_aload_n hA si_191_35 rfl ?_
    refine sr_aload_n hA si_191_36 rfl ?_
    refine sr_iload_n hA si_191_37 rfl ?_
    refine sr_iload_n hA si_191_38 rfl ?_
    refine sr_VFi (c := 64) (ci := 8) (as := [.int (nI r), .int (nI i)]) (st := [.ref 64]) hA si_191_39 sv_143 sk_191_101 (by have h := mc_rowAt X g (r := r) (i := i) (by omega); rw [show g.1 67 (40 * r + i) = nI a from ea] at h; exact h) (by omega) rfl (by decide) (by decide) rfl sq_c_143 rfl (Nat.le_of_ble_eq_true rfl) ?_
    refine sr_VFi (c := 64) (ci := 8) (as := [.int (nI a)]) (st := []) hA si_191_42 sv_162 sk_191_174 (mc_isKey1 X g (n := n) hn (by omega) (by omega)) (by omega) rfl (by decide) (by decide) rfl sq_c_162 rfl (Nat.le_of_ble_eq_true rfl) ?_
    refine sr_if_eqN (tgt := 52) hA si_191_45 (by decide) (by omega) (fun c3 => absurd c3 (by omega)) (fun c3 => ?_)
    refine sr_iconst (v := nI 1) hA si_191_48 (by decide) ?_
    refine sr_goto (tgt := 53) hA si_191_49 (by decide) ?_
    refine sr_istore_n (ls1 := [.ref 64, .int (nI r), .int (nI 1), .int (nI i)]) hA si_191_53 rfl (by rw [sq_l_191]; decide) rfl ?_
    refine sr_iincN (x := i) (y := 1) (ls1 := [.ref 64, .int (nI r), .int (nI 1), .int (nI (i + 1))]) hA si_191_54 rfl rfl (by rw [sq_l_191]; decide) rfl ?_
    refine sr_goto (tgt := 21) hA si_191_57 (by decide) ?_
    exact ih (i + 1) (by omega)
set_option maxRecDepth 20000 in
theorem mc_po0 (X : sp_X) (g : sp_G) {r : Nat} (hr : r < 6) {z : Nat} (hz : g.1 66 r = nI z) (hzb : z ≤ 12) {n : Nat} (hn : g.1 64 11 = nI n) (hb : n ≤ 6) (hks : sp_ks (fun i => g.1 67 (40 * r + i)) n z) : sp_Ct X 2 191 [.ref 64, .int (nI r)] g (sp_Fi (nI 0) g) := by
  refine sp_walkN (n := 4) sq_p_191 sq_l_191 (Nat.le_of_ble_eq_true rfl) (fun a hA => ?_)
  show sp_Ev X a 191 0 [.ref 64, .int (nI r), .null, .null] [] g
  refine sr_aload_n hA si_191_0 rfl ?_
  refine sr_getR (r := 66) hA si_191_1 sf_191_17 (by decide) (by decide) rfl rfl rfl ?_
  refine sr_iload_n hA si_191_4 rfl ?_
  refine sr_ialdNv (v := nI z) (n := 6) hA si_191_5 (by decide) rfl rfl (by omega) (by decide) hz ?_
  refine sr_bipush (v := nI 12) hA si_191_6 (by decide) ?_
  refine sr_icmp_leN (tgt := 17) hA si_191_8 (by decide) (by omega) (by omega) (fun c1 => ?_) (fun c1 => absurd c1 (by omega))
  refine sr_iconst (v := nI 1) hA si_191_17 (by decide) ?_
  refine sr_istore_n (ls1 := [.ref 64, .int (nI r), .int (nI 1), .null]) hA si_191_18 rfl (by rw [sq_l_191]; decide) rfl ?_
  refine sr_iconst (v := nI 0) hA si_191_19 (by decide) ?_
  refine sr_istore_n (ls1 := [.ref 64, .int (nI r), .int (nI 1), .int (nI 0)]) hA si_191_20 rfl (by rw [sq_l_191]; decide) rfl ?_
  exact ml_po0 hr hz hzb hn hb hks hA z 0 (by omega)
set_option maxRecDepth 20000 in
theorem ml_poB {X : sp_X} {a : sp_Ac} {g : sp_G} {r : Nat} (hr : r < 6) {z : Nat} (hz : g.1 66 r = nI z) (hzb : z ≤ 12) (hA : sp_Act X 191 2 (sp_Fi (-3) (sp_rm6 g 3)) a) : ∀ (m : Nat) (i : Nat), i + m = z → sp_Ev X a 191 21 [.ref 64, .int (nI r), .int (nI 0), .int (nI i)] [] g := by
  intro m
  induction m with
  | zero =>
    intro i h0_
    refine sr_iload_n hA si_191_21 rfl ?_
    refine sr_aload_n hA si_191_22 rfl ?_
    refine sr_getR (r := 66) hA si_191_23 sf_191_17 (by decide) (by decide) rfl rfl rfl ?_
    refine sr_iload_n hA si_191_26 rfl ?_
    refine sr_ialdNv (v := nI z) (n := 6) hA si_191_27 (by decide) rfl rfl (by omega) (by decide) hz ?_
    refine sr_icmp_geN (tgt := 60) hA si_191_28 (by decide) (by omega) (by omega) (fun c1 => ?_) (fun c1 => absurd c1 (by omega))
    refine sr_iload_n hA si_191_60 rfl ?_
    refine sr_if_eqN (tgt := 68) hA si_191_61 (by decide) (by omega) (fun c2 => ?_) (fun c2 => absurd c2 (by omega))
    refine sr_aload_n hA si_191_68 rfl ?_
    refine sr_iconst (v := nI 3) hA si_191_69 (by decide) ?_
    refine sr_VFi (c := 64) (ci := 8) (as := [.int (nI 3)]) (st := []) hA si_191_70 sv_141 sk_191_97 (mc_meets X g (by omega)) (by omega) rfl (by decide) (by decide) rfl sq_c_141 rfl (Nat.le_of_ble_eq_true rfl) ?_
    exact sr_iretF hA si_191_73 sq_r_191 rfl rfl
  | succ m ih =>
    intro i h0_
    refine sr_iload_n hA si_191_21 rfl ?_
    refine sr_aload_n hA si_191_22 rfl ?_
    refine sr_getR (r := 66) hA si_191_23 sf_191_17 (by decide) (by decide) rfl rfl rfl ?_
    refine sr_iload_n hA si_191_26 rfl ?_
    refine sr_ialdNv (v := nI z) (n := 6) hA si_191_27 (by decide) rfl rfl (by omega) (by decide) hz ?_
    refine sr_icmp_geN (tgt := 60) hA si_191_28 (by decide) (by omega) (by omega) (fun c1 => absurd c1 (by omega)) (fun c1 => ?_)
    refine sr_iload_n hA si_191_31 rfl ?_
    refine sr_if_eqN (tgt := 52) hA si_191_32 (by decide) (by omega) (fun c2 => ?_) (fun c2 => absurd c2 (by omega))
    refine sr_iconst (v := nI 0) hA si_191_52 (by decide) ?_
    refine sr_istore_n (ls1 := [.ref 64, .int (nI r), .int (nI 0), .int (nI i)]) hA si_191_53 rfl (by rw [sq_l_191]; decide) rfl ?_
    refine sr_iincN (x := i) (y := 1) (ls1 := [.ref 64, .int (nI r), .int (nI 0), .int (nI (i + 1))]) hA si_191_54 rfl rfl (by rw [sq_l_191]; decide) rfl ?_
    refine sr_goto (tgt := 21) hA si_191_57 (by decide) ?_
    exact ih (i + 1) (by omega)
set_option maxRecDepth 20000 in
theorem ml_po3M {X : sp_X} {a : sp_Ac} {g : sp_G} {r : Nat} (hr : r < 6) {z : Nat} (hz : g.1 66 r = nI z) (hzb : z ≤ 12) {n : Nat} (hn : g.1 64 11 = nI n) (hb : n ≤ 6) {b : Nat} (hbz : b < z) (hks : sp_ks (fun i => g.1 67 (40 * r + i)) n b) {x : Int32} (hx : x < 0) (ex : g.1 67 (40 * r + b) = x) (hA : sp_Act X 191 2 (sp_Fi (-3) (sp_rm6 g 3)) a) : ∀ (m : Nat) (i : Nat), i + m = b → sp_Ev X a 191 21 [.ref 64, .int (nI r), .int (nI 1), .int (nI i)] [] g := by
  intro m
  induction m with
  | zero =>
    intro i h0_
    refine sr_iload_n hA si_191_21 rfl ?_
    refine sr_aload_n hA si_191_22 rfl ?_
    refine sr_getR (r := 66) hA si_191_23 sf_191_17 (by decide) (by decide) rfl rfl rfl ?_
    refine sr_iload_n hA si_191_26 rfl ?_
    refine sr_ialdNv (v := nI z) (n := 6) hA si_191_27 (by decide) rfl rfl (by omega) (by decide) hz ?_
    refine sr_icmp_geN (tgt := 60) hA si_191_28 (by decide) (by omega) (by omega) (fun c1 => absurd c1 (by omega)) (fun c1 => ?_)
    refine sr_iload_n hA si_191_31 rfl ?_
    refine sr_if_eqN (tgt := 52) hA si_191_32 (by decide) (by omega) (fun c2 => absurd c2 (by omega)) (fun c2 => ?_)
    refine sr_aload_n hA si_191_35 rfl ?_
    refine sr_aload_n hA si_191_36 rfl ?_
    refine sr_iload_n hA si_191_37 rfl ?_
    refine sr_iload_n hA si_191_38 rfl ?_
    refine sr_VFi (c := 64) (ci := 8) (as := [.int (nI r), .int (nI i)]) (st := [.ref 64]) hA si_191_39 sv_143 sk_191_101 (by have h := mc_rowAt X g (r := r) (i := i) (by omega); rw [show g.1 67 (40 * r + i) = x from (by rw [show i = b by omega]; exact ex)] at h; exact h) (by omega) rfl (by decide) (by decide) rfl sq_c_143 rfl (Nat.le_of_ble_eq_true rfl) ?_
    refine sr_VFi (c := 64) (ci := 8) (as := [.int x]) (st := []) hA si_191_42 sv_162 sk_191_174 (mc_isKeyM X g (n := n) hn hx) (by omega) rfl (by decide) (by decide) rfl sq_c_162 rfl (Nat.le_of_ble_eq_true rfl) ?_
    refine sr_if_eqN (tgt := 52) hA si_191_45 (by decide) (by omega) (fun c3 => ?_) (fun c3 => absurd c3 (by omega))
    refine sr_iconst (v := nI 0) hA si_191_52 (by decide) ?_
    refine sr_istore_n (ls1 := [.ref 64, .int (nI r), .int (nI 0), .int (nI i)]) hA si_191_53 rfl (by rw [sq_l_191]; decide) rfl ?_
    refine sr_iincN (x := i) (y := 1) (ls1 := [.ref 64, .int (nI r), .int (nI 0), .int (nI (i + 1))]) hA si_191_54 rfl rfl (by rw [sq_l_191]; decide) rfl ?_
    refine sr_goto (tgt := 21) hA si_191_57 (by decide) ?_
    exact ml_poB hr hz hzb hA (z - (i + 1)) (i + 1) (by omega)
  | succ m ih =>
    intro i h0_
    obtain ⟨a, ha, ea⟩ := hks i (by omega)
    refine sr_iload_n hA si_191_21 rfl ?_
    refine sr_aload_n hA si_191_22 rfl ?_
    refine sr_getR (r := 66) hA si_191_23 sf_191_17 (by decide) (by decide) rfl rfl rfl ?_
    refine sr_iload_n hA si_191_26 rfl ?_
    refine sr_ialdNv (v := nI z) (n := 6) hA si_191_27 (by decide) rfl rfl (by omega) (by decide) hz ?_
    refine sr_icmp_geN (tgt := 60) hA si_191_28 (by decide) (by omega) (by omega) (fun c1 => absurd c1 (by omega)) (fun c1 => ?_)
    refine sr_iload_n hA si_191_31 rfl ?_
    refine sr_if_eqN (tgt := 52) hA si_191_32 (by decide) (by omega) (fun c2 => absurd c2 (by omega)) (fun c2 => ?_)
    refine sr_aload_n hA si_191_35 rfl ?_
    refine sr_aload_n hA si_191_36 rfl ?_
    refine sr_iload_n hA si_191_37 rfl ?_
    refine sr_iload_n hA si_191_38 rfl ?_
    refine sr_VFi (c := 64) (ci := 8) (as := [.int (nI r), .int (nI i)]) (st := [.ref 64]) hA si_191_39 sv_143 sk_191_101 (by have h := mc_rowAt X g (r := r) (i := i) (by omega); rw [show g.1 67 (40 * r + i) = nI a from ea] at h; exact h) (by omega) rfl (by decide) (by decide) rfl sq_c_143 rfl (Nat.le_of_ble_eq_true rfl) ?_
    refine sr_VFi (c := 64) (ci := 8) (as := [.int (nI a)]) (st := []) hA si_191_42 sv_162 sk_191_174 (mc_isKey1 X g (n := n) hn (by omega) (by omega)) (by omega) rfl (by decide) (by decide) rfl sq_c_162 rfl (Nat.le_of_ble_eq_true rfl) ?_
    refine sr_if_eqN (tgt := 52) hA si_191_45 (by decide) (by omega) (fun c3 => absurd c3 (by omega)) (fun c3 => ?_)
    refine sr_iconst (v := nI 1) hA si_191_48 (by decide) ?_
    refine sr_goto (tgt := 53) hA si_191_49 (by decide) ?_
    refine sr_istore_n (ls1 := [.ref 64, .int (nI r), .int (nI 1), .int (nI i)]) hA si_191_53 rfl (by rw [sq_l_191]; decide) rfl ?_
    refine sr_iincN (x := i) (y := 1) (ls1 := [.ref 64, .int (nI r), .int (nI 1), .int (nI (i + 1))]) hA si_191_54 rfl rfl (by rw [sq_l_191]; decide) rfl ?_
    refine sr_goto (tgt := 21) hA si_191_57 (by decide) ?_
    exact ih (i + 1) (by omega)
set_option maxRecDepth 20000 in
theorem mc_po3M (X : sp_X) (g : sp_G) {r : Nat} (hr : r < 6) {z : Nat} (hz : g.1 66 r = nI z) (hzb : z ≤ 12) {n : Nat} (hn : g.1 64 11 = nI n) (hb : n ≤ 6) {b : Nat} (hbz : b < z) (hks : sp_ks (fun i => g.1 67 (40 * r + i)) n b) {x : Int32} (hx : x < 0) (ex : g.1 67 (40 * r + b) = x) : sp_Ct X 2 191 [.ref 64, .int (nI r)] g (sp_Fi (-3) (sp_rm6 g 3)) := by
  refine sp_walkN (n := 4) sq_p_191 sq_l_191 (Nat.le_of_ble_eq_true rfl) (fun a hA => ?_)
  show sp_Ev X a 191 0 [.ref 64, .int (nI r), .null, .null] [] g
  refine sr_aload_n hA si_191_0 rfl ?_
  refine sr_getR (r := 66) hA si_191_1 sf_191_17 (by decide) (by decide) rfl rfl rfl ?_
  refine sr_iload_n hA si_191_4 rfl ?_
  refine sr_ialdNv (v := nI z) (n := 6) hA si_191_5 (by decide) rfl rfl (by omega) (by decide) hz ?_
  refine sr_bipush (v := nI 12) hA si_191_6 (by decide) ?_
  refine sr_icmp_leN (tgt := 17) hA si_191_8 (by decide) (by omega) (by omega) (fun c1 => ?_) (fun c1 => absurd c1 (by omega))
  refine sr_iconst (v := nI 1) hA si_191_17 (by decide) ?_
  refine sr_istore_n (ls1 := [.ref 64, .int (nI r), .int (nI 1), .null]) hA si_191_18 rfl (by rw [sq_l_191]; decide) rfl ?_
  refine sr_iconst (v := nI 0) hA si_191_19 (by decide) ?_
  refine sr_istore_n (ls1 := [.ref 64, .int (nI r), .int (nI 1), .int (nI 0)]) hA si_191_20 rfl (by rw [sq_l_191]; decide) rfl ?_
  exact ml_po3M hr hz hzb hn hb hbz hks hx ex hA b 0 (by omega)
set_option maxRecDepth 20000 in
theorem ml_po3H {X : sp_X} {a : sp_Ac} {g : sp_G} {r : Nat} (hr : r < 6) {z : Nat} (hz : g.1 66 r = nI z) (hzb : z ≤ 12) {n : Nat} (hn : g.1 64 11 = nI n) (hb : n ≤ 6) {b : Nat} (hbz : b < z) (hks : sp_ks (fun i => g.1 67 (40 * r + i)) n b) {e : Nat} (hen : n ≤ e) (heb : e < 2 ^ 31) (ex : g.1 67 (40 * r + b) = nI e) (hA : sp_Act X 191 2 (sp_Fi (-3) (sp_rm6 g 3)) a) : ∀ (m : Nat) (i : Nat), i + m = b → sp_Ev X a 191 21 [.ref 64, .int (nI r), .int (nI 1), .int (nI i)] [] g := by
  intro m
  induction m with
  | zero =>
    intro i h0_
    refine sr_iload_n hA si_191_21 rfl ?_
    refine sr_aload_n hA si_191_22 rfl ?_
    refine sr_getR (r := 66) hA si_191_23 sf_191_17 (by decide) (by decide) rfl rfl rfl ?_
    refine sr_iload_n hA si_191_26 rfl ?_
    refine sr_ialdNv (v := nI z) (n := 6) hA si_191_27 (by decide) rfl rfl (by omega) (by decide) hz ?_
    refine sr_icmp_geN (tgt := 60) hA si_191_28 (by decide) (by omega) (by omega) (fun c1 => absurd c1 (by omega)) (fun c1 => ?_)
    refine sr_iload_n hA si_191_31 rfl ?_
    refine sr_if_eqN (tgt := 52) hA si_191_32 (by decide) (by omega) (fun c2 => absurd c2 (by omega)) (fun c2 => ?_)
    refine sr_aload_n hA si_191_35 rfl ?_
    refine sr_aload_n hA si_191_36 rfl ?_
    refine sr_iload_n hA si_191_37 rfl ?_
    refine sr_iload_n hA si_191_38 rfl ?_
    refine sr_VFi (c := 64) (ci := 8) (as := [.int (nI r), .int (nI i)]) (st := [.ref 64]) hA si_191_39 sv_143 sk_191_101 (by have h := mc_rowAt X g (r := r) (i := i) (by omega); rw [show g.1 67 (40 * r + i) = nI e from (by rw [show i = b by omega]; exact ex)] at h; exact h) (by omega) rfl (by decide) (by decide) rfl sq_c_143 rfl (Nat.le_of_ble_eq_true rfl) ?_
    refine sr_VFi (c := 64) (ci := 8) (as := [.int (nI e)]) (st := []) hA si_191_42 sv_162 sk_191_174 (mc_isKeyH X g (n := n) hn (by omega) (by omega)) (by omega) rfl (by decide) (by decide) rfl sq_c_162 rfl (Nat.le_of_ble_eq_true rfl) ?_
    refine sr_if_eqN (tgt := 52) hA si_191_45 (by decide) (by omega) (fun c3 => ?_) (fun c3 => absurd c3 (by omega))
    refine sr_iconst (v := nI 0) hA si_191_52 (by decide) ?_
    refine sr_istore_n (ls1 := [.ref 64, .int (nI r), .int (nI 0), .int (nI i)]) hA si_191_53 rfl (by rw [sq_l_191]; decide) rfl ?_
    refine sr_iincN (x := i) (y := 1) (ls1 := [.ref 64, .int (nI r), .int (nI 0), .int (nI (i + 1))]) hA si_191_54 rfl rfl (by rw [sq_l_191]; decide) rfl ?_
    refine sr_goto (tgt := 21) hA si_191_57 (by decide) ?_
    exact ml_poB hr hz hzb hA (z - (i + 1)) (i + 1) (by omega)
  | succ m ih =>
    intro i h0_
    obtain ⟨a, ha, ea⟩ := hks i (by omega)
    refine sr_iload_n hA si_191_21 rfl ?_
    refine sr_aload_n hA si_191_22 rfl ?_
    refine sr_getR (r := 66) hA si_191_23 sf_191_17 (by decide) (by decide) rfl rfl rfl ?_
    refine sr_iload_n hA si_191_26 rfl ?_
    refine sr_ialdNv (v := nI z) (n := 6) hA si_191_27 (by decide) rfl rfl (by omega) (by decide) hz ?_
    refine sr_icmp_geN (tgt := 60) hA si_191_28 (by decide) (by omega) (by omega) (fun c1 => absurd c1 (by omega)) (fun c1 => ?_)
    refine sr_iload_n hA si_191_31 rfl ?_
    refine sr_if_eqN (tgt := 52) hA si_191_32 (by decide) (by omega) (fun c2 => absurd c2 (by omega)) (fun c2 => ?_)
    refine sr_aload_n hA si_191_35 rfl ?_
    refine sr_aload_n hA si_191_36 rfl ?_
    refine sr_iload_n hA si_191_37 rfl ?_
    refine sr_iload_n hA si_191_38 rfl ?_
    refine sr_VFi (c := 64) (ci := 8) (as := [.int (nI r), .int (nI i)]) (st := [.ref 64]) hA si_191_39 sv_143 sk_191_101 (by have h := mc_rowAt X g (r := r) (i := i) (by omega); rw [show g.1 67 (40 * r + i) = nI a from ea] at h; exact h) (by omega) rfl (by decide) (by decide) rfl sq_c_143 rfl (Nat.le_of_ble_eq_true rfl) ?_
    refine sr_VFi (c := 64) (ci := 8) (as := [.int (nI a)]) (st := []) hA si_191_42 sv_162 sk_191_174 (mc_isKey1 X g (n := n) hn (by omega) (by omega)) (by omega) rfl (by decide) (by decide) rfl sq_c_162 rfl (Nat.le_of_ble_eq_true rfl) ?_
    refine sr_if_eqN (tgt := 52) hA si_191_45 (by decide) (by omega) (fun c3 => absurd c3 (by omega)) (fun c3 => ?_)
    refine sr_iconst (v := nI 1) hA si_191_48 (by decide) ?_
    refine sr_goto (tgt := 53) hA si_191_49 (by decide) ?_
    refine sr_istore_n (ls1 := [.ref 64, .int (nI r), .int (nI 1), .int (nI i)]) hA si_191_53 rfl (by rw [sq_l_191]; decide) rfl ?_
    refine sr_iincN (x := i) (y := 1) (ls1 := [.ref 64, .int (nI r), .int (nI 1), .int (nI (i + 1))]) hA si_191_54 rfl rfl (by rw [sq_l_191]; decide) rfl ?_
    refine sr_goto (tgt := 21) hA si_191_57 (by decide) ?_
    exact ih (i + 1) (by omega)
set_option maxRecDepth 20000 in
theorem mc_po3H (X : sp_X) (g : sp_G) {r : Nat} (hr : r < 6) {z : Nat} (hz : g.1 66 r = nI z) (hzb : z ≤ 12) {n : Nat} (hn : g.1 64 11 = nI n) (hb : n ≤ 6) {b : Nat} (hbz : b < z) (hks : sp_ks (fun i => g.1 67 (40 * r + i)) n b) {e : Nat} (hen : n ≤ e) (heb : e < 2 ^ 31) (ex : g.1 67 (40 * r + b) = nI e) : sp_Ct X 2 191 [.ref 64, .int (nI r)] g (sp_Fi (-3) (sp_rm6 g 3)) := by
  refine sp_walkN (n := 4) sq_p_191 sq_l_191 (Nat.le_of_ble_eq_true rfl) (fun a hA => ?_)
  show sp_Ev X a 191 0 [.ref 64, .int (nI r), .null, .null] [] g
  refine sr_aload_n hA si_191_0 rfl ?_
  refine sr_getR (r := 66) hA si_191_1 sf_191_17 (by decide) (by decide) rfl rfl rfl ?_
  refine sr_iload_n hA si_191_4 rfl ?_
  refine sr_ialdNv (v := nI z) (n := 6) hA si_191_5 (by decide) rfl rfl (by omega) (by decide) hz ?_
  refine sr_bipush (v := nI 12) hA si_191_6 (by decide) ?_
  refine sr_icmp_leN (tgt := 17) hA si_191_8 (by decide) (by omega) (by omega) (fun c1 => ?_) (fun c1 => absurd c1 (by omega))
  refine sr_iconst (v := nI 1) hA si_191_17 (by decide) ?_
  refine sr_istore_n (ls1 := [.ref 64, .int (nI r), .int (nI 1), .null]) hA si_191_18 rfl (by rw [sq_l_191]; decide) rfl ?_
  refine sr_iconst (v := nI 0) hA si_191_19 (by decide) ?_
  refine sr_istore_n (ls1 := [.ref 64, .int (nI r), .int (nI 1), .int (nI 0)]) hA si_191_20 rfl (by rw [sq_l_191]; decide) rfl ?_
  exact ml_po3H hr hz hzb hn hb hbz hks hen heb ex hA b 0 (by omega)
theorem mc_po3 (X : sp_X) (g : sp_G) {r z n b : Nat} (hr : r < 6) (hz : g.1 66 r = nI z) (hzb : z ≤ 12) (hn : g.1 64 11 = nI n) (hb : n ≤ 6) (hbz : b < z) (hks : sp_ks (fun i => g.1 67 (40 * r + i)) n b) (hbk : sp_bk (g.1 67 (40 * r + b)) n) : sp_Ct X 2 191 [.ref 64, .int (nI r)] g (sp_Fi (-3) (sp_rm6 g 3)) := by
  rcases hbk with hx | ⟨e, h1, h2, h3⟩
  · exact mc_po3M X g hr hz hzb hn hb hbz hks hx rfl
  · exact mc_po3H X g hr hz hzb hn hb hbz hks h1 h2 h3
set_option maxRecDepth 20000 in
theorem mc_np1 (X : sp_X) (g : sp_G) {r : Nat} (hr : r < 6) (hz : g.1 66 r = -1) : sp_Ct X 3 190 [.ref 64, .int (nI r)] g (sp_Fi (-3) (sp_rm6 g 1)) := by
  refine sp_walkN (n := 2) sq_p_190 sq_l_190 (Nat.le_of_ble_eq_true rfl) (fun a hA => ?_)
  show sp_Ev X a 190 0 [.ref 64, .int (nI r)] [] g
  refine sr_aload_n hA si_190_0 rfl ?_
  refine sr_getR (r := 66) hA si_190_1 sf_190_17 (by decide) (by decide) rfl rfl rfl ?_
  refine sr_iload_n hA si_190_4 rfl ?_
  refine sr_ialdNv (v := (-1)) (n := 6) hA si_190_5 (by decide) rfl rfl (by omega) (by decide) hz ?_
  refine sr_if_ge (tgt := 17) hA si_190_6 (by decide) (fun c1 => absurd c1 (sp_m4 (by decide))) (fun c1 => ?_)
  refine sr_aload_n hA si_190_9 rfl ?_
  refine sr_iconst (v := nI 1) hA si_190_10 (by decide) ?_
  refine sr_VFi (c := 64) (ci := 8) (as := [.int (nI 1)]) (st := []) hA si_190_11 sv_141 sk_190_97 (mc_meets X g (by omega)) (by omega) rfl (by decide) (by decide) rfl sq_c_141 rfl (Nat.le_of_ble_eq_true rfl) ?_
  refine sr_goto (tgt := 22) hA si_190_14 (by decide) ?_
  exact sr_iretF hA si_190_22 sq_r_190 rfl rfl
set_option maxRecDepth 20000 in
theorem mc_np5 (X : sp_X) (g : sp_G) {r : Nat} (hr : r < 6)  {z : Nat} (hz : g.1 66 r = nI z) (hz12 : 12 < z) (hzb : z ≤ 40) : sp_Ct X 3 190 [.ref 64, .int (nI r)] g (sp_Fi (-3) (sp_rm6 g 5)) := by
  refine sp_walkN (n := 2) sq_p_190 sq_l_190 (Nat.le_of_ble_eq_true rfl) (fun a hA => ?_)
  show sp_Ev X a 190 0 [.ref 64, .int (nI r)] [] g
  refine sr_aload_n hA si_190_0 rfl ?_
  refine sr_getR (r := 66) hA si_190_1 sf_190_17 (by decide) (by decide) rfl rfl rfl ?_
  refine sr_iload_n hA si_190_4 rfl ?_
  refine sr_ialdNv (v := nI z) (n := 6) hA si_190_5 (by decide) rfl rfl (by omega) (by decide) hz ?_
  refine sr_if_geN (tgt := 17) hA si_190_6 (by decide) (by omega) ?_
  refine sr_aload_n hA si_190_17 rfl ?_
  refine sr_iload_n hA si_190_18 rfl ?_
  refine sr_VFi (c := 64) (ci := 8) (as := [.int (nI r)]) (st := []) hA si_190_19 sv_191 sk_190_206 (mc_po5 X g hr hz hz12 hzb) (by omega) rfl (by decide) (by decide) rfl sq_c_191 rfl (Nat.le_of_ble_eq_true rfl) ?_
  exact sr_iretF hA si_190_22 sq_r_190 rfl rfl
set_option maxRecDepth 20000 in
theorem mc_np3 (X : sp_X) (g : sp_G) {r : Nat} (hr : r < 6)  {z : Nat} (hz : g.1 66 r = nI z) (hzb : z ≤ 12) {n : Nat} (hn : g.1 64 11 = nI n) (hb : n ≤ 6) {b : Nat} (hbz : b < z) (hks : sp_ks (fun i => g.1 67 (40 * r + i)) n b) (hbk : sp_bk (g.1 67 (40 * r + b)) n) : sp_Ct X 3 190 [.ref 64, .int (nI r)] g (sp_Fi (-3) (sp_rm6 g 3)) := by
  refine sp_walkN (n := 2) sq_p_190 sq_l_190 (Nat.le_of_ble_eq_true rfl) (fun a hA => ?_)
  show sp_Ev X a 190 0 [.ref 64, .int (nI r)] [] g
  refine sr_aload_n hA si_190_0 rfl ?_
  refine sr_getR (r := 66) hA si_190_1 sf_190_17 (by decide) (by decide) rfl rfl rfl ?_
  refine sr_iload_n hA si_190_4 rfl ?_
  refine sr_ialdNv (v := nI z) (n := 6) hA si_190_5 (by decide) rfl rfl (by omega) (by decide) hz ?_
  refine sr_if_geN (tgt := 17) hA si_190_6 (by decide) (by omega) ?_
  refine sr_aload_n hA si_190_17 rfl ?_
  refine sr_iload_n hA si_190_18 rfl ?_
  refine sr_VFi (c := 64) (ci := 8) (as := [.int (nI r)]) (st := []) hA si_190_19 sv_191 sk_190_206 (mc_po3 X g hr hz hzb hn hb hbz hks hbk) (by omega) rfl (by decide) (by decide) rfl sq_c_191 rfl (Nat.le_of_ble_eq_true rfl) ?_
  exact sr_iretF hA si_190_22 sq_r_190 rfl rfl
set_option maxRecDepth 20000 in
theorem mc_np0 (X : sp_X) (g : sp_G) {r : Nat} (hr : r < 6)  {z : Nat} (hz : g.1 66 r = nI z) (hzb : z ≤ 12) {n : Nat} (hn : g.1 64 11 = nI n) (hb : n ≤ 6) (hks : sp_ks (fun i => g.1 67 (40 * r + i)) n z) : sp_Ct X 3 190 [.ref 64, .int (nI r)] g (sp_Fi (nI 0) g) := by
  refine sp_walkN (n := 2) sq_p_190 sq_l_190 (Nat.le_of_ble_eq_true rfl) (fun a hA => ?_)
  show sp_Ev X a 190 0 [.ref 64, .int (nI r)] [] g
  refine sr_aload_n hA si_190_0 rfl ?_
  refine sr_getR (r := 66) hA si_190_1 sf_190_17 (by decide) (by decide) rfl rfl rfl ?_
  refine sr_iload_n hA si_190_4 rfl ?_
  refine sr_ialdNv (v := nI z) (n := 6) hA si_190_5 (by decide) rfl rfl (by omega) (by decide) hz ?_
  refine sr_if_geN (tgt := 17) hA si_190_6 (by decide) (by omega) ?_
  refine sr_aload_n hA si_190_17 rfl ?_
  refine sr_iload_n hA si_190_18 rfl ?_
  refine sr_VFi (c := 64) (ci := 8) (as := [.int (nI r)]) (st := []) hA si_190_19 sv_191 sk_190_206 (mc_po0 X g hr hz hzb hn hb hks) (by omega) rfl (by decide) (by decide) rfl sq_c_191 rfl (Nat.le_of_ble_eq_true rfl) ?_
  exact sr_iretF hA si_190_22 sq_r_190 rfl rfl
set_option maxRecDepth 20000 in
theorem xc_judge_a (X : sp_X) (g : sp_G) {r : Int32} (hr : r < 0) : sp_Ct X 9 72 [.ref 0, .int r] g (sp_Fi (-1) g) := by
  refine sp_walkN (n := 4) sq_p_72 sq_l_72 (Nat.le_of_ble_eq_true rfl) (fun a hA => ?_)
  show sp_Ev X a 72 0 [.ref 0, .int r, .null, .null] [] g
  refine sr_aload_n hA si_72_0 rfl ?_
  refine sr_getR (r := 1) hA si_72_1 sf_72_14 (by decide) (by decide) rfl rfl rfl ?_
  refine sr_iload_n hA si_72_4 rfl ?_
  refine sr_VFi (c := 1) (ci := 5) (as := [.int r]) (st := []) hA si_72_5 sv_11 sk_72_72 (xc_numRM X g hr) (by omega) rfl (by decide) (by decide) rfl sq_c_11 rfl (Nat.le_of_ble_eq_true rfl) ?_
  refine sr_if_neN (tgt := 13) hA si_72_8 (by decide) (by omega) (fun c1 => absurd c1 (by omega)) (fun c1 => ?_)
  refine sr_iconst (v := (-1)) hA si_72_11 (by decide) ?_
  exact sr_iretF hA si_72_12 sq_r_72 rfl rfl
set_option maxRecDepth 20000 in
theorem xc_judge_b (X : sp_X) (g : sp_G) {r : Nat} (hr : 6 ≤ r) (hrb : r < 2 ^ 31) : sp_Ct X 9 72 [.ref 0, .int (nI r)] g (sp_Fi (-1) g) := by
  refine sp_walkN (n := 4) sq_p_72 sq_l_72 (Nat.le_of_ble_eq_true rfl) (fun a hA => ?_)
  show sp_Ev X a 72 0 [.ref 0, .int (nI r), .null, .null] [] g
  refine sr_aload_n hA si_72_0 rfl ?_
  refine sr_getR (r := 1) hA si_72_1 sf_72_14 (by decide) (by decide) rfl rfl rfl ?_
  refine sr_iload_n hA si_72_4 rfl ?_
  refine sr_VFi (c := 1) (ci := 5) (as := [.int (nI r)]) (st := []) hA si_72_5 sv_11 sk_72_72 (xc_numRH X g (by omega) (by omega)) (by omega) rfl (by decide) (by decide) rfl sq_c_11 rfl (Nat.le_of_ble_eq_true rfl) ?_
  refine sr_if_neN (tgt := 13) hA si_72_8 (by decide) (by omega) (fun c1 => absurd c1 (by omega)) (fun c1 => ?_)
  refine sr_iconst (v := (-1)) hA si_72_11 (by decide) ?_
  exact sr_iretF hA si_72_12 sq_r_72 rfl rfl
set_option maxRecDepth 20000 in
theorem mc_judge_a (X : sp_X) (g : sp_G) {r : Int32} (hr : r < 0) : sp_Ct X 9 189 [.ref 64, .int r] g (sp_Fi (-1) g) := by
  refine sp_walkN (n := 4) sq_p_189 sq_l_189 (Nat.le_of_ble_eq_true rfl) (fun a hA => ?_)
  show sp_Ev X a 189 0 [.ref 64, .int r, .null, .null] [] g
  refine sr_iload_n hA si_189_0 rfl ?_
  refine sr_SFi (as := [.int r]) (st := []) hA si_189_1 ss_140 sk_189_93 (mc_isRowM X g hr) (by omega) rfl rfl (Nat.le_of_ble_eq_true rfl) ?_
  refine sr_if_neN (tgt := 9) hA si_189_4 (by decide) (by omega) (fun c1 => absurd c1 (by omega)) (fun c1 => ?_)
  refine sr_iconst (v := (-1)) hA si_189_7 (by decide) ?_
  exact sr_iretF hA si_189_8 sq_r_189 rfl rfl
set_option maxRecDepth 20000 in
theorem mc_judge_b (X : sp_X) (g : sp_G) {r : Nat} (hr : 6 ≤ r) (hrb : r < 2 ^ 31) : sp_Ct X 9 189 [.ref 64, .int (nI r)] g (sp_Fi (-1) g) := by
  refine sp_walkN (n := 4) sq_p_189 sq_l_189 (Nat.le_of_ble_eq_true rfl) (fun a hA => ?_)
  show sp_Ev X a 189 0 [.ref 64, .int (nI r), .null, .null] [] g
  refine sr_iload_n hA si_189_0 rfl ?_
  refine sr_SFi (as := [.int (nI r)]) (st := []) hA si_189_1 ss_140 sk_189_93 (mc_isRowH X g (by omega) (by omega)) (by omega) rfl rfl (Nat.le_of_ble_eq_true rfl) ?_
  refine sr_if_neN (tgt := 9) hA si_189_4 (by decide) (by omega) (fun c1 => absurd c1 (by omega)) (fun c1 => ?_)
  refine sr_iconst (v := (-1)) hA si_189_7 (by decide) ?_
  exact sr_iretF hA si_189_8 sq_r_189 rfl rfl
set_option maxRecDepth 20000 in
theorem xc_judge_r1 (X : sp_X) (g : sp_G) {r : Nat} (hr : r < 6) (hz : g.1 9 r = -1) : sp_Ct X 9 72 [.ref 0, .int (nI r)] g (sp_Fi (-3) (sp_rx g 1)) := by
  refine sp_walkN (n := 4) sq_p_72 sq_l_72 (Nat.le_of_ble_eq_true rfl) (fun a hA => ?_)
  show sp_Ev X a 72 0 [.ref 0, .int (nI r), .null, .null] [] g
  refine sr_aload_n hA si_72_0 rfl ?_
  refine sr_getR (r := 1) hA si_72_1 sf_72_14 (by decide) (by decide) rfl rfl rfl ?_
  refine sr_iload_n hA si_72_4 rfl ?_
  refine sr_VFi (c := 1) (ci := 5) (as := [.int (nI r)]) (st := []) hA si_72_5 sv_11 sk_72_72 (xc_numR1 X g (by omega)) (by omega) rfl (by decide) (by decide) rfl sq_c_11 rfl (Nat.le_of_ble_eq_true rfl) ?_
  refine sr_if_neN (tgt := 13) hA si_72_8 (by decide) (by omega) (fun c1 => ?_) (fun c1 => absurd c1 (by omega))
  refine sr_aload_n hA si_72_13 rfl ?_
  refine sr_iload_n hA si_72_14 rfl ?_
  refine sr_VFi (c := 0) (ci := 7) (as := [.int (nI r)]) (st := []) hA si_72_15 sv_73 sk_72_223 (xc_pwr1 X g hr hz) (by omega) rfl (by decide) (by decide) rfl sq_c_73 rfl (Nat.le_of_ble_eq_true rfl) ?_
  refine sr_istore_n (ls1 := [.ref 0, .int (nI r), .int (nI 1), .null]) hA si_72_18 rfl (by rw [sq_l_72]; decide) rfl ?_
  refine sr_iload_n hA si_72_19 rfl ?_
  refine sr_if_eqN (tgt := 29) hA si_72_20 (by decide) (by omega) (fun c2 => absurd c2 (by omega)) (fun c2 => ?_)
  refine sr_aload_n hA si_72_23 rfl ?_
  refine sr_iload_n hA si_72_24 rfl ?_
  refine sr_VFi (c := 0) (ci := 7) (as := [.int (nI 1)]) (st := []) hA si_72_25 sv_12 sk_72_76 (xc_refuse X g (by omega)) (by omega) rfl (by decide) (by decide) rfl sq_c_12 rfl (Nat.le_of_ble_eq_true rfl) ?_
  exact sr_iretF hA si_72_28 sq_r_72 rfl rfl
set_option maxRecDepth 20000 in
theorem xc_judge_r5 (X : sp_X) (g : sp_G) {r : Nat} (hr : r < 6)  {z : Nat} (hz : g.1 9 r = nI z) (hz12 : 12 < z) (hzb : z ≤ 40) : sp_Ct X 9 72 [.ref 0, .int (nI r)] g (sp_Fi (-3) (sp_rx g 5)) := by
  refine sp_walkN (n := 4) sq_p_72 sq_l_72 (Nat.le_of_ble_eq_true rfl) (fun a hA => ?_)
  show sp_Ev X a 72 0 [.ref 0, .int (nI r), .null, .null] [] g
  refine sr_aload_n hA si_72_0 rfl ?_
  refine sr_getR (r := 1) hA si_72_1 sf_72_14 (by decide) (by decide) rfl rfl rfl ?_
  refine sr_iload_n hA si_72_4 rfl ?_
  refine sr_VFi (c := 1) (ci := 5) (as := [.int (nI r)]) (st := []) hA si_72_5 sv_11 sk_72_72 (xc_numR1 X g (by omega)) (by omega) rfl (by decide) (by decide) rfl sq_c_11 rfl (Nat.le_of_ble_eq_true rfl) ?_
  refine sr_if_neN (tgt := 13) hA si_72_8 (by decide) (by omega) (fun c1 => ?_) (fun c1 => absurd c1 (by omega))
  refine sr_aload_n hA si_72_13 rfl ?_
  refine sr_iload_n hA si_72_14 rfl ?_
  refine sr_VFi (c := 0) (ci := 7) (as := [.int (nI r)]) (st := []) hA si_72_15 sv_73 sk_72_223 (xc_pwr5 X g hr hz hz12 hzb) (by omega) rfl (by decide) (by decide) rfl sq_c_73 rfl (Nat.le_of_ble_eq_true rfl) ?_
  refine sr_istore_n (ls1 := [.ref 0, .int (nI r), .int (nI 5), .null]) hA si_72_18 rfl (by rw [sq_l_72]; decide) rfl ?_
  refine sr_iload_n hA si_72_19 rfl ?_
  refine sr_if_eqN (tgt := 29) hA si_72_20 (by decide) (by omega) (fun c2 => absurd c2 (by omega)) (fun c2 => ?_)
  refine sr_aload_n hA si_72_23 rfl ?_
  refine sr_iload_n hA si_72_24 rfl ?_
  refine sr_VFi (c := 0) (ci := 7) (as := [.int (nI 5)]) (st := []) hA si_72_25 sv_12 sk_72_76 (xc_refuse X g (by omega)) (by omega) rfl (by decide) (by decide) rfl sq_c_12 rfl (Nat.le_of_ble_eq_true rfl) ?_
  exact sr_iretF hA si_72_28 sq_r_72 rfl rfl
set_option maxRecDepth 20000 in
theorem xc_judge_r3 (X : sp_X) (g : sp_G) {r : Nat} (hr : r < 6)  {z : Nat} (hz : g.1 9 r = nI z) (hzb : z ≤ 12) {n : Nat} (hn : g.1 18 3 = nI n) (hb : n ≤ 6) {b : Nat} (hbz : b < z) (hks : sp_ks (fun i => g.1 (3 + r) i) n b) (hbk : sp_bk (g.1 (3 + r) b) n) : sp_Ct X 9 72 [.ref 0, .int (nI r)] g (sp_Fi (-3) (sp_rx g 3)) := by
  refine sp_walkN (n := 4) sq_p_72 sq_l_72 (Nat.le_of_ble_eq_true rfl) (fun a hA => ?_)
  show sp_Ev X a 72 0 [.ref 0, .int (nI r), .null, .null] [] g
  refine sr_aload_n hA si_72_0 rfl ?_
  refine sr_getR (r := 1) hA si_72_1 sf_72_14 (by decide) (by decide) rfl rfl rfl ?_
  refine sr_iload_n hA si_72_4 rfl ?_
  refine sr_VFi (c := 1) (ci := 5) (as := [.int (nI r)]) (st := []) hA si_72_5 sv_11 sk_72_72 (xc_numR1 X g (by omega)) (by omega) rfl (by decide) (by decide) rfl sq_c_11 rfl (Nat.le_of_ble_eq_true rfl) ?_
  refine sr_if_neN (tgt := 13) hA si_72_8 (by decide) (by omega) (fun c1 => ?_) (fun c1 => absurd c1 (by omega))
  refine sr_aload_n hA si_72_13 rfl ?_
  refine sr_iload_n hA si_72_14 rfl ?_
  refine sr_VFi (c := 0) (ci := 7) (as := [.int (nI r)]) (st := []) hA si_72_15 sv_73 sk_72_223 (xc_pwr3 X g hr hz hzb hn hb hbz hks hbk) (by omega) rfl (by decide) (by decide) rfl sq_c_73 rfl (Nat.le_of_ble_eq_true rfl) ?_
  refine sr_istore_n (ls1 := [.ref 0, .int (nI r), .int (nI 3), .null]) hA si_72_18 rfl (by rw [sq_l_72]; decide) rfl ?_
  refine sr_iload_n hA si_72_19 rfl ?_
  refine sr_if_eqN (tgt := 29) hA si_72_20 (by decide) (by omega) (fun c2 => absurd c2 (by omega)) (fun c2 => ?_)
  refine sr_aload_n hA si_72_23 rfl ?_
  refine sr_iload_n hA si_72_24 rfl ?_
  refine sr_VFi (c := 0) (ci := 7) (as := [.int (nI 3)]) (st := []) hA si_72_25 sv_12 sk_72_76 (xc_refuse X g (by omega)) (by omega) rfl (by decide) (by decide) rfl sq_c_12 rfl (Nat.le_of_ble_eq_true rfl) ?_
  exact sr_iretF hA si_72_28 sq_r_72 rfl rfl
set_option maxRecDepth 20000 in
theorem mc_judge_r1 (X : sp_X) (g : sp_G) {r : Nat} (hr : r < 6) (hz : g.1 66 r = -1) : sp_Ct X 9 189 [.ref 64, .int (nI r)] g (sp_Fi (-3) (sp_rm6 g 1)) := by
  refine sp_walkN (n := 4) sq_p_189 sq_l_189 (Nat.le_of_ble_eq_true rfl) (fun a hA => ?_)
  show sp_Ev X a 189 0 [.ref 64, .int (nI r), .null, .null] [] g
  refine sr_iload_n hA si_189_0 rfl ?_
  refine sr_SFi (as := [.int (nI r)]) (st := []) hA si_189_1 ss_140 sk_189_93 (mc_isRow1 X g (by omega)) (by omega) rfl rfl (Nat.le_of_ble_eq_true rfl) ?_
  refine sr_if_neN (tgt := 9) hA si_189_4 (by decide) (by omega) (fun c1 => ?_) (fun c1 => absurd c1 (by omega))
  refine sr_aload_n hA si_189_9 rfl ?_
  refine sr_iload_n hA si_189_10 rfl ?_
  refine sr_VFi (c := 64) (ci := 8) (as := [.int (nI r)]) (st := []) hA si_189_11 sv_190 sk_189_209 (mc_np1 X g hr hz) (by omega) rfl (by decide) (by decide) rfl sq_c_190 rfl (Nat.le_of_ble_eq_true rfl) ?_
  refine sr_istore_n (ls1 := [.ref 64, .int (nI r), .int (-3), .null]) hA si_189_14 rfl (by rw [sq_l_189]; decide) rfl ?_
  refine sr_iload_n hA si_189_15 rfl ?_
  refine sr_if_ge (tgt := 21) hA si_189_16 (by decide) (fun c2 => absurd c2 (sp_m4 (by decide))) (fun c2 => ?_)
  refine sr_iload_n hA si_189_19 rfl ?_
  exact sr_iretF hA si_189_20 sq_r_189 rfl rfl
set_option maxRecDepth 20000 in
theorem mc_judge_r5 (X : sp_X) (g : sp_G) {r : Nat} (hr : r < 6)  {z : Nat} (hz : g.1 66 r = nI z) (hz12 : 12 < z) (hzb : z ≤ 40) : sp_Ct X 9 189 [.ref 64, .int (nI r)] g (sp_Fi (-3) (sp_rm6 g 5)) := by
  refine sp_walkN (n := 4) sq_p_189 sq_l_189 (Nat.le_of_ble_eq_true rfl) (fun a hA => ?_)
  show sp_Ev X a 189 0 [.ref 64, .int (nI r), .null, .null] [] g
  refine sr_iload_n hA si_189_0 rfl ?_
  refine sr_SFi (as := [.int (nI r)]) (st := []) hA si_189_1 ss_140 sk_189_93 (mc_isRow1 X g (by omega)) (by omega) rfl rfl (Nat.le_of_ble_eq_true rfl) ?_
  refine sr_if_neN (tgt := 9) hA si_189_4 (by decide) (by omega) (fun c1 => ?_) (fun c1 => absurd c1 (by omega))
  refine sr_aload_n hA si_189_9 rfl ?_
  refine sr_iload_n hA si_189_10 rfl ?_
  refine sr_VFi (c := 64) (ci := 8) (as := [.int (nI r)]) (st := []) hA si_189_11 sv_190 sk_189_209 (mc_np5 X g hr hz hz12 hzb) (by omega) rfl (by decide) (by decide) rfl sq_c_190 rfl (Nat.le_of_ble_eq_true rfl) ?_
  refine sr_istore_n (ls1 := [.ref 64, .int (nI r), .int (-3), .null]) hA si_189_14 rfl (by rw [sq_l_189]; decide) rfl ?_
  refine sr_iload_n hA si_189_15 rfl ?_
  refine sr_if_ge (tgt := 21) hA si_189_16 (by decide) (fun c2 => absurd c2 (sp_m4 (by decide))) (fun c2 => ?_)
  refine sr_iload_n hA si_189_19 rfl ?_
  exact sr_iretF hA si_189_20 sq_r_189 rfl rfl
set_option maxRecDepth 20000 in
theorem mc_judge_r3 (X : sp_X) (g : sp_G) {r : Nat} (hr : r < 6)  {z : Nat} (hz : g.1 66 r = nI z) (hzb : z ≤ 12) {n : Nat} (hn : g.1 64 11 = nI n) (hb : n ≤ 6) {b : Nat} (hbz : b < z) (hks : sp_ks (fun i => g.1 67 (40 * r + i)) n b) (hbk : sp_bk (g.1 67 (40 * r + b)) n) : sp_Ct X 9 189 [.ref 64, .int (nI r)] g (sp_Fi (-3) (sp_rm6 g 3)) := by
  refine sp_walkN (n := 4) sq_p_189 sq_l_189 (Nat.le_of_ble_eq_true rfl) (fun a hA => ?_)
  show sp_Ev X a 189 0 [.ref 64, .int (nI r), .null, .null] [] g
  refine sr_iload_n hA si_189_0 rfl ?_
  refine sr_SFi (as := [.int (nI r)]) (st := []) hA si_189_1 ss_140 sk_189_93 (mc_isRow1 X g (by omega)) (by omega) rfl rfl (Nat.le_of_ble_eq_true rfl) ?_
  refine sr_if_neN (tgt := 9) hA si_189_4 (by decide) (by omega) (fun c1 => ?_) (fun c1 => absurd c1 (by omega))
  refine sr_aload_n hA si_189_9 rfl ?_
  refine sr_iload_n hA si_189_10 rfl ?_
  refine sr_VFi (c := 64) (ci := 8) (as := [.int (nI r)]) (st := []) hA si_189_11 sv_190 sk_189_209 (mc_np3 X g hr hz hzb hn hb hbz hks hbk) (by omega) rfl (by decide) (by decide) rfl sq_c_190 rfl (Nat.le_of_ble_eq_true rfl) ?_
  refine sr_istore_n (ls1 := [.ref 64, .int (nI r), .int (-3), .null]) hA si_189_14 rfl (by rw [sq_l_189]; decide) rfl ?_
  refine sr_iload_n hA si_189_15 rfl ?_
  refine sr_if_ge (tgt := 21) hA si_189_16 (by decide) (fun c2 => absurd c2 (sp_m4 (by decide))) (fun c2 => ?_)
  refine sr_iload_n hA si_189_19 rfl ?_
  exact sr_iretF hA si_189_20 sq_r_189 rfl rfl
set_option maxRecDepth 20000 in
theorem xc_earns_a (X : sp_X) (g : sp_G) {r : Int32} (hr : r < 0) : sp_Ct X 9 75 [.ref 0, .int r] g (sp_Fi (-1) g) := by
  refine sp_walkN (n := 3) sq_p_75 sq_l_75 (Nat.le_of_ble_eq_true rfl) (fun a hA => ?_)
  show sp_Ev X a 75 0 [.ref 0, .int r, .null] [] g
  refine sr_aload_n hA si_75_0 rfl ?_
  refine sr_getR (r := 1) hA si_75_1 sf_75_14 (by decide) (by decide) rfl rfl rfl ?_
  refine sr_iload_n hA si_75_4 rfl ?_
  refine sr_VFi (c := 1) (ci := 5) (as := [.int r]) (st := []) hA si_75_5 sv_11 sk_75_72 (xc_numRM X g hr) (by omega) rfl (by decide) (by decide) rfl sq_c_11 rfl (Nat.le_of_ble_eq_true rfl) ?_
  refine sr_if_neN (tgt := 13) hA si_75_8 (by decide) (by omega) (fun c1 => absurd c1 (by omega)) (fun c1 => ?_)
  refine sr_iconst (v := (-1)) hA si_75_11 (by decide) ?_
  exact sr_iretF hA si_75_12 sq_r_75 rfl rfl
set_option maxRecDepth 20000 in
theorem xc_earns_b (X : sp_X) (g : sp_G) {r : Nat} (hr : 6 ≤ r) (hrb : r < 2 ^ 31) : sp_Ct X 9 75 [.ref 0, .int (nI r)] g (sp_Fi (-1) g) := by
  refine sp_walkN (n := 3) sq_p_75 sq_l_75 (Nat.le_of_ble_eq_true rfl) (fun a hA => ?_)
  show sp_Ev X a 75 0 [.ref 0, .int (nI r), .null] [] g
  refine sr_aload_n hA si_75_0 rfl ?_
  refine sr_getR (r := 1) hA si_75_1 sf_75_14 (by decide) (by decide) rfl rfl rfl ?_
  refine sr_iload_n hA si_75_4 rfl ?_
  refine sr_VFi (c := 1) (ci := 5) (as := [.int (nI r)]) (st := []) hA si_75_5 sv_11 sk_75_72 (xc_numRH X g (by omega) (by omega)) (by omega) rfl (by decide) (by decide) rfl sq_c_11 rfl (Nat.le_of_ble_eq_true rfl) ?_
  refine sr_if_neN (tgt := 13) hA si_75_8 (by decide) (by omega) (fun c1 => absurd c1 (by omega)) (fun c1 => ?_)
  refine sr_iconst (v := (-1)) hA si_75_11 (by decide) ?_
  exact sr_iretF hA si_75_12 sq_r_75 rfl rfl
set_option maxRecDepth 20000 in
theorem mc_earns_a (X : sp_X) (g : sp_G) {r : Int32} (hr : r < 0) : sp_Ct X 9 194 [.ref 64, .int r] g (sp_Fi (-1) g) := by
  refine sp_walkN (n := 3) sq_p_194 sq_l_194 (Nat.le_of_ble_eq_true rfl) (fun a hA => ?_)
  show sp_Ev X a 194 0 [.ref 64, .int r, .null] [] g
  refine sr_iload_n hA si_194_0 rfl ?_
  refine sr_SFi (as := [.int r]) (st := []) hA si_194_1 ss_140 sk_194_93 (mc_isRowM X g hr) (by omega) rfl rfl (Nat.le_of_ble_eq_true rfl) ?_
  refine sr_if_neN (tgt := 9) hA si_194_4 (by decide) (by omega) (fun c1 => absurd c1 (by omega)) (fun c1 => ?_)
  refine sr_iconst (v := (-1)) hA si_194_7 (by decide) ?_
  exact sr_iretF hA si_194_8 sq_r_194 rfl rfl
set_option maxRecDepth 20000 in
theorem mc_earns_b (X : sp_X) (g : sp_G) {r : Nat} (hr : 6 ≤ r) (hrb : r < 2 ^ 31) : sp_Ct X 9 194 [.ref 64, .int (nI r)] g (sp_Fi (-1) g) := by
  refine sp_walkN (n := 3) sq_p_194 sq_l_194 (Nat.le_of_ble_eq_true rfl) (fun a hA => ?_)
  show sp_Ev X a 194 0 [.ref 64, .int (nI r), .null] [] g
  refine sr_iload_n hA si_194_0 rfl ?_
  refine sr_SFi (as := [.int (nI r)]) (st := []) hA si_194_1 ss_140 sk_194_93 (mc_isRowH X g (by omega) (by omega)) (by omega) rfl rfl (Nat.le_of_ble_eq_true rfl) ?_
  refine sr_if_neN (tgt := 9) hA si_194_4 (by decide) (by omega) (fun c1 => absurd c1 (by omega)) (fun c1 => ?_)
  refine sr_iconst (v := (-1)) hA si_194_7 (by decide) ?_
  exact sr_iretF hA si_194_8 sq_r_194 rfl rfl
set_option maxRecDepth 20000 in
theorem xc_earns_r1 (X : sp_X) (g : sp_G) {r : Nat} (hr : r < 6) (hz : g.1 9 r = -1) : sp_Ct X 9 75 [.ref 0, .int (nI r)] g (sp_Fi (-3) (sp_rx g 1)) := by
  refine sp_walkN (n := 3) sq_p_75 sq_l_75 (Nat.le_of_ble_eq_true rfl) (fun a hA => ?_)
  show sp_Ev X a 75 0 [.ref 0, .int (nI r), .null] [] g
  refine sr_aload_n hA si_75_0 rfl ?_
  refine sr_getR (r := 1) hA si_75_1 sf_75_14 (by decide) (by decide) rfl rfl rfl ?_
  refine sr_iload_n hA si_75_4 rfl ?_
  refine sr_VFi (c := 1) (ci := 5) (as := [.int (nI r)]) (st := []) hA si_75_5 sv_11 sk_75_72 (xc_numR1 X g (by omega)) (by omega) rfl (by decide) (by decide) rfl sq_c_11 rfl (Nat.le_of_ble_eq_true rfl) ?_
  refine sr_if_neN (tgt := 13) hA si_75_8 (by decide) (by omega) (fun c1 => ?_) (fun c1 => absurd c1 (by omega))
  refine sr_aload_n hA si_75_13 rfl ?_
  refine sr_iload_n hA si_75_14 rfl ?_
  refine sr_VFi (c := 0) (ci := 7) (as := [.int (nI r)]) (st := []) hA si_75_15 sv_73 sk_75_223 (xc_pwr1 X g hr hz) (by omega) rfl (by decide) (by decide) rfl sq_c_73 rfl (Nat.le_of_ble_eq_true rfl) ?_
  refine sr_istore_n (ls1 := [.ref 0, .int (nI r), .int (nI 1)]) hA si_75_18 rfl (by rw [sq_l_75]; decide) rfl ?_
  refine sr_iload_n hA si_75_19 rfl ?_
  refine sr_if_eqN (tgt := 29) hA si_75_20 (by decide) (by omega) (fun c2 => absurd c2 (by omega)) (fun c2 => ?_)
  refine sr_aload_n hA si_75_23 rfl ?_
  refine sr_iload_n hA si_75_24 rfl ?_
  refine sr_VFi (c := 0) (ci := 7) (as := [.int (nI 1)]) (st := []) hA si_75_25 sv_12 sk_75_76 (xc_refuse X g (by omega)) (by omega) rfl (by decide) (by decide) rfl sq_c_12 rfl (Nat.le_of_ble_eq_true rfl) ?_
  exact sr_iretF hA si_75_28 sq_r_75 rfl rfl
set_option maxRecDepth 20000 in
theorem xc_earns_r5 (X : sp_X) (g : sp_G) {r : Nat} (hr : r < 6)  {z : Nat} (hz : g.1 9 r = nI z) (hz12 : 12 < z) (hzb : z ≤ 40) : sp_Ct X 9 75 [.ref 0, .int (nI r)] g (sp_Fi (-3) (sp_rx g 5)) := by
  refine sp_walkN (n := 3) sq_p_75 sq_l_75 (Nat.le_of_ble_eq_true rfl) (fun a hA => ?_)
  show sp_Ev X a 75 0 [.ref 0, .int (nI r), .null] [] g
  refine sr_aload_n hA si_75_0 rfl ?_
  refine sr_getR (r := 1) hA si_75_1 sf_75_14 (by decide) (by decide) rfl rfl rfl ?_
  refine sr_iload_n hA si_75_4 rfl ?_
  refine sr_VFi (c := 1) (ci := 5) (as := [.int (nI r)]) (st := []) hA si_75_5 sv_11 sk_75_72 (xc_numR1 X g (by omega)) (by omega) rfl (by decide) (by decide) rfl sq_c_11 rfl (Nat.le_of_ble_eq_true rfl) ?_
  refine sr_if_neN (tgt := 13) hA si_75_8 (by decide) (by omega) (fun c1 => ?_) (fun c1 => absurd c1 (by omega))
  refine sr_aload_n hA si_75_13 rfl ?_
  refine sr_iload_n hA si_75_14 rfl ?_
  refine sr_VFi (c := 0) (ci := 7) (as := [.int (nI r)]) (st := []) hA si_75_15 sv_73 sk_75_223 (xc_pwr5 X g hr hz hz12 hzb) (by omega) rfl (by decide) (by decide) rfl sq_c_73 rfl (Nat.le_of_ble_eq_true rfl) ?_
  refine sr_istore_n (ls1 := [.ref 0, .int (nI r), .int (nI 5)]) hA si_75_18 rfl (by rw [sq_l_75]; decide) rfl ?_
  refine sr_iload_n hA si_75_19 rfl ?_
  refine sr_if_eqN (tgt := 29) hA si_75_20 (by decide) (by omega) (fun c2 => absurd c2 (by omega)) (fun c2 => ?_)
  refine sr_aload_n hA si_75_23 rfl ?_
  refine sr_iload_n hA si_75_24 rfl ?_
  refine sr_VFi (c := 0) (ci := 7) (as := [.int (nI 5)]) (st := []) hA si_75_25 sv_12 sk_75_76 (xc_refuse X g (by omega)) (by omega) rfl (by decide) (by decide) rfl sq_c_12 rfl (Nat.le_of_ble_eq_true rfl) ?_
  exact sr_iretF hA si_75_28 sq_r_75 rfl rfl
set_option maxRecDepth 20000 in
theorem xc_earns_r3 (X : sp_X) (g : sp_G) {r : Nat} (hr : r < 6)  {z : Nat} (hz : g.1 9 r = nI z) (hzb : z ≤ 12) {n : Nat} (hn : g.1 18 3 = nI n) (hb : n ≤ 6) {b : Nat} (hbz : b < z) (hks : sp_ks (fun i => g.1 (3 + r) i) n b) (hbk : sp_bk (g.1 (3 + r) b) n) : sp_Ct X 9 75 [.ref 0, .int (nI r)] g (sp_Fi (-3) (sp_rx g 3)) := by
  refine sp_walkN (n := 3) sq_p_75 sq_l_75 (Nat.le_of_ble_eq_true rfl) (fun a hA => ?_)
  show sp_Ev X a 75 0 [.ref 0, .int (nI r), .null] [] g
  refine sr_aload_n hA si_75_0 rfl ?_
  refine sr_getR (r := 1) hA si_75_1 sf_75_14 (by decide) (by decide) rfl rfl rfl ?_
  refine sr_iload_n hA si_75_4 rfl ?_
  refine sr_VFi (c := 1) (ci := 5) (as := [.int (nI r)]) (st := []) hA si_75_5 sv_11 sk_75_72 (xc_numR1 X g (by omega)) (by omega) rfl (by decide) (by decide) rfl sq_c_11 rfl (Nat.le_of_ble_eq_true rfl) ?_
  refine sr_if_neN (tgt := 13) hA si_75_8 (by decide) (by omega) (fun c1 => ?_) (fun c1 => absurd c1 (by omega))
  refine sr_aload_n hA si_75_13 rfl ?_
  refine sr_iload_n hA si_75_14 rfl ?_
  refine sr_VFi (c := 0) (ci := 7) (as := [.int (nI r)]) (st := []) hA si_75_15 sv_73 sk_75_223 (xc_pwr3 X g hr hz hzb hn hb hbz hks hbk) (by omega) rfl (by decide) (by decide) rfl sq_c_73 rfl (Nat.le_of_ble_eq_true rfl) ?_
  refine sr_istore_n (ls1 := [.ref 0, .int (nI r), .int (nI 3)]) hA si_75_18 rfl (by rw [sq_l_75]; decide) rfl ?_
  refine sr_iload_n hA si_75_19 rfl ?_
  refine sr_if_eqN (tgt := 29) hA si_75_20 (by decide) (by omega) (fun c2 => absurd c2 (by omega)) (fun c2 => ?_)
  refine sr_aload_n hA si_75_23 rfl ?_
  refine sr_iload_n hA si_75_24 rfl ?_
  refine sr_VFi (c := 0) (ci := 7) (as := [.int (nI 3)]) (st := []) hA si_75_25 sv_12 sk_75_76 (xc_refuse X g (by omega)) (by omega) rfl (by decide) (by decide) rfl sq_c_12 rfl (Nat.le_of_ble_eq_true rfl) ?_
  exact sr_iretF hA si_75_28 sq_r_75 rfl rfl
set_option maxRecDepth 20000 in
theorem mc_earns_r1 (X : sp_X) (g : sp_G) {r : Nat} (hr : r < 6) (hz : g.1 66 r = -1) : sp_Ct X 9 194 [.ref 64, .int (nI r)] g (sp_Fi (-3) (sp_rm6 g 1)) := by
  refine sp_walkN (n := 3) sq_p_194 sq_l_194 (Nat.le_of_ble_eq_true rfl) (fun a hA => ?_)
  show sp_Ev X a 194 0 [.ref 64, .int (nI r), .null] [] g
  refine sr_iload_n hA si_194_0 rfl ?_
  refine sr_SFi (as := [.int (nI r)]) (st := []) hA si_194_1 ss_140 sk_194_93 (mc_isRow1 X g (by omega)) (by omega) rfl rfl (Nat.le_of_ble_eq_true rfl) ?_
  refine sr_if_neN (tgt := 9) hA si_194_4 (by decide) (by omega) (fun c1 => ?_) (fun c1 => absurd c1 (by omega))
  refine sr_aload_n hA si_194_9 rfl ?_
  refine sr_iload_n hA si_194_10 rfl ?_
  refine sr_VFi (c := 64) (ci := 8) (as := [.int (nI r)]) (st := []) hA si_194_11 sv_190 sk_194_209 (mc_np1 X g hr hz) (by omega) rfl (by decide) (by decide) rfl sq_c_190 rfl (Nat.le_of_ble_eq_true rfl) ?_
  refine sr_istore_n (ls1 := [.ref 64, .int (nI r), .int (-3)]) hA si_194_14 rfl (by rw [sq_l_194]; decide) rfl ?_
  refine sr_iload_n hA si_194_15 rfl ?_
  refine sr_if_ge (tgt := 21) hA si_194_16 (by decide) (fun c2 => absurd c2 (sp_m4 (by decide))) (fun c2 => ?_)
  refine sr_iload_n hA si_194_19 rfl ?_
  exact sr_iretF hA si_194_20 sq_r_194 rfl rfl
set_option maxRecDepth 20000 in
theorem mc_earns_r5 (X : sp_X) (g : sp_G) {r : Nat} (hr : r < 6)  {z : Nat} (hz : g.1 66 r = nI z) (hz12 : 12 < z) (hzb : z ≤ 40) : sp_Ct X 9 194 [.ref 64, .int (nI r)] g (sp_Fi (-3) (sp_rm6 g 5)) := by
  refine sp_walkN (n := 3) sq_p_194 sq_l_194 (Nat.le_of_ble_eq_true rfl) (fun a hA => ?_)
  show sp_Ev X a 194 0 [.ref 64, .int (nI r), .null] [] g
  refine sr_iload_n hA si_194_0 rfl ?_
  refine sr_SFi (as := [.int (nI r)]) (st := []) hA si_194_1 ss_140 sk_194_93 (mc_isRow1 X g (by omega)) (by omega) rfl rfl (Nat.le_of_ble_eq_true rfl) ?_
  refine sr_if_neN (tgt := 9) hA si_194_4 (by decide) (by omega) (fun c1 => ?_) (fun c1 => absurd c1 (by omega))
  refine sr_aload_n hA si_194_9 rfl ?_
  refine sr_iload_n hA si_194_10 rfl ?_
  refine sr_VFi (c := 64) (ci := 8) (as := [.int (nI r)]) (st := []) hA si_194_11 sv_190 sk_194_209 (mc_np5 X g hr hz hz12 hzb) (by omega) rfl (by decide) (by decide) rfl sq_c_190 rfl (Nat.le_of_ble_eq_true rfl) ?_
  refine sr_istore_n (ls1 := [.ref 64, .int (nI r), .int (-3)]) hA si_194_14 rfl (by rw [sq_l_194]; decide) rfl ?_
  refine sr_iload_n hA si_194_15 rfl ?_
  refine sr_if_ge (tgt := 21) hA si_194_16 (by decide) (fun c2 => absurd c2 (sp_m4 (by decide))) (fun c2 => ?_)
  refine sr_iload_n hA si_194_19 rfl ?_
  exact sr_iretF hA si_194_20 sq_r_194 rfl rfl
set_option maxRecDepth 20000 in
theorem mc_earns_r3 (X : sp_X) (g : sp_G) {r : Nat} (hr : r < 6)  {z : Nat} (hz : g.1 66 r = nI z) (hzb : z ≤ 12) {n : Nat} (hn : g.1 64 11 = nI n) (hb : n ≤ 6) {b : Nat} (hbz : b < z) (hks : sp_ks (fun i => g.1 67 (40 * r + i)) n b) (hbk : sp_bk (g.1 67 (40 * r + b)) n) : sp_Ct X 9 194 [.ref 64, .int (nI r)] g (sp_Fi (-3) (sp_rm6 g 3)) := by
  refine sp_walkN (n := 3) sq_p_194 sq_l_194 (Nat.le_of_ble_eq_true rfl) (fun a hA => ?_)
  show sp_Ev X a 194 0 [.ref 64, .int (nI r), .null] [] g
  refine sr_iload_n hA si_194_0 rfl ?_
  refine sr_SFi (as := [.int (nI r)]) (st := []) hA si_194_1 ss_140 sk_194_93 (mc_isRow1 X g (by omega)) (by omega) rfl rfl (Nat.le_of_ble_eq_true rfl) ?_
  refine sr_if_neN (tgt := 9) hA si_194_4 (by decide) (by omega) (fun c1 => ?_) (fun c1 => absurd c1 (by omega))
  refine sr_aload_n hA si_194_9 rfl ?_
  refine sr_iload_n hA si_194_10 rfl ?_
  refine sr_VFi (c := 64) (ci := 8) (as := [.int (nI r)]) (st := []) hA si_194_11 sv_190 sk_194_209 (mc_np3 X g hr hz hzb hn hb hbz hks hbk) (by omega) rfl (by decide) (by decide) rfl sq_c_190 rfl (Nat.le_of_ble_eq_true rfl) ?_
  refine sr_istore_n (ls1 := [.ref 64, .int (nI r), .int (-3)]) hA si_194_14 rfl (by rw [sq_l_194]; decide) rfl ?_
  refine sr_iload_n hA si_194_15 rfl ?_
  refine sr_if_ge (tgt := 21) hA si_194_16 (by decide) (fun c2 => absurd c2 (sp_m4 (by decide))) (fun c2 => ?_)
  refine sr_iload_n hA si_194_19 rfl ?_
  exact sr_iretF hA si_194_20 sq_r_194 rfl rfl
set_option maxRecDepth 20000 in
theorem xc_tune_a (X : sp_X) (g : sp_G) {r : Int32} (hr : r < 0) : sp_Ct X 9 111 [.ref 0, .int r] g (sp_Fi (-1) g) := by
  refine sp_walkN (n := 7) sq_p_111 sq_l_111 (Nat.le_of_ble_eq_true rfl) (fun a hA => ?_)
  show sp_Ev X a 111 0 [.ref 0, .int r, .null, .null, .null, .null, .null] [] g
  refine sr_aload_n hA si_111_0 rfl ?_
  refine sr_getR (r := 1) hA si_111_1 sf_111_14 (by decide) (by decide) rfl rfl rfl ?_
  refine sr_iload_n hA si_111_4 rfl ?_
  refine sr_VFi (c := 1) (ci := 5) (as := [.int r]) (st := []) hA si_111_5 sv_11 sk_111_72 (xc_numRM X g hr) (by omega) rfl (by decide) (by decide) rfl sq_c_11 rfl (Nat.le_of_ble_eq_true rfl) ?_
  refine sr_if_neN (tgt := 13) hA si_111_8 (by decide) (by omega) (fun c1 => absurd c1 (by omega)) (fun c1 => ?_)
  refine sr_iconst (v := (-1)) hA si_111_11 (by decide) ?_
  exact sr_iretF hA si_111_12 sq_r_111 rfl rfl
set_option maxRecDepth 20000 in
theorem xc_tune_b (X : sp_X) (g : sp_G) {r : Nat} (hr : 6 ≤ r) (hrb : r < 2 ^ 31) : sp_Ct X 9 111 [.ref 0, .int (nI r)] g (sp_Fi (-1) g) := by
  refine sp_walkN (n := 7) sq_p_111 sq_l_111 (Nat.le_of_ble_eq_true rfl) (fun a hA => ?_)
  show sp_Ev X a 111 0 [.ref 0, .int (nI r), .null, .null, .null, .null, .null] [] g
  refine sr_aload_n hA si_111_0 rfl ?_
  refine sr_getR (r := 1) hA si_111_1 sf_111_14 (by decide) (by decide) rfl rfl rfl ?_
  refine sr_iload_n hA si_111_4 rfl ?_
  refine sr_VFi (c := 1) (ci := 5) (as := [.int (nI r)]) (st := []) hA si_111_5 sv_11 sk_111_72 (xc_numRH X g (by omega) (by omega)) (by omega) rfl (by decide) (by decide) rfl sq_c_11 rfl (Nat.le_of_ble_eq_true rfl) ?_
  refine sr_if_neN (tgt := 13) hA si_111_8 (by decide) (by omega) (fun c1 => absurd c1 (by omega)) (fun c1 => ?_)
  refine sr_iconst (v := (-1)) hA si_111_11 (by decide) ?_
  exact sr_iretF hA si_111_12 sq_r_111 rfl rfl
set_option maxRecDepth 20000 in
theorem mc_tune_a (X : sp_X) (g : sp_G) {r : Int32} (hr : r < 0) : sp_Ct X 9 217 [.ref 64, .int r] g (sp_Fi (-1) g) := by
  refine sp_walkN (n := 6) sq_p_217 sq_l_217 (Nat.le_of_ble_eq_true rfl) (fun a hA => ?_)
  show sp_Ev X a 217 0 [.ref 64, .int r, .null, .null, .null, .null] [] g
  refine sr_iload_n hA si_217_0 rfl ?_
  refine sr_SFi (as := [.int r]) (st := []) hA si_217_1 ss_140 sk_217_93 (mc_isRowM X g hr) (by omega) rfl rfl (Nat.le_of_ble_eq_true rfl) ?_
  refine sr_if_neN (tgt := 9) hA si_217_4 (by decide) (by omega) (fun c1 => absurd c1 (by omega)) (fun c1 => ?_)
  refine sr_iconst (v := (-1)) hA si_217_7 (by decide) ?_
  exact sr_iretF hA si_217_8 sq_r_217 rfl rfl
set_option maxRecDepth 20000 in
theorem mc_tune_b (X : sp_X) (g : sp_G) {r : Nat} (hr : 6 ≤ r) (hrb : r < 2 ^ 31) : sp_Ct X 9 217 [.ref 64, .int (nI r)] g (sp_Fi (-1) g) := by
  refine sp_walkN (n := 6) sq_p_217 sq_l_217 (Nat.le_of_ble_eq_true rfl) (fun a hA => ?_)
  show sp_Ev X a 217 0 [.ref 64, .int (nI r), .null, .null, .null, .null] [] g
  refine sr_iload_n hA si_217_0 rfl ?_
  refine sr_SFi (as := [.int (nI r)]) (st := []) hA si_217_1 ss_140 sk_217_93 (mc_isRowH X g (by omega) (by omega)) (by omega) rfl rfl (Nat.le_of_ble_eq_true rfl) ?_
  refine sr_if_neN (tgt := 9) hA si_217_4 (by decide) (by omega) (fun c1 => absurd c1 (by omega)) (fun c1 => ?_)
  refine sr_iconst (v := (-1)) hA si_217_7 (by decide) ?_
  exact sr_iretF hA si_217_8 sq_r_217 rfl rfl
set_option maxRecDepth 20000 in
theorem xc_tune_r1 (X : sp_X) (g : sp_G) {r : Nat} (hr : r < 6) (hz : g.1 9 r = -1) : sp_Ct X 9 111 [.ref 0, .int (nI r)] g (sp_Fi (-3) (sp_rx g 1)) := by
  refine sp_walkN (n := 7) sq_p_111 sq_l_111 (Nat.le_of_ble_eq_true rfl) (fun a hA => ?_)
  show sp_Ev X a 111 0 [.ref 0, .int (nI r), .null, .null, .null, .null, .null] [] g
  refine sr_aload_n hA si_111_0 rfl ?_
  refine sr_getR (r := 1) hA si_111_1 sf_111_14 (by decide) (by decide) rfl rfl rfl ?_
  refine sr_iload_n hA si_111_4 rfl ?_
  refine sr_VFi (c := 1) (ci := 5) (as := [.int (nI r)]) (st := []) hA si_111_5 sv_11 sk_111_72 (xc_numR1 X g (by omega)) (by omega) rfl (by decide) (by decide) rfl sq_c_11 rfl (Nat.le_of_ble_eq_true rfl) ?_
  refine sr_if_neN (tgt := 13) hA si_111_8 (by decide) (by omega) (fun c1 => ?_) (fun c1 => absurd c1 (by omega))
  refine sr_aload_n hA si_111_13 rfl ?_
  refine sr_iload_n hA si_111_14 rfl ?_
  refine sr_VFi (c := 0) (ci := 7) (as := [.int (nI r)]) (st := []) hA si_111_15 sv_73 sk_111_223 (xc_pwr1 X g hr hz) (by omega) rfl (by decide) (by decide) rfl sq_c_73 rfl (Nat.le_of_ble_eq_true rfl) ?_
  refine sr_istore_n (ls1 := [.ref 0, .int (nI r), .int (nI 1), .null, .null, .null, .null]) hA si_111_18 rfl (by rw [sq_l_111]; decide) rfl ?_
  refine sr_iload_n hA si_111_19 rfl ?_
  refine sr_if_eqN (tgt := 29) hA si_111_20 (by decide) (by omega) (fun c2 => absurd c2 (by omega)) (fun c2 => ?_)
  refine sr_aload_n hA si_111_23 rfl ?_
  refine sr_iload_n hA si_111_24 rfl ?_
  refine sr_VFi (c := 0) (ci := 7) (as := [.int (nI 1)]) (st := []) hA si_111_25 sv_12 sk_111_76 (xc_refuse X g (by omega)) (by omega) rfl (by decide) (by decide) rfl sq_c_12 rfl (Nat.le_of_ble_eq_true rfl) ?_
  exact sr_iretF hA si_111_28 sq_r_111 rfl rfl
set_option maxRecDepth 20000 in
theorem xc_tune_r5 (X : sp_X) (g : sp_G) {r : Nat} (hr : r < 6)  {z : Nat} (hz : g.1 9 r = nI z) (hz12 : 12 < z) (hzb : z ≤ 40) : sp_Ct X 9 111 [.ref 0, .int (nI r)] g (sp_Fi (-3) (sp_rx g 5)) := by
  refine sp_walkN (n := 7) sq_p_111 sq_l_111 (Nat.le_of_ble_eq_true rfl) (fun a hA => ?_)
  show sp_Ev X a 111 0 [.ref 0, .int (nI r), .null, .null, .null, .null, .null] [] g
  refine sr_aload_n hA si_111_0 rfl ?_
  refine sr_getR (r := 1) hA si_111_1 sf_111_14 (by decide) (by decide) rfl rfl rfl ?_
  refine sr_iload_n hA si_111_4 rfl ?_
  refine sr_VFi (c := 1) (ci := 5) (as := [.int (nI r)]) (st := []) hA si_111_5 sv_11 sk_111_72 (xc_numR1 X g (by omega)) (by omega) rfl (by decide) (by decide) rfl sq_c_11 rfl (Nat.le_of_ble_eq_true rfl) ?_
  refine sr_if_neN (tgt := 13) hA si_111_8 (by decide) (by omega) (fun c1 => ?_) (fun c1 => absurd c1 (by omega))
  refine sr_aload_n hA si_111_13 rfl ?_
  refine sr_iload_n hA si_111_14 rfl ?_
  refine sr_VFi (c := 0) (ci := 7) (as := [.int (nI r)]) (st := []) hA si_111_15 sv_73 sk_111_223 (xc_pwr5 X g hr hz hz12 hzb) (by omega) rfl (by decide) (by decide) rfl sq_c_73 rfl (Nat.le_of_ble_eq_true rfl) ?_
  refine sr_istore_n (ls1 := [.ref 0, .int (nI r), .int (nI 5), .null, .null, .null, .null]) hA si_111_18 rfl (by rw [sq_l_111]; decide) rfl ?_
  refine sr_iload_n hA si_111_19 rfl ?_
  refine sr_if_eqN (tgt := 29) hA si_111_20 (by decide) (by omega) (fun c2 => absurd c2 (by omega)) (fun c2 => ?_)
  refine sr_aload_n hA si_111_23 rfl ?_
  refine sr_iload_n hA si_111_24 rfl ?_
  refine sr_VFi (c := 0) (ci := 7) (as := [.int (nI 5)]) (st := []) hA si_111_25 sv_12 sk_111_76 (xc_refuse X g (by omega)) (by omega) rfl (by decide) (by decide) rfl sq_c_12 rfl (Nat.le_of_ble_eq_true rfl) ?_
  exact sr_iretF hA si_111_28 sq_r_111 rfl rfl
set_option maxRecDepth 20000 in
theorem xc_tune_r3 (X : sp_X) (g : sp_G) {r : Nat} (hr : r < 6)  {z : Nat} (hz : g.1 9 r = nI z) (hzb : z ≤ 12) {n : Nat} (hn : g.1 18 3 = nI n) (hb : n ≤ 6) {b : Nat} (hbz : b < z) (hks : sp_ks (fun i => g.1 (3 + r) i) n b) (hbk : sp_bk (g.1 (3 + r) b) n) : sp_Ct X 9 111 [.ref 0, .int (nI r)] g (sp_Fi (-3) (sp_rx g 3)) := by
  refine sp_walkN (n := 7) sq_p_111 sq_l_111 (Nat.le_of_ble_eq_true rfl) (fun a hA => ?_)
  show sp_Ev X a 111 0 [.ref 0, .int (nI r), .null, .null, .null, .null, .null] [] g
  refine sr_aload_n hA si_111_0 rfl ?_
  refine sr_getR (r := 1) hA si_111_1 sf_111_14 (by decide) (by decide) rfl rfl rfl ?_
  refine sr_iload_n hA si_111_4 rfl ?_
  refine sr_VFi (c := 1) (ci := 5) (as := [.int (nI r)]) (st := []) hA si_111_5 sv_11 sk_111_72 (xc_numR1 X g (by omega)) (by omega) rfl (by decide) (by decide) rfl sq_c_11 rfl (Nat.le_of_ble_eq_true rfl) ?_
  refine sr_if_neN (tgt := 13) hA si_111_8 (by decide) (by omega) (fun c1 => ?_) (fun c1 => absurd c1 (by omega))
  refine sr_aload_n hA si_111_13 rfl ?_
  refine sr_iload_n hA si_111_14 rfl ?_
  refine sr_VFi (c := 0) (ci := 7) (as := [.int (nI r)]) (st := []) hA si_111_15 sv_73 sk_111_223 (xc_pwr3 X g hr hz hzb hn hb hbz hks hbk) (by omega) rfl (by decide) (by decide) rfl sq_c_73 rfl (Nat.le_of_ble_eq_true rfl) ?_
  refine sr_istore_n (ls1 := [.ref 0, .int (nI r), .int (nI 3), .null, .null, .null, .null]) hA si_111_18 rfl (by rw [sq_l_111]; decide) rfl ?_
  refine sr_iload_n hA si_111_19 rfl ?_
  refine sr_if_eqN (tgt := 29) hA si_111_20 (by decide) (by omega) (fun c2 => absurd c2 (by omega)) (fun c2 => ?_)
  refine sr_aload_n hA si_111_23 rfl ?_
  refine sr_iload_n hA si_111_24 rfl ?_
  refine sr_VFi (c := 0) (ci := 7) (as := [.int (nI 3)]) (st := []) hA si_111_25 sv_12 sk_111_76 (xc_refuse X g (by omega)) (by omega) rfl (by decide) (by decide) rfl sq_c_12 rfl (Nat.le_of_ble_eq_true rfl) ?_
  exact sr_iretF hA si_111_28 sq_r_111 rfl rfl
set_option maxRecDepth 20000 in
theorem mc_tune_r1 (X : sp_X) (g : sp_G) {r : Nat} (hr : r < 6) (hz : g.1 66 r = -1) : sp_Ct X 9 217 [.ref 64, .int (nI r)] g (sp_Fi (-3) (sp_rm6 g 1)) := by
  refine sp_walkN (n := 6) sq_p_217 sq_l_217 (Nat.le_of_ble_eq_true rfl) (fun a hA => ?_)
  show sp_Ev X a 217 0 [.ref 64, .int (nI r), .null, .null, .null, .null] [] g
  refine sr_iload_n hA si_217_0 rfl ?_
  refine sr_SFi (as := [.int (nI r)]) (st := []) hA si_217_1 ss_140 sk_217_93 (mc_isRow1 X g (by omega)) (by omega) rfl rfl (Nat.le_of_ble_eq_true rfl) ?_
  refine sr_if_neN (tgt := 9) hA si_217_4 (by decide) (by omega) (fun c1 => ?_) (fun c1 => absurd c1 (by omega))
  refine sr_aload_n hA si_217_9 rfl ?_
  refine sr_iload_n hA si_217_10 rfl ?_
  refine sr_VFi (c := 64) (ci := 8) (as := [.int (nI r)]) (st := []) hA si_217_11 sv_190 sk_217_209 (mc_np1 X g hr hz) (by omega) rfl (by decide) (by decide) rfl sq_c_190 rfl (Nat.le_of_ble_eq_true rfl) ?_
  refine sr_istore_n (ls1 := [.ref 64, .int (nI r), .int (-3), .null, .null, .null]) hA si_217_14 rfl (by rw [sq_l_217]; decide) rfl ?_
  refine sr_iload_n hA si_217_15 rfl ?_
  refine sr_if_ge (tgt := 21) hA si_217_16 (by decide) (fun c2 => absurd c2 (sp_m4 (by decide))) (fun c2 => ?_)
  refine sr_iload_n hA si_217_19 rfl ?_
  exact sr_iretF hA si_217_20 sq_r_217 rfl rfl
set_option maxRecDepth 20000 in
theorem mc_tune_r5 (X : sp_X) (g : sp_G) {r : Nat} (hr : r < 6)  {z : Nat} (hz : g.1 66 r = nI z) (hz12 : 12 < z) (hzb : z ≤ 40) : sp_Ct X 9 217 [.ref 64, .int (nI r)] g (sp_Fi (-3) (sp_rm6 g 5)) := by
  refine sp_walkN (n := 6) sq_p_217 sq_l_217 (Nat.le_of_ble_eq_true rfl) (fun a hA => ?_)
  show sp_Ev X a 217 0 [.ref 64, .int (nI r), .null, .null, .null, .null] [] g
  refine sr_iload_n hA si_217_0 rfl ?_
  refine sr_SFi (as := [.int (nI r)]) (st := []) hA si_217_1 ss_140 sk_217_93 (mc_isRow1 X g (by omega)) (by omega) rfl rfl (Nat.le_of_ble_eq_true rfl) ?_
  refine sr_if_neN (tgt := 9) hA si_217_4 (by decide) (by omega) (fun c1 => ?_) (fun c1 => absurd c1 (by omega))
  refine sr_aload_n hA si_217_9 rfl ?_
  refine sr_iload_n hA si_217_10 rfl ?_
  refine sr_VFi (c := 64) (ci := 8) (as := [.int (nI r)]) (st := []) hA si_217_11 sv_190 sk_217_209 (mc_np5 X g hr hz hz12 hzb) (by omega) rfl (by decide) (by decide) rfl sq_c_190 rfl (Nat.le_of_ble_eq_true rfl) ?_
  refine sr_istore_n (ls1 := [.ref 64, .int (nI r), .int (-3), .null, .null, .null]) hA si_217_14 rfl (by rw [sq_l_217]; decide) rfl ?_
  refine sr_iload_n hA si_217_15 rfl ?_
  refine sr_if_ge (tgt := 21) hA si_217_16 (by decide) (fun c2 => absurd c2 (sp_m4 (by decide))) (fun c2 => ?_)
  refine sr_iload_n hA si_217_19 rfl ?_
  exact sr_iretF hA si_217_20 sq_r_217 rfl rfl
set_option maxRecDepth 20000 in
theorem mc_tune_r3 (X : sp_X) (g : sp_G) {r : Nat} (hr : r < 6)  {z : Nat} (hz : g.1 66 r = nI z) (hzb : z ≤ 12) {n : Nat} (hn : g.1 64 11 = nI n) (hb : n ≤ 6) {b : Nat} (hbz : b < z) (hks : sp_ks (fun i => g.1 67 (40 * r + i)) n b) (hbk : sp_bk (g.1 67 (40 * r + b)) n) : sp_Ct X 9 217 [.ref 64, .int (nI r)] g (sp_Fi (-3) (sp_rm6 g 3)) := by
  refine sp_walkN (n := 6) sq_p_217 sq_l_217 (Nat.le_of_ble_eq_true rfl) (fun a hA => ?_)
  show sp_Ev X a 217 0 [.ref 64, .int (nI r), .null, .null, .null, .null] [] g
  refine sr_iload_n hA si_217_0 rfl ?_
  refine sr_SFi (as := [.int (nI r)]) (st := []) hA si_217_1 ss_140 sk_217_93 (mc_isRow1 X g (by omega)) (by omega) rfl rfl (Nat.le_of_ble_eq_true rfl) ?_
  refine sr_if_neN (tgt := 9) hA si_217_4 (by decide) (by omega) (fun c1 => ?_) (fun c1 => absurd c1 (by omega))
  refine sr_aload_n hA si_217_9 rfl ?_
  refine sr_iload_n hA si_217_10 rfl ?_
  refine sr_VFi (c := 64) (ci := 8) (as := [.int (nI r)]) (st := []) hA si_217_11 sv_190 sk_217_209 (mc_np3 X g hr hz hzb hn hb hbz hks hbk) (by omega) rfl (by decide) (by decide) rfl sq_c_190 rfl (Nat.le_of_ble_eq_true rfl) ?_
  refine sr_istore_n (ls1 := [.ref 64, .int (nI r), .int (-3), .null, .null, .null]) hA si_217_14 rfl (by rw [sq_l_217]; decide) rfl ?_
  refine sr_iload_n hA si_217_15 rfl ?_
  refine sr_if_ge (tgt := 21) hA si_217_16 (by decide) (fun c2 => absurd c2 (sp_m4 (by decide))) (fun c2 => ?_)
  refine sr_iload_n hA si_217_19 rfl ?_
  exact sr_iretF hA si_217_20 sq_r_217 rfl rfl
set_option maxRecDepth 20000 in
theorem xc_lasts_a (X : sp_X) (g : sp_G) {r : Int32} (hr : r < 0) (h : Int32) : sp_Ct X 9 83 [.ref 0, .int r, .int h] g (sp_Fi (-1) g) := by
  refine sp_walkN (n := 5) sq_p_83 sq_l_83 (Nat.le_of_ble_eq_true rfl) (fun a hA => ?_)
  show sp_Ev X a 83 0 [.ref 0, .int r, .int h, .null, .null] [] g
  refine sr_aload_n hA si_83_0 rfl ?_
  refine sr_getR (r := 1) hA si_83_1 sf_83_14 (by decide) (by decide) rfl rfl rfl ?_
  refine sr_iload_n hA si_83_4 rfl ?_
  refine sr_VFi (c := 1) (ci := 5) (as := [.int r]) (st := []) hA si_83_5 sv_11 sk_83_72 (xc_numRM X g hr) (by omega) rfl (by decide) (by decide) rfl sq_c_11 rfl (Nat.le_of_ble_eq_true rfl) ?_
  refine sr_if_eqN (tgt := 21) hA si_83_8 (by decide) (by omega) (fun c1 => ?_) (fun c1 => absurd c1 (by omega))
  refine sr_iconst (v := (-1)) hA si_83_21 (by decide) ?_
  exact sr_iretF hA si_83_22 sq_r_83 rfl rfl
set_option maxRecDepth 20000 in
theorem xc_lasts_b (X : sp_X) (g : sp_G) {r : Nat} (hr : 6 ≤ r) (hrb : r < 2 ^ 31) (h : Int32) : sp_Ct X 9 83 [.ref 0, .int (nI r), .int h] g (sp_Fi (-1) g) := by
  refine sp_walkN (n := 5) sq_p_83 sq_l_83 (Nat.le_of_ble_eq_true rfl) (fun a hA => ?_)
  show sp_Ev X a 83 0 [.ref 0, .int (nI r), .int h, .null, .null] [] g
  refine sr_aload_n hA si_83_0 rfl ?_
  refine sr_getR (r := 1) hA si_83_1 sf_83_14 (by decide) (by decide) rfl rfl rfl ?_
  refine sr_iload_n hA si_83_4 rfl ?_
  refine sr_VFi (c := 1) (ci := 5) (as := [.int (nI r)]) (st := []) hA si_83_5 sv_11 sk_83_72 (xc_numRH X g (by omega) (by omega)) (by omega) rfl (by decide) (by decide) rfl sq_c_11 rfl (Nat.le_of_ble_eq_true rfl) ?_
  refine sr_if_eqN (tgt := 21) hA si_83_8 (by decide) (by omega) (fun c1 => ?_) (fun c1 => absurd c1 (by omega))
  refine sr_iconst (v := (-1)) hA si_83_21 (by decide) ?_
  exact sr_iretF hA si_83_22 sq_r_83 rfl rfl
set_option maxRecDepth 20000 in
theorem xc_lasts_c (X : sp_X) (g : sp_G) {r : Nat} (hr : r < 6) {h : Int32} (hh : h < 0) : sp_Ct X 9 83 [.ref 0, .int (nI r), .int h] g (sp_Fi (-1) g) := by
  refine sp_walkN (n := 5) sq_p_83 sq_l_83 (Nat.le_of_ble_eq_true rfl) (fun a hA => ?_)
  show sp_Ev X a 83 0 [.ref 0, .int (nI r), .int h, .null, .null] [] g
  refine sr_aload_n hA si_83_0 rfl ?_
  refine sr_getR (r := 1) hA si_83_1 sf_83_14 (by decide) (by decide) rfl rfl rfl ?_
  refine sr_iload_n hA si_83_4 rfl ?_
  refine sr_VFi (c := 1) (ci := 5) (as := [.int (nI r)]) (st := []) hA si_83_5 sv_11 sk_83_72 (xc_numR1 X g (by omega)) (by omega) rfl (by decide) (by decide) rfl sq_c_11 rfl (Nat.le_of_ble_eq_true rfl) ?_
  refine sr_if_eqN (tgt := 21) hA si_83_8 (by decide) (by omega) (fun c1 => absurd c1 (by omega)) (fun c1 => ?_)
  refine sr_iload_n hA si_83_11 rfl ?_
  refine sr_if_lt (tgt := 21) hA si_83_12 (by decide) (fun c2 => ?_) (fun c2 => absurd hh c2)
  refine sr_iconst (v := (-1)) hA si_83_21 (by decide) ?_
  exact sr_iretF hA si_83_22 sq_r_83 rfl rfl
set_option maxRecDepth 20000 in
theorem xc_lasts_d (X : sp_X) (g : sp_G) {r : Nat} (hr : r < 6) {h : Nat} (hh : 10 ≤ h) (hhb : h < 2 ^ 31) : sp_Ct X 9 83 [.ref 0, .int (nI r), .int (nI h)] g (sp_Fi (-1) g) := by
  refine sp_walkN (n := 5) sq_p_83 sq_l_83 (Nat.le_of_ble_eq_true rfl) (fun a hA => ?_)
  show sp_Ev X a 83 0 [.ref 0, .int (nI r), .int (nI h), .null, .null] [] g
  refine sr_aload_n hA si_83_0 rfl ?_
  refine sr_getR (r := 1) hA si_83_1 sf_83_14 (by decide) (by decide) rfl rfl rfl ?_
  refine sr_iload_n hA si_83_4 rfl ?_
  refine sr_VFi (c := 1) (ci := 5) (as := [.int (nI r)]) (st := []) hA si_83_5 sv_11 sk_83_72 (xc_numR1 X g (by omega)) (by omega) rfl (by decide) (by decide) rfl sq_c_11 rfl (Nat.le_of_ble_eq_true rfl) ?_
  refine sr_if_eqN (tgt := 21) hA si_83_8 (by decide) (by omega) (fun c1 => absurd c1 (by omega)) (fun c1 => ?_)
  refine sr_iload_n hA si_83_11 rfl ?_
  refine sr_if_ltN (tgt := 21) hA si_83_12 (by decide) (by omega) ?_
  refine sr_iload_n hA si_83_15 rfl ?_
  refine sr_bipush (v := nI 9) hA si_83_16 (by decide) ?_
  refine sr_icmp_leN (tgt := 23) hA si_83_18 (by decide) (by omega) (by omega) (fun c3 => absurd c3 (by omega)) (fun c3 => ?_)
  refine sr_iconst (v := (-1)) hA si_83_21 (by decide) ?_
  exact sr_iretF hA si_83_22 sq_r_83 rfl rfl
set_option maxRecDepth 20000 in
theorem mc_lasts_a (X : sp_X) (g : sp_G) {r : Int32} (hr : r < 0) (h : Int32) : sp_Ct X 9 198 [.ref 64, .int r, .int h] g (sp_Fi (-1) g) := by
  refine sp_walkN (n := 5) sq_p_198 sq_l_198 (Nat.le_of_ble_eq_true rfl) (fun a hA => ?_)
  show sp_Ev X a 198 0 [.ref 64, .int r, .int h, .null, .null] [] g
  refine sr_iload_n hA si_198_0 rfl ?_
  refine sr_SFi (as := [.int r]) (st := []) hA si_198_1 ss_140 sk_198_93 (mc_isRowM X g hr) (by omega) rfl rfl (Nat.le_of_ble_eq_true rfl) ?_
  refine sr_if_eqN (tgt := 17) hA si_198_4 (by decide) (by omega) (fun c1 => ?_) (fun c1 => absurd c1 (by omega))
  refine sr_iconst (v := (-1)) hA si_198_17 (by decide) ?_
  exact sr_iretF hA si_198_18 sq_r_198 rfl rfl
set_option maxRecDepth 20000 in
theorem mc_lasts_b (X : sp_X) (g : sp_G) {r : Nat} (hr : 6 ≤ r) (hrb : r < 2 ^ 31) (h : Int32) : sp_Ct X 9 198 [.ref 64, .int (nI r), .int h] g (sp_Fi (-1) g) := by
  refine sp_walkN (n := 5) sq_p_198 sq_l_198 (Nat.le_of_ble_eq_true rfl) (fun a hA => ?_)
  show sp_Ev X a 198 0 [.ref 64, .int (nI r), .int h, .null, .null] [] g
  refine sr_iload_n hA si_198_0 rfl ?_
  refine sr_SFi (as := [.int (nI r)]) (st := []) hA si_198_1 ss_140 sk_198_93 (mc_isRowH X g (by omega) (by omega)) (by omega) rfl rfl (Nat.le_of_ble_eq_true rfl) ?_
  refine sr_if_eqN (tgt := 17) hA si_198_4 (by decide) (by omega) (fun c1 => ?_) (fun c1 => absurd c1 (by omega))
  refine sr_iconst (v := (-1)) hA si_198_17 (by decide) ?_
  exact sr_iretF hA si_198_18 sq_r_198 rfl rfl
set_option maxRecDepth 20000 in
theorem mc_lasts_c (X : sp_X) (g : sp_G) {r : Nat} (hr : r < 6) {h : Int32} (hh : h < 0) : sp_Ct X 9 198 [.ref 64, .int (nI r), .int h] g (sp_Fi (-1) g) := by
  refine sp_walkN (n := 5) sq_p_198 sq_l_198 (Nat.le_of_ble_eq_true rfl) (fun a hA => ?_)
  show sp_Ev X a 198 0 [.ref 64, .int (nI r), .int h, .null, .null] [] g
  refine sr_iload_n hA si_198_0 rfl ?_
  refine sr_SFi (as := [.int (nI r)]) (st := []) hA si_198_1 ss_140 sk_198_93 (mc_isRow1 X g (by omega)) (by omega) rfl rfl (Nat.le_of_ble_eq_true rfl) ?_
  refine sr_if_eqN (tgt := 17) hA si_198_4 (by decide) (by omega) (fun c1 => absurd c1 (by omega)) (fun c1 => ?_)
  refine sr_iload_n hA si_198_7 rfl ?_
  refine sr_iconst (v := nI 0) hA si_198_8 (by decide) ?_
  refine sr_bipush (v := nI 9) hA si_198_9 (by decide) ?_
  refine sr_SFi (as := [.int h, .int (nI 0), .int (nI 9)]) (st := []) hA si_198_11 ss_135 sk_198_83 (mc_inM X g hh (by omega)) (by omega) rfl rfl (Nat.le_of_ble_eq_true rfl) ?_
  refine sr_if_neN (tgt := 19) hA si_198_14 (by decide) (by omega) (fun c2 => absurd c2 (by omega)) (fun c2 => ?_)
  refine sr_iconst (v := (-1)) hA si_198_17 (by decide) ?_
  exact sr_iretF hA si_198_18 sq_r_198 rfl rfl
set_option maxRecDepth 20000 in
theorem mc_lasts_d (X : sp_X) (g : sp_G) {r : Nat} (hr : r < 6) {h : Nat} (hh : 10 ≤ h) (hhb : h < 2 ^ 31) : sp_Ct X 9 198 [.ref 64, .int (nI r), .int (nI h)] g (sp_Fi (-1) g) := by
  refine sp_walkN (n := 5) sq_p_198 sq_l_198 (Nat.le_of_ble_eq_true rfl) (fun a hA => ?_)
  show sp_Ev X a 198 0 [.ref 64, .int (nI r), .int (nI h), .null, .null] [] g
  refine sr_iload_n hA si_198_0 rfl ?_
  refine sr_SFi (as := [.int (nI r)]) (st := []) hA si_198_1 ss_140 sk_198_93 (mc_isRow1 X g (by omega)) (by omega) rfl rfl (Nat.le_of_ble_eq_true rfl) ?_
  refine sr_if_eqN (tgt := 17) hA si_198_4 (by decide) (by omega) (fun c1 => absurd c1 (by omega)) (fun c1 => ?_)
  refine sr_iload_n hA si_198_7 rfl ?_
  refine sr_iconst (v := nI 0) hA si_198_8 (by decide) ?_
  refine sr_bipush (v := nI 9) hA si_198_9 (by decide) ?_
  refine sr_SFi (as := [.int (nI h), .int (nI 0), .int (nI 9)]) (st := []) hA si_198_11 ss_135 sk_198_83 (mc_inH X g (by omega) (by omega)) (by omega) rfl rfl (Nat.le_of_ble_eq_true rfl) ?_
  refine sr_if_neN (tgt := 19) hA si_198_14 (by decide) (by omega) (fun c2 => absurd c2 (by omega)) (fun c2 => ?_)
  refine sr_iconst (v := (-1)) hA si_198_17 (by decide) ?_
  exact sr_iretF hA si_198_18 sq_r_198 rfl rfl
set_option maxRecDepth 20000 in
theorem xc_lasts_r1 (X : sp_X) (g : sp_G) {r : Nat} (hr : r < 6) {h : Nat} (hh : h < 10) (hz : g.1 9 r = -1) : sp_Ct X 9 83 [.ref 0, .int (nI r), .int (nI h)] g (sp_Fi (-3) (sp_rx g 1)) := by
  refine sp_walkN (n := 5) sq_p_83 sq_l_83 (Nat.le_of_ble_eq_true rfl) (fun a hA => ?_)
  show sp_Ev X a 83 0 [.ref 0, .int (nI r), .int (nI h), .null, .null] [] g
  refine sr_aload_n hA si_83_0 rfl ?_
  refine sr_getR (r := 1) hA si_83_1 sf_83_14 (by decide) (by decide) rfl rfl rfl ?_
  refine sr_iload_n hA si_83_4 rfl ?_
  refine sr_VFi (c := 1) (ci := 5) (as := [.int (nI r)]) (st := []) hA si_83_5 sv_11 sk_83_72 (xc_numR1 X g (by omega)) (by omega) rfl (by decide) (by decide) rfl sq_c_11 rfl (Nat.le_of_ble_eq_true rfl) ?_
  refine sr_if_eqN (tgt := 21) hA si_83_8 (by decide) (by omega) (fun c1 => absurd c1 (by omega)) (fun c1 => ?_)
  refine sr_iload_n hA si_83_11 rfl ?_
  refine sr_if_ltN (tgt := 21) hA si_83_12 (by decide) (by omega) ?_
  refine sr_iload_n hA si_83_15 rfl ?_
  refine sr_bipush (v := nI 9) hA si_83_16 (by decide) ?_
  refine sr_icmp_leN (tgt := 23) hA si_83_18 (by decide) (by omega) (by omega) (fun c3 => ?_) (fun c3 => absurd c3 (by omega))
  refine sr_aload_n hA si_83_23 rfl ?_
  refine sr_iload_n hA si_83_24 rfl ?_
  refine sr_VFi (c := 0) (ci := 7) (as := [.int (nI r)]) (st := []) hA si_83_25 sv_73 sk_83_223 (xc_pwr1 X g hr hz) (by omega) rfl (by decide) (by decide) rfl sq_c_73 rfl (Nat.le_of_ble_eq_true rfl) ?_
  refine sr_istore_n (ls1 := [.ref 0, .int (nI r), .int (nI h), .int (nI 1), .null]) hA si_83_28 rfl (by rw [sq_l_83]; decide) rfl ?_
  refine sr_iload_n hA si_83_29 rfl ?_
  refine sr_if_eqN (tgt := 39) hA si_83_30 (by decide) (by omega) (fun c4 => absurd c4 (by omega)) (fun c4 => ?_)
  refine sr_aload_n hA si_83_33 rfl ?_
  refine sr_iload_n hA si_83_34 rfl ?_
  refine sr_VFi (c := 0) (ci := 7) (as := [.int (nI 1)]) (st := []) hA si_83_35 sv_12 sk_83_76 (xc_refuse X g (by omega)) (by omega) rfl (by decide) (by decide) rfl sq_c_12 rfl (Nat.le_of_ble_eq_true rfl) ?_
  exact sr_iretF hA si_83_38 sq_r_83 rfl rfl
set_option maxRecDepth 20000 in
theorem xc_lasts_r5 (X : sp_X) (g : sp_G) {r : Nat} (hr : r < 6) {h : Nat} (hh : h < 10)  {z : Nat} (hz : g.1 9 r = nI z) (hz12 : 12 < z) (hzb : z ≤ 40) : sp_Ct X 9 83 [.ref 0, .int (nI r), .int (nI h)] g (sp_Fi (-3) (sp_rx g 5)) := by
  refine sp_walkN (n := 5) sq_p_83 sq_l_83 (Nat.le_of_ble_eq_true rfl) (fun a hA => ?_)
  show sp_Ev X a 83 0 [.ref 0, .int (nI r), .int (nI h), .null, .null] [] g
  refine sr_aload_n hA si_83_0 rfl ?_
  refine sr_getR (r := 1) hA si_83_1 sf_83_14 (by decide) (by decide) rfl rfl rfl ?_
  refine sr_iload_n hA si_83_4 rfl ?_
  refine sr_VFi (c := 1) (ci := 5) (as := [.int (nI r)]) (st := []) hA si_83_5 sv_11 sk_83_72 (xc_numR1 X g (by omega)) (by omega) rfl (by decide) (by decide) rfl sq_c_11 rfl (Nat.le_of_ble_eq_true rfl) ?_
  refine sr_if_eqN (tgt := 21) hA si_83_8 (by decide) (by omega) (fun c1 => absurd c1 (by omega)) (fun c1 => ?_)
  refine sr_iload_n hA si_83_11 rfl ?_
  refine sr_if_ltN (tgt := 21) hA si_83_12 (by decide) (by omega) ?_
  refine sr_iload_n hA si_83_15 rfl ?_
  refine sr_bipush (v := nI 9) hA si_83_16 (by decide) ?_
  refine sr_icmp_leN (tgt := 23) hA si_83_18 (by decide) (by omega) (by omega) (fun c3 => ?_) (fun c3 => absurd c3 (by omega))
  refine sr_aload_n hA si_83_23 rfl ?_
  refine sr_iload_n hA si_83_24 rfl ?_
  refine sr_VFi (c := 0) (ci := 7) (as := [.int (nI r)]) (st := []) hA si_83_25 sv_73 sk_83_223 (xc_pwr5 X g hr hz hz12 hzb) (by omega) rfl (by decide) (by decide) rfl sq_c_73 rfl (Nat.le_of_ble_eq_true rfl) ?_
  refine sr_istore_n (ls1 := [.ref 0, .int (nI r), .int (nI h), .int (nI 5), .null]) hA si_83_28 rfl (by rw [sq_l_83]; decide) rfl ?_
  refine sr_iload_n hA si_83_29 rfl ?_
  refine sr_if_eqN (tgt := 39) hA si_83_30 (by decide) (by omega) (fun c4 => absurd c4 (by omega)) (fun c4 => ?_)
  refine sr_aload_n hA si_83_33 rfl ?_
  refine sr_iload_n hA si_83_34 rfl ?_
  refine sr_VFi (c := 0) (ci := 7) (as := [.int (nI 5)]) (st := []) hA si_83_35 sv_12 sk_83_76 (xc_refuse X g (by omega)) (by omega) rfl (by decide) (by decide) rfl sq_c_12 rfl (Nat.le_of_ble_eq_true rfl) ?_
  exact sr_iretF hA si_83_38 sq_r_83 rfl rfl
set_option maxRecDepth 20000 in
theorem xc_lasts_r3 (X : sp_X) (g : sp_G) {r : Nat} (hr : r < 6) {h : Nat} (hh : h < 10)  {z : Nat} (hz : g.1 9 r = nI z) (hzb : z ≤ 12) {n : Nat} (hn : g.1 18 3 = nI n) (hb : n ≤ 6) {b : Nat} (hbz : b < z) (hks : sp_ks (fun i => g.1 (3 + r) i) n b) (hbk : sp_bk (g.1 (3 + r) b) n) : sp_Ct X 9 83 [.ref 0, .int (nI r), .int (nI h)] g (sp_Fi (-3) (sp_rx g 3)) := by
  refine sp_walkN (n := 5) sq_p_83 sq_l_83 (Nat.le_of_ble_eq_true rfl) (fun a hA => ?_)
  show sp_Ev X a 83 0 [.ref 0, .int (nI r), .int (nI h), .null, .null] [] g
  refine sr_aload_n hA si_83_0 rfl ?_
  refine sr_getR (r := 1) hA si_83_1 sf_83_14 (by decide) (by decide) rfl rfl rfl ?_
  refine sr_iload_n hA si_83_4 rfl ?_
  refine sr_VFi (c := 1) (ci := 5) (as := [.int (nI r)]) (st := []) hA si_83_5 sv_11 sk_83_72 (xc_numR1 X g (by omega)) (by omega) rfl (by decide) (by decide) rfl sq_c_11 rfl (Nat.le_of_ble_eq_true rfl) ?_
  refine sr_if_eqN (tgt := 21) hA si_83_8 (by decide) (by omega) (fun c1 => absurd c1 (by omega)) (fun c1 => ?_)
  refine sr_iload_n hA si_83_11 rfl ?_
  refine sr_if_ltN (tgt := 21) hA si_83_12 (by decide) (by omega) ?_
  refine sr_iload_n hA si_83_15 rfl ?_
  refine sr_bipush (v := nI 9) hA si_83_16 (by decide) ?_
  refine sr_icmp_leN (tgt := 23) hA si_83_18 (by decide) (by omega) (by omega) (fun c3 => ?_) (fun c3 => absurd c3 (by omega))
  refine sr_aload_n hA si_83_23 rfl ?_
  refine sr_iload_n hA si_83_24 rfl ?_
  refine sr_VFi (c := 0) (ci := 7) (as := [.int (nI r)]) (st := []) hA si_83_25 sv_73 sk_83_223 (xc_pwr3 X g hr hz hzb hn hb hbz hks hbk) (by omega) rfl (by decide) (by decide) rfl sq_c_73 rfl (Nat.le_of_ble_eq_true rfl) ?_
  refine sr_istore_n (ls1 := [.ref 0, .int (nI r), .int (nI h), .int (nI 3), .null]) hA si_83_28 rfl (by rw [sq_l_83]; decide) rfl ?_
  refine sr_iload_n hA si_83_29 rfl ?_
  refine sr_if_eqN (tgt := 39) hA si_83_30 (by decide) (by omega) (fun c4 => absurd c4 (by omega)) (fun c4 => ?_)
  refine sr_aload_n hA si_83_33 rfl ?_
  refine sr_iload_n hA si_83_34 rfl ?_
  refine sr_VFi (c := 0) (ci := 7) (as := [.int (nI 3)]) (st := []) hA si_83_35 sv_12 sk_83_76 (xc_refuse X g (by omega)) (by omega) rfl (by decide) (by decide) rfl sq_c_12 rfl (Nat.le_of_ble_eq_true rfl) ?_
  exact sr_iretF hA si_83_38 sq_r_83 rfl rfl
set_option maxRecDepth 20000 in
theorem mc_lasts_r1 (X : sp_X) (g : sp_G) {r : Nat} (hr : r < 6) {h : Nat} (hh : h < 10) (hz : g.1 66 r = -1) : sp_Ct X 9 198 [.ref 64, .int (nI r), .int (nI h)] g (sp_Fi (-3) (sp_rm6 g 1)) := by
  refine sp_walkN (n := 5) sq_p_198 sq_l_198 (Nat.le_of_ble_eq_true rfl) (fun a hA => ?_)
  show sp_Ev X a 198 0 [.ref 64, .int (nI r), .int (nI h), .null, .null] [] g
  refine sr_iload_n hA si_198_0 rfl ?_
  refine sr_SFi (as := [.int (nI r)]) (st := []) hA si_198_1 ss_140 sk_198_93 (mc_isRow1 X g (by omega)) (by omega) rfl rfl (Nat.le_of_ble_eq_true rfl) ?_
  refine sr_if_eqN (tgt := 17) hA si_198_4 (by decide) (by omega) (fun c1 => absurd c1 (by omega)) (fun c1 => ?_)
  refine sr_iload_n hA si_198_7 rfl ?_
  refine sr_iconst (v := nI 0) hA si_198_8 (by decide) ?_
  refine sr_bipush (v := nI 9) hA si_198_9 (by decide) ?_
  refine sr_SFi (as := [.int (nI h), .int (nI 0), .int (nI 9)]) (st := []) hA si_198_11 ss_135 sk_198_83 (mc_inN X g (by omega) (by omega) (by omega)) (by omega) rfl rfl (Nat.le_of_ble_eq_true rfl) ?_
  refine sr_if_neN (tgt := 19) hA si_198_14 (by decide) (by omega) (fun c2 => ?_) (fun c2 => absurd c2 (by omega))
  refine sr_aload_n hA si_198_19 rfl ?_
  refine sr_iload_n hA si_198_20 rfl ?_
  refine sr_VFi (c := 64) (ci := 8) (as := [.int (nI r)]) (st := []) hA si_198_21 sv_190 sk_198_209 (mc_np1 X g hr hz) (by omega) rfl (by decide) (by decide) rfl sq_c_190 rfl (Nat.le_of_ble_eq_true rfl) ?_
  refine sr_istore_n (ls1 := [.ref 64, .int (nI r), .int (nI h), .int (-3), .null]) hA si_198_24 rfl (by rw [sq_l_198]; decide) rfl ?_
  refine sr_iload_n hA si_198_25 rfl ?_
  refine sr_if_ge (tgt := 31) hA si_198_26 (by decide) (fun c3 => absurd c3 (sp_m4 (by decide))) (fun c3 => ?_)
  refine sr_iload_n hA si_198_29 rfl ?_
  exact sr_iretF hA si_198_30 sq_r_198 rfl rfl
set_option maxRecDepth 20000 in
theorem mc_lasts_r5 (X : sp_X) (g : sp_G) {r : Nat} (hr : r < 6) {h : Nat} (hh : h < 10)  {z : Nat} (hz : g.1 66 r = nI z) (hz12 : 12 < z) (hzb : z ≤ 40) : sp_Ct X 9 198 [.ref 64, .int (nI r), .int (nI h)] g (sp_Fi (-3) (sp_rm6 g 5)) := by
  refine sp_walkN (n := 5) sq_p_198 sq_l_198 (Nat.le_of_ble_eq_true rfl) (fun a hA => ?_)
  show sp_Ev X a 198 0 [.ref 64, .int (nI r), .int (nI h), .null, .null] [] g
  refine sr_iload_n hA si_198_0 rfl ?_
  refine sr_SFi (as := [.int (nI r)]) (st := []) hA si_198_1 ss_140 sk_198_93 (mc_isRow1 X g (by omega)) (by omega) rfl rfl (Nat.le_of_ble_eq_true rfl) ?_
  refine sr_if_eqN (tgt := 17) hA si_198_4 (by decide) (by omega) (fun c1 => absurd c1 (by omega)) (fun c1 => ?_)
  refine sr_iload_n hA si_198_7 rfl ?_
  refine sr_iconst (v := nI 0) hA si_198_8 (by decide) ?_
  refine sr_bipush (v := nI 9) hA si_198_9 (by decide) ?_
  refine sr_SFi (as := [.int (nI h), .int (nI 0), .int (nI 9)]) (st := []) hA si_198_11 ss_135 sk_198_83 (mc_inN X g (by omega) (by omega) (by omega)) (by omega) rfl rfl (Nat.le_of_ble_eq_true rfl) ?_
  refine sr_if_neN (tgt := 19) hA si_198_14 (by decide) (by omega) (fun c2 => ?_) (fun c2 => absurd c2 (by omega))
  refine sr_aload_n hA si_198_19 rfl ?_
  refine sr_iload_n hA si_198_20 rfl ?_
  refine sr_VFi (c := 64) (ci := 8) (as := [.int (nI r)]) (st := []) hA si_198_21 sv_190 sk_198_209 (mc_np5 X g hr hz hz12 hzb) (by omega) rfl (by decide) (by decide) rfl sq_c_190 rfl (Nat.le_of_ble_eq_true rfl) ?_
  refine sr_istore_n (ls1 := [.ref 64, .int (nI r), .int (nI h), .int (-3), .null]) hA si_198_24 rfl (by rw [sq_l_198]; decide) rfl ?_
  refine sr_iload_n hA si_198_25 rfl ?_
  refine sr_if_ge (tgt := 31) hA si_198_26 (by decide) (fun c3 => absurd c3 (sp_m4 (by decide))) (fun c3 => ?_)
  refine sr_iload_n hA si_198_29 rfl ?_
  exact sr_iretF hA si_198_30 sq_r_198 rfl rfl
set_option maxRecDepth 20000 in
theorem mc_lasts_r3 (X : sp_X) (g : sp_G) {r : Nat} (hr : r < 6) {h : Nat} (hh : h < 10)  {z : Nat} (hz : g.1 66 r = nI z) (hzb : z ≤ 12) {n : Nat} (hn : g.1 64 11 = nI n) (hb : n ≤ 6) {b : Nat} (hbz : b < z) (hks : sp_ks (fun i => g.1 67 (40 * r + i)) n b) (hbk : sp_bk (g.1 67 (40 * r + b)) n) : sp_Ct X 9 198 [.ref 64, .int (nI r), .int (nI h)] g (sp_Fi (-3) (sp_rm6 g 3)) := by
  refine sp_walkN (n := 5) sq_p_198 sq_l_198 (Nat.le_of_ble_eq_true rfl) (fun a hA => ?_)
  show sp_Ev X a 198 0 [.ref 64, .int (nI r), .int (nI h), .null, .null] [] g
  refine sr_iload_n hA si_198_0 rfl ?_
  refine sr_SFi (as := [.int (nI r)]) (st := []) hA si_198_1 ss_140 sk_198_93 (mc_isRow1 X g (by omega)) (by omega) rfl rfl (Nat.le_of_ble_eq_true rfl) ?_
  refine sr_if_eqN (tgt := 17) hA si_198_4 (by decide) (by omega) (fun c1 => absurd c1 (by omega)) (fun c1 => ?_)
  refine sr_iload_n hA si_198_7 rfl ?_
  refine sr_iconst (v := nI 0) hA si_198_8 (by decide) ?_
  refine sr_bipush (v := nI 9) hA si_198_9 (by decide) ?_
  refine sr_SFi (as := [.int (nI h), .int (nI 0), .int (nI 9)]) (st := []) hA si_198_11 ss_135 sk_198_83 (mc_inN X g (by omega) (by omega) (by omega)) (by omega) rfl rfl (Nat.le_of_ble_eq_true rfl) ?_
  refine sr_if_neN (tgt := 19) hA si_198_14 (by decide) (by omega) (fun c2 => ?_) (fun c2 => absurd c2 (by omega))
  refine sr_aload_n hA si_198_19 rfl ?_
  refine sr_iload_n hA si_198_20 rfl ?_
  refine sr_VFi (c := 64) (ci := 8) (as := [.int (nI r)]) (st := []) hA si_198_21 sv_190 sk_198_209 (mc_np3 X g hr hz hzb hn hb hbz hks hbk) (by omega) rfl (by decide) (by decide) rfl sq_c_190 rfl (Nat.le_of_ble_eq_true rfl) ?_
  refine sr_istore_n (ls1 := [.ref 64, .int (nI r), .int (nI h), .int (-3), .null]) hA si_198_24 rfl (by rw [sq_l_198]; decide) rfl ?_
  refine sr_iload_n hA si_198_25 rfl ?_
  refine sr_if_ge (tgt := 31) hA si_198_26 (by decide) (fun c3 => absurd c3 (sp_m4 (by decide))) (fun c3 => ?_)
  refine sr_iload_n hA si_198_29 rfl ?_
  exact sr_iretF hA si_198_30 sq_r_198 rfl rfl
set_option maxRecDepth 20000 in
theorem xc_digs_a (X : sp_X) (g : sp_G) {r : Int32} (hr : r < 0) (t : Int32) : sp_Ct X 9 76 [.ref 0, .int r, .int t] g (sp_Fi (-1) g) := by
  refine sp_walkN (n := 5) sq_p_76 sq_l_76 (Nat.le_of_ble_eq_true rfl) (fun a hA => ?_)
  show sp_Ev X a 76 0 [.ref 0, .int r, .int t, .null, .null] [] g
  refine sr_aload_n hA si_76_0 rfl ?_
  refine sr_getR (r := 1) hA si_76_1 sf_76_14 (by decide) (by decide) rfl rfl rfl ?_
  refine sr_iload_n hA si_76_4 rfl ?_
  refine sr_VFi (c := 1) (ci := 5) (as := [.int r]) (st := []) hA si_76_5 sv_11 sk_76_72 (xc_numRM X g hr) (by omega) rfl (by decide) (by decide) rfl sq_c_11 rfl (Nat.le_of_ble_eq_true rfl) ?_
  refine sr_if_eqN (tgt := 22) hA si_76_8 (by decide) (by omega) (fun c1 => ?_) (fun c1 => absurd c1 (by omega))
  refine sr_iconst (v := (-1)) hA si_76_22 (by decide) ?_
  exact sr_iretF hA si_76_23 sq_r_76 rfl rfl
set_option maxRecDepth 20000 in
theorem xc_digs_b (X : sp_X) (g : sp_G) {r : Nat} (hr : 6 ≤ r) (hrb : r < 2 ^ 31) (t : Int32) : sp_Ct X 9 76 [.ref 0, .int (nI r), .int t] g (sp_Fi (-1) g) := by
  refine sp_walkN (n := 5) sq_p_76 sq_l_76 (Nat.le_of_ble_eq_true rfl) (fun a hA => ?_)
  show sp_Ev X a 76 0 [.ref 0, .int (nI r), .int t, .null, .null] [] g
  refine sr_aload_n hA si_76_0 rfl ?_
  refine sr_getR (r := 1) hA si_76_1 sf_76_14 (by decide) (by decide) rfl rfl rfl ?_
  refine sr_iload_n hA si_76_4 rfl ?_
  refine sr_VFi (c := 1) (ci := 5) (as := [.int (nI r)]) (st := []) hA si_76_5 sv_11 sk_76_72 (xc_numRH X g (by omega) (by omega)) (by omega) rfl (by decide) (by decide) rfl sq_c_11 rfl (Nat.le_of_ble_eq_true rfl) ?_
  refine sr_if_eqN (tgt := 22) hA si_76_8 (by decide) (by omega) (fun c1 => ?_) (fun c1 => absurd c1 (by omega))
  refine sr_iconst (v := (-1)) hA si_76_22 (by decide) ?_
  exact sr_iretF hA si_76_23 sq_r_76 rfl rfl
set_option maxRecDepth 20000 in
theorem xc_digs_c (X : sp_X) (g : sp_G) {r : Nat} (hr : r < 6) {t : Int32} (ht : t < 0) : sp_Ct X 9 76 [.ref 0, .int (nI r), .int t] g (sp_Fi (-1) g) := by
  refine sp_walkN (n := 5) sq_p_76 sq_l_76 (Nat.le_of_ble_eq_true rfl) (fun a hA => ?_)
  show sp_Ev X a 76 0 [.ref 0, .int (nI r), .int t, .null, .null] [] g
  refine sr_aload_n hA si_76_0 rfl ?_
  refine sr_getR (r := 1) hA si_76_1 sf_76_14 (by decide) (by decide) rfl rfl rfl ?_
  refine sr_iload_n hA si_76_4 rfl ?_
  refine sr_VFi (c := 1) (ci := 5) (as := [.int (nI r)]) (st := []) hA si_76_5 sv_11 sk_76_72 (xc_numR1 X g (by omega)) (by omega) rfl (by decide) (by decide) rfl sq_c_11 rfl (Nat.le_of_ble_eq_true rfl) ?_
  refine sr_if_eqN (tgt := 22) hA si_76_8 (by decide) (by omega) (fun c1 => absurd c1 (by omega)) (fun c1 => ?_)
  refine sr_aload_n hA si_76_11 rfl ?_
  refine sr_getR (r := 1) hA si_76_12 sf_76_14 (by decide) (by decide) rfl rfl rfl ?_
  refine sr_iload_n hA si_76_15 rfl ?_
  refine sr_VFi (c := 1) (ci := 5) (as := [.int t]) (st := []) hA si_76_16 sv_11 sk_76_72 (xc_numRM X g ht) (by omega) rfl (by decide) (by decide) rfl sq_c_11 rfl (Nat.le_of_ble_eq_true rfl) ?_
  refine sr_if_neN (tgt := 24) hA si_76_19 (by decide) (by omega) (fun c2 => absurd c2 (by omega)) (fun c2 => ?_)
  refine sr_iconst (v := (-1)) hA si_76_22 (by decide) ?_
  exact sr_iretF hA si_76_23 sq_r_76 rfl rfl
set_option maxRecDepth 20000 in
theorem xc_digs_d (X : sp_X) (g : sp_G) {r : Nat} (hr : r < 6) {t : Nat} (ht : 6 ≤ t) (htb : t < 2 ^ 31) : sp_Ct X 9 76 [.ref 0, .int (nI r), .int (nI t)] g (sp_Fi (-1) g) := by
  refine sp_walkN (n := 5) sq_p_76 sq_l_76 (Nat.le_of_ble_eq_true rfl) (fun a hA => ?_)
  show sp_Ev X a 76 0 [.ref 0, .int (nI r), .int (nI t), .null, .null] [] g
  refine sr_aload_n hA si_76_0 rfl ?_
  refine sr_getR (r := 1) hA si_76_1 sf_76_14 (by decide) (by decide) rfl rfl rfl ?_
  refine sr_iload_n hA si_76_4 rfl ?_
  refine sr_VFi (c := 1) (ci := 5) (as := [.int (nI r)]) (st := []) hA si_76_5 sv_11 sk_76_72 (xc_numR1 X g (by omega)) (by omega) rfl (by decide) (by decide) rfl sq_c_11 rfl (Nat.le_of_ble_eq_true rfl) ?_
  refine sr_if_eqN (tgt := 22) hA si_76_8 (by decide) (by omega) (fun c1 => absurd c1 (by omega)) (fun c1 => ?_)
  refine sr_aload_n hA si_76_11 rfl ?_
  refine sr_getR (r := 1) hA si_76_12 sf_76_14 (by decide) (by decide) rfl rfl rfl ?_
  refine sr_iload_n hA si_76_15 rfl ?_
  refine sr_VFi (c := 1) (ci := 5) (as := [.int (nI t)]) (st := []) hA si_76_16 sv_11 sk_76_72 (xc_numRH X g (by omega) (by omega)) (by omega) rfl (by decide) (by decide) rfl sq_c_11 rfl (Nat.le_of_ble_eq_true rfl) ?_
  refine sr_if_neN (tgt := 24) hA si_76_19 (by decide) (by omega) (fun c2 => absurd c2 (by omega)) (fun c2 => ?_)
  refine sr_iconst (v := (-1)) hA si_76_22 (by decide) ?_
  exact sr_iretF hA si_76_23 sq_r_76 rfl rfl
set_option maxRecDepth 20000 in
theorem mc_digs_a (X : sp_X) (g : sp_G) {r : Int32} (hr : r < 0) (t : Int32) : sp_Ct X 9 195 [.ref 64, .int r, .int t] g (sp_Fi (-1) g) := by
  refine sp_walkN (n := 5) sq_p_195 sq_l_195 (Nat.le_of_ble_eq_true rfl) (fun a hA => ?_)
  show sp_Ev X a 195 0 [.ref 64, .int r, .int t, .null, .null] [] g
  refine sr_iload_n hA si_195_0 rfl ?_
  refine sr_SFi (as := [.int r]) (st := []) hA si_195_1 ss_140 sk_195_93 (mc_isRowM X g hr) (by omega) rfl rfl (Nat.le_of_ble_eq_true rfl) ?_
  refine sr_if_eqN (tgt := 14) hA si_195_4 (by decide) (by omega) (fun c1 => ?_) (fun c1 => absurd c1 (by omega))
  refine sr_iconst (v := (-1)) hA si_195_14 (by decide) ?_
  exact sr_iretF hA si_195_15 sq_r_195 rfl rfl
set_option maxRecDepth 20000 in
theorem mc_digs_b (X : sp_X) (g : sp_G) {r : Nat} (hr : 6 ≤ r) (hrb : r < 2 ^ 31) (t : Int32) : sp_Ct X 9 195 [.ref 64, .int (nI r), .int t] g (sp_Fi (-1) g) := by
  refine sp_walkN (n := 5) sq_p_195 sq_l_195 (Nat.le_of_ble_eq_true rfl) (fun a hA => ?_)
  show sp_Ev X a 195 0 [.ref 64, .int (nI r), .int t, .null, .null] [] g
  refine sr_iload_n hA si_195_0 rfl ?_
  refine sr_SFi (as := [.int (nI r)]) (st := []) hA si_195_1 ss_140 sk_195_93 (mc_isRowH X g (by omega) (by omega)) (by omega) rfl rfl (Nat.le_of_ble_eq_true rfl) ?_
  refine sr_if_eqN (tgt := 14) hA si_195_4 (by decide) (by omega) (fun c1 => ?_) (fun c1 => absurd c1 (by omega))
  refine sr_iconst (v := (-1)) hA si_195_14 (by decide) ?_
  exact sr_iretF hA si_195_15 sq_r_195 rfl rfl
set_option maxRecDepth 20000 in
theorem mc_digs_c (X : sp_X) (g : sp_G) {r : Nat} (hr : r < 6) {t : Int32} (ht : t < 0) : sp_Ct X 9 195 [.ref 64, .int (nI r), .int t] g (sp_Fi (-1) g) := by
  refine sp_walkN (n := 5) sq_p_195 sq_l_195 (Nat.le_of_ble_eq_true rfl) (fun a hA => ?_)
  show sp_Ev X a 195 0 [.ref 64, .int (nI r), .int t, .null, .null] [] g
  refine sr_iload_n hA si_195_0 rfl ?_
  refine sr_SFi (as := [.int (nI r)]) (st := []) hA si_195_1 ss_140 sk_195_93 (mc_isRow1 X g (by omega)) (by omega) rfl rfl (Nat.le_of_ble_eq_true rfl) ?_
  refine sr_if_eqN (tgt := 14) hA si_195_4 (by decide) (by omega) (fun c1 => absurd c1 (by omega)) (fun c1 => ?_)
  refine sr_iload_n hA si_195_7 rfl ?_
  refine sr_SFi (as := [.int t]) (st := []) hA si_195_8 ss_140 sk_195_93 (mc_isRowM X g ht) (by omega) rfl rfl (Nat.le_of_ble_eq_true rfl) ?_
  refine sr_if_neN (tgt := 16) hA si_195_11 (by decide) (by omega) (fun c2 => absurd c2 (by omega)) (fun c2 => ?_)
  refine sr_iconst (v := (-1)) hA si_195_14 (by decide) ?_
  exact sr_iretF hA si_195_15 sq_r_195 rfl rfl
set_option maxRecDepth 20000 in
theorem mc_digs_d (X : sp_X) (g : sp_G) {r : Nat} (hr : r < 6) {t : Nat} (ht : 6 ≤ t) (htb : t < 2 ^ 31) : sp_Ct X 9 195 [.ref 64, .int (nI r), .int (nI t)] g (sp_Fi (-1) g) := by
  refine sp_walkN (n := 5) sq_p_195 sq_l_195 (Nat.le_of_ble_eq_true rfl) (fun a hA => ?_)
  show sp_Ev X a 195 0 [.ref 64, .int (nI r), .int (nI t), .null, .null] [] g
  refine sr_iload_n hA si_195_0 rfl ?_
  refine sr_SFi (as := [.int (nI r)]) (st := []) hA si_195_1 ss_140 sk_195_93 (mc_isRow1 X g (by omega)) (by omega) rfl rfl (Nat.le_of_ble_eq_true rfl) ?_
  refine sr_if_eqN (tgt := 14) hA si_195_4 (by decide) (by omega) (fun c1 => absurd c1 (by omega)) (fun c1 => ?_)
  refine sr_iload_n hA si_195_7 rfl ?_
  refine sr_SFi (as := [.int (nI t)]) (st := []) hA si_195_8 ss_140 sk_195_93 (mc_isRowH X g (by omega) (by omega)) (by omega) rfl rfl (Nat.le_of_ble_eq_true rfl) ?_
  refine sr_if_neN (tgt := 16) hA si_195_11 (by decide) (by omega) (fun c2 => absurd c2 (by omega)) (fun c2 => ?_)
  refine sr_iconst (v := (-1)) hA si_195_14 (by decide) ?_
  exact sr_iretF hA si_195_15 sq_r_195 rfl rfl
set_option maxRecDepth 20000 in
theorem xc_digs_r1 (X : sp_X) (g : sp_G) {r : Nat} (hr : r < 6) {t : Nat} (ht : t < 6) (hz : g.1 9 r = -1) : sp_Ct X 9 76 [.ref 0, .int (nI r), .int (nI t)] g (sp_Fi (-3) (sp_rx g 1)) := by
  refine sp_walkN (n := 5) sq_p_76 sq_l_76 (Nat.le_of_ble_eq_true rfl) (fun a hA => ?_)
  show sp_Ev X a 76 0 [.ref 0, .int (nI r), .int (nI t), .null, .null] [] g
  refine sr_aload_n hA si_76_0 rfl ?_
  refine sr_getR (r := 1) hA si_76_1 sf_76_14 (by decide) (by decide) rfl rfl rfl ?_
  refine sr_iload_n hA si_76_4 rfl ?_
  refine sr_VFi (c := 1) (ci := 5) (as := [.int (nI r)]) (st := []) hA si_76_5 sv_11 sk_76_72 (xc_numR1 X g (by omega)) (by omega) rfl (by decide) (by decide) rfl sq_c_11 rfl (Nat.le_of_ble_eq_true rfl) ?_
  refine sr_if_eqN (tgt := 22) hA si_76_8 (by decide) (by omega) (fun c1 => absurd c1 (by omega)) (fun c1 => ?_)
  refine sr_aload_n hA si_76_11 rfl ?_
  refine sr_getR (r := 1) hA si_76_12 sf_76_14 (by decide) (by decide) rfl rfl rfl ?_
  refine sr_iload_n hA si_76_15 rfl ?_
  refine sr_VFi (c := 1) (ci := 5) (as := [.int (nI t)]) (st := []) hA si_76_16 sv_11 sk_76_72 (xc_numR1 X g (by omega)) (by omega) rfl (by decide) (by decide) rfl sq_c_11 rfl (Nat.le_of_ble_eq_true rfl) ?_
  refine sr_if_neN (tgt := 24) hA si_76_19 (by decide) (by omega) (fun c2 => ?_) (fun c2 => absurd c2 (by omega))
  refine sr_aload_n hA si_76_24 rfl ?_
  refine sr_iload_n hA si_76_25 rfl ?_
  refine sr_VFi (c := 0) (ci := 7) (as := [.int (nI r)]) (st := []) hA si_76_26 sv_73 sk_76_223 (xc_pwr1 X g hr hz) (by omega) rfl (by decide) (by decide) rfl sq_c_73 rfl (Nat.le_of_ble_eq_true rfl) ?_
  refine sr_istore_n (ls1 := [.ref 0, .int (nI r), .int (nI t), .int (nI 1), .null]) hA si_76_29 rfl (by rw [sq_l_76]; decide) rfl ?_
  refine sr_iload_n hA si_76_30 rfl ?_
  refine sr_if_eqN (tgt := 40) hA si_76_31 (by decide) (by omega) (fun c3 => absurd c3 (by omega)) (fun c3 => ?_)
  refine sr_aload_n hA si_76_34 rfl ?_
  refine sr_iload_n hA si_76_35 rfl ?_
  refine sr_VFi (c := 0) (ci := 7) (as := [.int (nI 1)]) (st := []) hA si_76_36 sv_12 sk_76_76 (xc_refuse X g (by omega)) (by omega) rfl (by decide) (by decide) rfl sq_c_12 rfl (Nat.le_of_ble_eq_true rfl) ?_
  exact sr_iretF hA si_76_39 sq_r_76 rfl rfl
set_option maxRecDepth 20000 in
theorem xc_digs_r5 (X : sp_X) (g : sp_G) {r : Nat} (hr : r < 6) {t : Nat} (ht : t < 6)  {z : Nat} (hz : g.1 9 r = nI z) (hz12 : 12 < z) (hzb : z ≤ 40) : sp_Ct X 9 76 [.ref 0, .int (nI r), .int (nI t)] g (sp_Fi (-3) (sp_rx g 5)) := by
  refine sp_walkN (n := 5) sq_p_76 sq_l_76 (Nat.le_of_ble_eq_true rfl) (fun a hA => ?_)
  show sp_Ev X a 76 0 [.ref 0, .int (nI r), .int (nI t), .null, .null] [] g
  refine sr_aload_n hA si_76_0 rfl ?_
  refine sr_getR (r := 1) hA si_76_1 sf_76_14 (by decide) (by decide) rfl rfl rfl ?_
  refine sr_iload_n hA si_76_4 rfl ?_
  refine sr_VFi (c := 1) (ci := 5) (as := [.int (nI r)]) (st := []) hA si_76_5 sv_11 sk_76_72 (xc_numR1 X g (by omega)) (by omega) rfl (by decide) (by decide) rfl sq_c_11 rfl (Nat.le_of_ble_eq_true rfl) ?_
  refine sr_if_eqN (tgt := 22) hA si_76_8 (by decide) (by omega) (fun c1 => absurd c1 (by omega)) (fun c1 => ?_)
  refine sr_aload_n hA si_76_11 rfl ?_
  refine sr_getR (r := 1) hA si_76_12 sf_76_14 (by decide) (by decide) rfl rfl rfl ?_
  refine sr_iload_n hA si_76_15 rfl ?_
  refine sr_VFi (c := 1) (ci := 5) (as := [.int (nI t)]) (st := []) hA si_76_16 sv_11 sk_76_72 (xc_numR1 X g (by omega)) (by omega) rfl (by decide) (by decide) rfl sq_c_11 rfl (Nat.le_of_ble_eq_true rfl) ?_
  refine sr_if_neN (tgt := 24) hA si_76_19 (by decide) (by omega) (fun c2 => ?_) (fun c2 => absurd c2 (by omega))
  refine sr_aload_n hA si_76_24 rfl ?_
  refine sr_iload_n hA si_76_25 rfl ?_
  refine sr_VFi (c := 0) (ci := 7) (as := [.int (nI r)]) (st := []) hA si_76_26 sv_73 sk_76_223 (xc_pwr5 X g hr hz hz12 hzb) (by omega) rfl (by decide) (by decide) rfl sq_c_73 rfl (Nat.le_of_ble_eq_true rfl) ?_
  refine sr_istore_n (ls1 := [.ref 0, .int (nI r), .int (nI t), .int (nI 5), .null]) hA si_76_29 rfl (by rw [sq_l_76]; decide) rfl ?_
  refine sr_iload_n hA si_76_30 rfl ?_
  refine sr_if_eqN (tgt := 40) hA si_76_31 (by decide) (by omega) (fun c3 => absurd c3 (by omega)) (fun c3 => ?_)
  refine sr_aload_n hA si_76_34 rfl ?_
  refine sr_iload_n hA si_76_35 rfl ?_
  refine sr_VFi (c := 0) (ci := 7) (as := [.int (nI 5)]) (st := []) hA si_76_36 sv_12 sk_76_76 (xc_refuse X g (by omega)) (by omega) rfl (by decide) (by decide) rfl sq_c_12 rfl (Nat.le_of_ble_eq_true rfl) ?_
  exact sr_iretF hA si_76_39 sq_r_76 rfl rfl
set_option maxRecDepth 20000 in
theorem xc_digs_r3 (X : sp_X) (g : sp_G) {r : Nat} (hr : r < 6) {t : Nat} (ht : t < 6)  {z : Nat} (hz : g.1 9 r = nI z) (hzb : z ≤ 12) {n : Nat} (hn : g.1 18 3 = nI n) (hb : n ≤ 6) {b : Nat} (hbz : b < z) (hks : sp_ks (fun i => g.1 (3 + r) i) n b) (hbk : sp_bk (g.1 (3 + r) b) n) : sp_Ct X 9 76 [.ref 0, .int (nI r), .int (nI t)] g (sp_Fi (-3) (sp_rx g 3)) := by
  refine sp_walkN (n := 5) sq_p_76 sq_l_76 (Nat.le_of_ble_eq_true rfl) (fun a hA => ?_)
  show sp_Ev X a 76 0 [.ref 0, .int (nI r), .int (nI t), .null, .null] [] g
  refine sr_aload_n hA si_76_0 rfl ?_
  refine sr_getR (r := 1) hA si_76_1 sf_76_14 (by decide) (by decide) rfl rfl rfl ?_
  refine sr_iload_n hA si_76_4 rfl ?_
  refine sr_VFi (c := 1) (ci := 5) (as := [.int (nI r)]) (st := []) hA si_76_5 sv_11 sk_76_72 (xc_numR1 X g (by omega)) (by omega) rfl (by decide) (by decide) rfl sq_c_11 rfl (Nat.le_of_ble_eq_true rfl) ?_
  refine sr_if_eqN (tgt := 22) hA si_76_8 (by decide) (by omega) (fun c1 => absurd c1 (by omega)) (fun c1 => ?_)
  refine sr_aload_n hA si_76_11 rfl ?_
  refine sr_getR (r := 1) hA si_76_12 sf_76_14 (by decide) (by decide) rfl rfl rfl ?_
  refine sr_iload_n hA si_76_15 rfl ?_
  refine sr_VFi (c := 1) (ci := 5) (as := [.int (nI t)]) (st := []) hA si_76_16 sv_11 sk_76_72 (xc_numR1 X g (by omega)) (by omega) rfl (by decide) (by decide) rfl sq_c_11 rfl (Nat.le_of_ble_eq_true rfl) ?_
  refine sr_if_neN (tgt := 24) hA si_76_19 (by decide) (by omega) (fun c2 => ?_) (fun c2 => absurd c2 (by omega))
  refine sr_aload_n hA si_76_24 rfl ?_
  refine sr_iload_n hA si_76_25 rfl ?_
  refine sr_VFi (c := 0) (ci := 7) (as := [.int (nI r)]) (st := []) hA si_76_26 sv_73 sk_76_223 (xc_pwr3 X g hr hz hzb hn hb hbz hks hbk) (by omega) rfl (by decide) (by decide) rfl sq_c_73 rfl (Nat.le_of_ble_eq_true rfl) ?_
  refine sr_istore_n (ls1 := [.ref 0, .int (nI r), .int (nI t), .int (nI 3), .null]) hA si_76_29 rfl (by rw [sq_l_76]; decide) rfl ?_
  refine sr_iload_n hA si_76_30 rfl ?_
  refine sr_if_eqN (tgt := 40) hA si_76_31 (by decide) (by omega) (fun c3 => absurd c3 (by omega)) (fun c3 => ?_)
  refine sr_aload_n hA si_76_34 rfl ?_
  refine sr_iload_n hA si_76_35 rfl ?_
  refine sr_VFi (c := 0) (ci := 7) (as := [.int (nI 3)]) (st := []) hA si_76_36 sv_12 sk_76_76 (xc_refuse X g (by omega)) (by omega) rfl (by decide) (by decide) rfl sq_c_12 rfl (Nat.le_of_ble_eq_true rfl) ?_
  exact sr_iretF hA si_76_39 sq_r_76 rfl rfl
set_option maxRecDepth 20000 in
theorem mc_digs_r1 (X : sp_X) (g : sp_G) {r : Nat} (hr : r < 6) {t : Nat} (ht : t < 6) (hz : g.1 66 r = -1) : sp_Ct X 9 195 [.ref 64, .int (nI r), .int (nI t)] g (sp_Fi (-3) (sp_rm6 g 1)) := by
  refine sp_walkN (n := 5) sq_p_195 sq_l_195 (Nat.le_of_ble_eq_true rfl) (fun a hA => ?_)
  show sp_Ev X a 195 0 [.ref 64, .int (nI r), .int (nI t), .null, .null] [] g
  refine sr_iload_n hA si_195_0 rfl ?_
  refine sr_SFi (as := [.int (nI r)]) (st := []) hA si_195_1 ss_140 sk_195_93 (mc_isRow1 X g (by omega)) (by omega) rfl rfl (Nat.le_of_ble_eq_true rfl) ?_
  refine sr_if_eqN (tgt := 14) hA si_195_4 (by decide) (by omega) (fun c1 => absurd c1 (by omega)) (fun c1 => ?_)
  refine sr_iload_n hA si_195_7 rfl ?_
  refine sr_SFi (as := [.int (nI t)]) (st := []) hA si_195_8 ss_140 sk_195_93 (mc_isRow1 X g (by omega)) (by omega) rfl rfl (Nat.le_of_ble_eq_true rfl) ?_
  refine sr_if_neN (tgt := 16) hA si_195_11 (by decide) (by omega) (fun c2 => ?_) (fun c2 => absurd c2 (by omega))
  refine sr_aload_n hA si_195_16 rfl ?_
  refine sr_iload_n hA si_195_17 rfl ?_
  refine sr_VFi (c := 64) (ci := 8) (as := [.int (nI r)]) (st := []) hA si_195_18 sv_190 sk_195_209 (mc_np1 X g hr hz) (by omega) rfl (by decide) (by decide) rfl sq_c_190 rfl (Nat.le_of_ble_eq_true rfl) ?_
  refine sr_istore_n (ls1 := [.ref 64, .int (nI r), .int (nI t), .int (-3), .null]) hA si_195_21 rfl (by rw [sq_l_195]; decide) rfl ?_
  refine sr_iload_n hA si_195_22 rfl ?_
  refine sr_if_ge (tgt := 28) hA si_195_23 (by decide) (fun c3 => absurd c3 (sp_m4 (by decide))) (fun c3 => ?_)
  refine sr_iload_n hA si_195_26 rfl ?_
  exact sr_iretF hA si_195_27 sq_r_195 rfl rfl
set_option maxRecDepth 20000 in
theorem mc_digs_r5 (X : sp_X) (g : sp_G) {r : Nat} (hr : r < 6) {t : Nat} (ht : t < 6)  {z : Nat} (hz : g.1 66 r = nI z) (hz12 : 12 < z) (hzb : z ≤ 40) : sp_Ct X 9 195 [.ref 64, .int (nI r), .int (nI t)] g (sp_Fi (-3) (sp_rm6 g 5)) := by
  refine sp_walkN (n := 5) sq_p_195 sq_l_195 (Nat.le_of_ble_eq_true rfl) (fun a hA => ?_)
  show sp_Ev X a 195 0 [.ref 64, .int (nI r), .int (nI t), .null, .null] [] g
  refine sr_iload_n hA si_195_0 rfl ?_
  refine sr_SFi (as := [.int (nI r)]) (st := []) hA si_195_1 ss_140 sk_195_93 (mc_isRow1 X g (by omega)) (by omega) rfl rfl (Nat.le_of_ble_eq_true rfl) ?_
  refine sr_if_eqN (tgt := 14) hA si_195_4 (by decide) (by omega) (fun c1 => absurd c1 (by omega)) (fun c1 => ?_)
  refine sr_iload_n hA si_195_7 rfl ?_
  refine sr_SFi (as := [.int (nI t)]) (st := []) hA si_195_8 ss_140 sk_195_93 (mc_isRow1 X g (by omega)) (by omega) rfl rfl (Nat.le_of_ble_eq_true rfl) ?_
  refine sr_if_neN (tgt := 16) hA si_195_11 (by decide) (by omega) (fun c2 => ?_) (fun c2 => absurd c2 (by omega))
  refine sr_aload_n hA si_195_16 rfl ?_
  refine sr_iload_n hA si_195_17 rfl ?_
  refine sr_VFi (c := 64) (ci := 8) (as := [.int (nI r)]) (st := []) hA si_195_18 sv_190 sk_195_209 (mc_np5 X g hr hz hz12 hzb) (by omega) rfl (by decide) (by decide) rfl sq_c_190 rfl (Nat.le_of_ble_eq_true rfl) ?_
  refine sr_istore_n (ls1 := [.ref 64, .int (nI r), .int (nI t), .int (-3), .null]) hA si_195_21 rfl (by rw [sq_l_195]; decide) rfl ?_
  refine sr_iload_n hA si_195_22 rfl ?_
  refine sr_if_ge (tgt := 28) hA si_195_23 (by decide) (fun c3 => absurd c3 (sp_m4 (by decide))) (fun c3 => ?_)
  refine sr_iload_n hA si_195_26 rfl ?_
  exact sr_iretF hA si_195_27 sq_r_195 rfl rfl
set_option maxRecDepth 20000 in
theorem mc_digs_r3 (X : sp_X) (g : sp_G) {r : Nat} (hr : r < 6) {t : Nat} (ht : t < 6)  {z : Nat} (hz : g.1 66 r = nI z) (hzb : z ≤ 12) {n : Nat} (hn : g.1 64 11 = nI n) (hb : n ≤ 6) {b : Nat} (hbz : b < z) (hks : sp_ks (fun i => g.1 67 (40 * r + i)) n b) (hbk : sp_bk (g.1 67 (40 * r + b)) n) : sp_Ct X 9 195 [.ref 64, .int (nI r), .int (nI t)] g (sp_Fi (-3) (sp_rm6 g 3)) := by
  refine sp_walkN (n := 5) sq_p_195 sq_l_195 (Nat.le_of_ble_eq_true rfl) (fun a hA => ?_)
  show sp_Ev X a 195 0 [.ref 64, .int (nI r), .int (nI t), .null, .null] [] g
  refine sr_iload_n hA si_195_0 rfl ?_
  refine sr_SFi (as := [.int (nI r)]) (st := []) hA si_195_1 ss_140 sk_195_93 (mc_isRow1 X g (by omega)) (by omega) rfl rfl (Nat.le_of_ble_eq_true rfl) ?_
  refine sr_if_eqN (tgt := 14) hA si_195_4 (by decide) (by omega) (fun c1 => absurd c1 (by omega)) (fun c1 => ?_)
  refine sr_iload_n hA si_195_7 rfl ?_
  refine sr_SFi (as := [.int (nI t)]) (st := []) hA si_195_8 ss_140 sk_195_93 (mc_isRow1 X g (by omega)) (by omega) rfl rfl (Nat.le_of_ble_eq_true rfl) ?_
  refine sr_if_neN (tgt := 16) hA si_195_11 (by decide) (by omega) (fun c2 => ?_) (fun c2 => absurd c2 (by omega))
  refine sr_aload_n hA si_195_16 rfl ?_
  refine sr_iload_n hA si_195_17 rfl ?_
  refine sr_VFi (c := 64) (ci := 8) (as := [.int (nI r)]) (st := []) hA si_195_18 sv_190 sk_195_209 (mc_np3 X g hr hz hzb hn hb hbz hks hbk) (by omega) rfl (by decide) (by decide) rfl sq_c_190 rfl (Nat.le_of_ble_eq_true rfl) ?_
  refine sr_istore_n (ls1 := [.ref 64, .int (nI r), .int (nI t), .int (-3), .null]) hA si_195_21 rfl (by rw [sq_l_195]; decide) rfl ?_
  refine sr_iload_n hA si_195_22 rfl ?_
  refine sr_if_ge (tgt := 28) hA si_195_23 (by decide) (fun c3 => absurd c3 (sp_m4 (by decide))) (fun c3 => ?_)
  refine sr_iload_n hA si_195_26 rfl ?_
  exact sr_iretF hA si_195_27 sq_r_195 rfl rfl
theorem sp_apA : sp_ap 43 44 41 42 := ⟨by decide, by decide, by decide, by decide⟩
theorem sp_apB : sp_ap 45 46 43 44 := ⟨by decide, by decide, by decide, by decide⟩
set_option maxRecDepth 20000 in
theorem xc_judge_e (X : sp_X) (g : sp_G) {r : Nat} (hr : r < 6)  {z : Nat} (hz : g.1 9 r = nI z) (hzb : z ≤ 12) {n : Nat} (hn : g.1 18 3 = nI n) (hb : n ≤ 6) (hks : sp_ks (fun i => g.1 (3 + r) i) n z) (hK : sp_kk g 19 n) {A Bq : Nat} (hv : sp_oB n A Bq (sp_sv g 41 42)) (hAb : A < 2 ^ 20) (hBb : Bq < 2 ^ 20) : sp_Ct X 9 72 [.ref 0, .int (nI r)] g (sp_Fi (nI ((sp_pp n (g.1 19) (g.1 20) (g.1 21) (fun i => g.1 (3 + r) i) z (sp_sv g 41 42) 0).1)) (sp_wI (sp_sS g 43 44 (sp_pp n (g.1 19) (g.1 20) (g.1 21) (fun i => g.1 (3 + r) i) z (sp_sv g 41 42) 0).2) 0 12 (((sp_sS g 43 44 (sp_pp n (g.1 19) (g.1 20) (g.1 21) (fun i => g.1 (3 + r) i) z (sp_sv g 41 42) 0).2).1 43 1) - (g.1 41 1)))) := by
  refine sp_walkN (n := 4) sq_p_72 sq_l_72 (Nat.le_of_ble_eq_true rfl) (fun a hA => ?_)
  show sp_Ev X a 72 0 [.ref 0, .int (nI r), .null, .null] [] g
  refine sr_aload_n hA si_72_0 rfl ?_
  refine sr_getR (r := 1) hA si_72_1 sf_72_14 (by decide) (by decide) rfl rfl rfl ?_
  refine sr_iload_n hA si_72_4 rfl ?_
  refine sr_VFi (c := 1) (ci := 5) (as := [.int (nI r)]) (st := []) hA si_72_5 sv_11 sk_72_72 (xc_numR1 X g (by omega)) (by omega) rfl (by decide) (by decide) rfl sq_c_11 rfl (Nat.le_of_ble_eq_true rfl) ?_
  refine sr_if_neN (tgt := 13) hA si_72_8 (by decide) (by omega) (fun c1 => ?_) (fun c1 => absurd c1 (by omega))
  refine sr_aload_n hA si_72_13 rfl ?_
  refine sr_iload_n hA si_72_14 rfl ?_
  refine sr_VFi (c := 0) (ci := 7) (as := [.int (nI r)]) (st := []) hA si_72_15 sv_73 sk_72_223 (xc_pwr0 X g hr hz hzb hn hb hks) (by omega) rfl (by decide) (by decide) rfl sq_c_73 rfl (Nat.le_of_ble_eq_true rfl) ?_
  refine sr_istore_n (ls1 := [.ref 0, .int (nI r), .int (nI 0), .null]) hA si_72_18 rfl (by rw [sq_l_72]; decide) rfl ?_
  refine sr_iload_n hA si_72_19 rfl ?_
  refine sr_if_eqN (tgt := 29) hA si_72_20 (by decide) (by omega) (fun c2 => ?_) (fun c2 => absurd c2 (by omega))
  refine sr_aload_n hA si_72_29 rfl ?_
  refine sr_getR (r := 43) hA si_72_30 sf_72_40 (by decide) (by decide) rfl rfl rfl ?_
  refine sr_aload_n hA si_72_33 rfl ?_
  refine sr_getR (r := 41) hA si_72_34 sf_72_36 (by decide) (by decide) rfl rfl rfl ?_
  refine sr_VFv (c := 43) (ci := 2) (as := [.ref 41]) (st := []) hA si_72_37 sv_39 sk_72_131 (xc_take X g sp_sd43 sp_sd41 (by unfold sp_ap; omega)) (by omega) rfl (by decide) (by decide) rfl sq_c_39 rfl (Nat.le_of_ble_eq_true rfl) ?_
  refine sr_aload_n hA si_72_40 rfl ?_
  refine sr_getR (r := 18) hA si_72_41 sf_72_32 (by decide) (by decide) rfl rfl rfl ?_
  refine sr_aload_n hA si_72_44 rfl ?_
  refine sr_getR (r := 1) hA si_72_45 sf_72_14 (by decide) (by decide) rfl rfl rfl ?_
  refine sr_iload_n hA si_72_48 rfl ?_
  refine sr_aload_n hA si_72_49 rfl ?_
  refine sr_getR (r := 43) hA si_72_50 sf_72_40 (by decide) (by decide) rfl rfl rfl ?_
  refine sr_VFi (c := 18) (ci := 0) (as := [.ref 1, .int (nI r), .ref 43]) (st := []) hA si_72_53 sv_74 sk_72_226 (xc_piece X g (s := 43) (o := 44) (v := (sp_sv g 41 42)) hr hz hzb sp_sd43 hn hb hK hks hv hAb hBb) (by omega) rfl (by decide) (by decide) rfl sq_c_74 rfl (Nat.le_of_ble_eq_true rfl) ?_
  refine sr_istore_n (ls1 := [.ref 0, .int (nI r), .int (nI 0), .int (nI ((sp_pp n (g.1 19) (g.1 20) (g.1 21) (fun i => g.1 (3 + r) i) z (sp_sv g 41 42) 0).1))]) hA si_72_56 rfl (by rw [sq_l_72]; decide) rfl ?_
  refine sr_aload_n hA si_72_57 rfl ?_
  refine sr_aload_n hA si_72_58 rfl ?_
  refine sr_getR (r := 43) hA si_72_59 sf_72_40 (by decide) (by decide) rfl rfl rfl ?_
  refine sr_getIv (v := (sp_sS g 43 44 (sp_pp n (g.1 19) (g.1 20) (g.1 21) (fun i => g.1 (3 + r) i) z (sp_sv g 41 42) 0).2).1 43 1) hA si_72_62 sf_72_172 (by decide) (by decide) rfl (by decide) rfl ?_
  refine sr_aload_n hA si_72_65 rfl ?_
  refine sr_getR (r := 41) hA si_72_66 sf_72_36 (by decide) (by decide) rfl rfl rfl ?_
  refine sr_getIv (v := g.1 41 1) hA si_72_69 sf_72_172 (by decide) (by decide) rfl (by decide) rfl ?_
  refine sr_isub hA si_72_72 ?_
  refine sr_putI hA si_72_73 sf_72_92 rfl rfl (by decide) (by decide) rfl rfl ?_
  refine sr_iload_n hA si_72_76 rfl ?_
  exact sr_iretF hA si_72_77 sq_r_72 rfl rfl
set_option maxRecDepth 20000 in
theorem mc_judge_e (X : sp_X) (g : sp_G) {r : Nat} (hr : r < 6)  {z : Nat} (hz : g.1 66 r = nI z) (hzb : z ≤ 12) {n : Nat} (hn : g.1 64 11 = nI n) (hb : n ≤ 6) (hks : sp_ks (fun i => g.1 67 (40 * r + i)) n z) (hK : sp_kk g 71 n) {A Bq : Nat} (hv : sp_oB n A Bq (sp_pv g 0)) (hAb : A < 2 ^ 20) (hBb : Bq < 2 ^ 20) : sp_Ct X 9 189 [.ref 64, .int (nI r)] g (sp_Fi (nI ((sp_pp n (g.1 71) (g.1 72) (g.1 73) (fun i => g.1 67 (40 * r + i)) z (sp_pv g 0) 0).1)) (sp_wI (sp_sP g 1 (sp_pp n (g.1 71) (g.1 72) (g.1 73) (fun i => g.1 67 (40 * r + i)) z (sp_pv g 0) 0).2) 64 2 (((sp_sP g 1 (sp_pp n (g.1 71) (g.1 72) (g.1 73) (fun i => g.1 67 (40 * r + i)) z (sp_pv g 0) 0).2).1 75 (9 * 1 + 6)) - ((sp_sP g 1 (sp_pp n (g.1 71) (g.1 72) (g.1 73) (fun i => g.1 67 (40 * r + i)) z (sp_pv g 0) 0).2).1 75 (9 * 0 + 6))))) := by
  refine sp_walkN (n := 4) sq_p_189 sq_l_189 (Nat.le_of_ble_eq_true rfl) (fun a hA => ?_)
  show sp_Ev X a 189 0 [.ref 64, .int (nI r), .null, .null] [] g
  refine sr_iload_n hA si_189_0 rfl ?_
  refine sr_SFi (as := [.int (nI r)]) (st := []) hA si_189_1 ss_140 sk_189_93 (mc_isRow1 X g (by omega)) (by omega) rfl rfl (Nat.le_of_ble_eq_true rfl) ?_
  refine sr_if_neN (tgt := 9) hA si_189_4 (by decide) (by omega) (fun c1 => ?_) (fun c1 => absurd c1 (by omega))
  refine sr_aload_n hA si_189_9 rfl ?_
  refine sr_iload_n hA si_189_10 rfl ?_
  refine sr_VFi (c := 64) (ci := 8) (as := [.int (nI r)]) (st := []) hA si_189_11 sv_190 sk_189_209 (mc_np0 X g hr hz hzb hn hb hks) (by omega) rfl (by decide) (by decide) rfl sq_c_190 rfl (Nat.le_of_ble_eq_true rfl) ?_
  refine sr_istore_n (ls1 := [.ref 64, .int (nI r), .int (nI 0), .null]) hA si_189_14 rfl (by rw [sq_l_189]; decide) rfl ?_
  refine sr_iload_n hA si_189_15 rfl ?_
  refine sr_if_geN (tgt := 21) hA si_189_16 (by decide) (by omega) ?_
  refine sr_aload_n hA si_189_21 rfl ?_
  refine sr_iconst (v := nI 0) hA si_189_22 (by decide) ?_
  refine sr_iconst (v := nI 1) hA si_189_23 (by decide) ?_
  refine sr_VFv (c := 64) (ci := 8) (as := [.int (nI 0), .int (nI 1)]) (st := []) hA si_189_24 sv_192 sk_189_212 (mc_copyTo X g (f := 0) (t := 1) (by omega) (by omega) (by omega)) (by omega) rfl (by decide) (by decide) rfl sq_c_192 rfl (Nat.le_of_ble_eq_true rfl) ?_
  refine sr_aload_n hA si_189_27 rfl ?_
  refine sr_iconst (v := nI 1) hA si_189_28 (by decide) ?_
  refine sr_iload_n hA si_189_29 rfl ?_
  refine sr_VFi (c := 64) (ci := 8) (as := [.int (nI 1), .int (nI r)]) (st := []) hA si_189_30 sv_193 sk_189_215 (mc_piece X g (f := 1) (v := (sp_pv g 0)) hr hz hzb (by omega) hn hb hK hks hv hAb hBb) (by omega) rfl (by decide) (by decide) rfl sq_c_193 rfl (Nat.le_of_ble_eq_true rfl) ?_
  refine sr_istore_n (ls1 := [.ref 64, .int (nI r), .int (nI 0), .int (nI ((sp_pp n (g.1 71) (g.1 72) (g.1 73) (fun i => g.1 67 (40 * r + i)) z (sp_pv g 0) 0).1))]) hA si_189_33 rfl (by rw [sq_l_189]; decide) rfl ?_
  refine sr_aload_n hA si_189_34 rfl ?_
  refine sr_aload_n hA si_189_35 rfl ?_
  refine sr_iconst (v := nI 1) hA si_189_36 (by decide) ?_
  refine sr_bipush (v := nI 6) hA si_189_37 (by decide) ?_
  refine sr_VFi (c := 64) (ci := 8) (as := [.int (nI 1), .int (nI 6)]) (st := [.ref 64]) hA si_189_39 sv_164 sk_189_152 (mc_v X (sp_sP g 1 (sp_pp n (g.1 71) (g.1 72) (g.1 73) (fun i => g.1 67 (40 * r + i)) z (sp_pv g 0) 0).2) (f := 1) (i := 6) (by omega)) (by omega) rfl (by decide) (by decide) rfl sq_c_164 rfl (Nat.le_of_ble_eq_true rfl) ?_
  refine sr_aload_n hA si_189_42 rfl ?_
  refine sr_iconst (v := nI 0) hA si_189_43 (by decide) ?_
  refine sr_bipush (v := nI 6) hA si_189_44 (by decide) ?_
  refine sr_VFi (c := 64) (ci := 8) (as := [.int (nI 0), .int (nI 6)]) (st := [.int ((sp_sP g 1 (sp_pp n (g.1 71) (g.1 72) (g.1 73) (fun i => g.1 67 (40 * r + i)) z (sp_pv g 0) 0).2).1 75 (9 * 1 + 6)), .ref 64]) hA si_189_46 sv_164 sk_189_152 (mc_v X (sp_sP g 1 (sp_pp n (g.1 71) (g.1 72) (g.1 73) (fun i => g.1 67 (40 * r + i)) z (sp_pv g 0) 0).2) (f := 0) (i := 6) (by omega)) (by omega) rfl (by decide) (by decide) rfl sq_c_164 rfl (Nat.le_of_ble_eq_true rfl) ?_
  refine sr_isub hA si_189_49 ?_
  refine sr_iload_n hA si_189_50 rfl ?_
  refine sr_VFi (c := 64) (ci := 8) (as := [.int (((sp_sP g 1 (sp_pp n (g.1 71) (g.1 72) (g.1 73) (fun i => g.1 67 (40 * r + i)) z (sp_pv g 0) 0).2).1 75 (9 * 1 + 6)) - ((sp_sP g 1 (sp_pp n (g.1 71) (g.1 72) (g.1 73) (fun i => g.1 67 (40 * r + i)) z (sp_pv g 0) 0).2).1 75 (9 * 0 + 6))), .int (nI ((sp_pp n (g.1 71) (g.1 72) (g.1 73) (fun i => g.1 67 (40 * r + i)) z (sp_pv g 0) 0).1))]) (st := []) hA si_189_51 sv_144 sk_189_105 (mc_tells X (sp_sP g 1 (sp_pp n (g.1 71) (g.1 72) (g.1 73) (fun i => g.1 67 (40 * r + i)) z (sp_pv g 0) 0).2) (((sp_sP g 1 (sp_pp n (g.1 71) (g.1 72) (g.1 73) (fun i => g.1 67 (40 * r + i)) z (sp_pv g 0) 0).2).1 75 (9 * 1 + 6)) - ((sp_sP g 1 (sp_pp n (g.1 71) (g.1 72) (g.1 73) (fun i => g.1 67 (40 * r + i)) z (sp_pv g 0) 0).2).1 75 (9 * 0 + 6))) (nI ((sp_pp n (g.1 71) (g.1 72) (g.1 73) (fun i => g.1 67 (40 * r + i)) z (sp_pv g 0) 0).1))) (by omega) rfl (by decide) (by decide) rfl sq_c_144 rfl (Nat.le_of_ble_eq_true rfl) ?_
  exact sr_iretF hA si_189_54 sq_r_189 rfl rfl
set_option maxRecDepth 20000 in
theorem xc_earns_e (X : sp_X) (g : sp_G) {r : Nat} (hr : r < 6)  {z : Nat} (hz : g.1 9 r = nI z) (hzb : z ≤ 12) {n : Nat} (hn : g.1 18 3 = nI n) (hb : n ≤ 6) (hks : sp_ks (fun i => g.1 (3 + r) i) n z) (hK : sp_kk g 19 n) {A Bq : Nat} (hv : sp_oB n A Bq (sp_sv g 41 42)) (hAb : A < 2 ^ 20) (hBb : Bq < 2 ^ 20) : sp_Ct X 9 75 [.ref 0, .int (nI r)] g (sp_Fi (((sp_sS g 43 44 (sp_pp n (g.1 19) (g.1 20) (g.1 21) (fun i => g.1 (3 + r) i) z (sp_sv g 41 42) 0).2).1 43 3) - (g.1 41 3)) (sp_sS g 43 44 (sp_pp n (g.1 19) (g.1 20) (g.1 21) (fun i => g.1 (3 + r) i) z (sp_sv g 41 42) 0).2)) := by
  refine sp_walkN (n := 3) sq_p_75 sq_l_75 (Nat.le_of_ble_eq_true rfl) (fun a hA => ?_)
  show sp_Ev X a 75 0 [.ref 0, .int (nI r), .null] [] g
  refine sr_aload_n hA si_75_0 rfl ?_
  refine sr_getR (r := 1) hA si_75_1 sf_75_14 (by decide) (by decide) rfl rfl rfl ?_
  refine sr_iload_n hA si_75_4 rfl ?_
  refine sr_VFi (c := 1) (ci := 5) (as := [.int (nI r)]) (st := []) hA si_75_5 sv_11 sk_75_72 (xc_numR1 X g (by omega)) (by omega) rfl (by decide) (by decide) rfl sq_c_11 rfl (Nat.le_of_ble_eq_true rfl) ?_
  refine sr_if_neN (tgt := 13) hA si_75_8 (by decide) (by omega) (fun c1 => ?_) (fun c1 => absurd c1 (by omega))
  refine sr_aload_n hA si_75_13 rfl ?_
  refine sr_iload_n hA si_75_14 rfl ?_
  refine sr_VFi (c := 0) (ci := 7) (as := [.int (nI r)]) (st := []) hA si_75_15 sv_73 sk_75_223 (xc_pwr0 X g hr hz hzb hn hb hks) (by omega) rfl (by decide) (by decide) rfl sq_c_73 rfl (Nat.le_of_ble_eq_true rfl) ?_
  refine sr_istore_n (ls1 := [.ref 0, .int (nI r), .int (nI 0)]) hA si_75_18 rfl (by rw [sq_l_75]; decide) rfl ?_
  refine sr_iload_n hA si_75_19 rfl ?_
  refine sr_if_eqN (tgt := 29) hA si_75_20 (by decide) (by omega) (fun c2 => ?_) (fun c2 => absurd c2 (by omega))
  refine sr_aload_n hA si_75_29 rfl ?_
  refine sr_getR (r := 43) hA si_75_30 sf_75_40 (by decide) (by decide) rfl rfl rfl ?_
  refine sr_aload_n hA si_75_33 rfl ?_
  refine sr_getR (r := 41) hA si_75_34 sf_75_36 (by decide) (by decide) rfl rfl rfl ?_
  refine sr_VFv (c := 43) (ci := 2) (as := [.ref 41]) (st := []) hA si_75_37 sv_39 sk_75_131 (xc_take X g sp_sd43 sp_sd41 (by unfold sp_ap; omega)) (by omega) rfl (by decide) (by decide) rfl sq_c_39 rfl (Nat.le_of_ble_eq_true rfl) ?_
  refine sr_aload_n hA si_75_40 rfl ?_
  refine sr_getR (r := 18) hA si_75_41 sf_75_32 (by decide) (by decide) rfl rfl rfl ?_
  refine sr_aload_n hA si_75_44 rfl ?_
  refine sr_getR (r := 1) hA si_75_45 sf_75_14 (by decide) (by decide) rfl rfl rfl ?_
  refine sr_iload_n hA si_75_48 rfl ?_
  refine sr_aload_n hA si_75_49 rfl ?_
  refine sr_getR (r := 43) hA si_75_50 sf_75_40 (by decide) (by decide) rfl rfl rfl ?_
  refine sr_VFi (c := 18) (ci := 0) (as := [.ref 1, .int (nI r), .ref 43]) (st := []) hA si_75_53 sv_74 sk_75_226 (xc_piece X g (s := 43) (o := 44) (v := (sp_sv g 41 42)) hr hz hzb sp_sd43 hn hb hK hks hv hAb hBb) (by omega) rfl (by decide) (by decide) rfl sq_c_74 rfl (Nat.le_of_ble_eq_true rfl) ?_
  refine sr_pop hA si_75_56 rfl ?_
  refine sr_aload_n hA si_75_57 rfl ?_
  refine sr_getR (r := 43) hA si_75_58 sf_75_40 (by decide) (by decide) rfl rfl rfl ?_
  refine sr_getIv (v := (sp_sS g 43 44 (sp_pp n (g.1 19) (g.1 20) (g.1 21) (fun i => g.1 (3 + r) i) z (sp_sv g 41 42) 0).2).1 43 3) hA si_75_61 sf_75_230 (by decide) (by decide) rfl (by decide) rfl ?_
  refine sr_aload_n hA si_75_64 rfl ?_
  refine sr_getR (r := 41) hA si_75_65 sf_75_36 (by decide) (by decide) rfl rfl rfl ?_
  refine sr_getIv (v := g.1 41 3) hA si_75_68 sf_75_230 (by decide) (by decide) rfl (by decide) rfl ?_
  refine sr_isub hA si_75_71 ?_
  exact sr_iretF hA si_75_72 sq_r_75 rfl rfl
set_option maxRecDepth 20000 in
theorem mc_earns_e (X : sp_X) (g : sp_G) {r : Nat} (hr : r < 6)  {z : Nat} (hz : g.1 66 r = nI z) (hzb : z ≤ 12) {n : Nat} (hn : g.1 64 11 = nI n) (hb : n ≤ 6) (hks : sp_ks (fun i => g.1 67 (40 * r + i)) n z) (hK : sp_kk g 71 n) {A Bq : Nat} (hv : sp_oB n A Bq (sp_pv g 0)) (hAb : A < 2 ^ 20) (hBb : Bq < 2 ^ 20) : sp_Ct X 9 194 [.ref 64, .int (nI r)] g (sp_Fi (((sp_sP g 1 (sp_pp n (g.1 71) (g.1 72) (g.1 73) (fun i => g.1 67 (40 * r + i)) z (sp_pv g 0) 0).2).1 75 (9 * 1 + 8)) - ((sp_sP g 1 (sp_pp n (g.1 71) (g.1 72) (g.1 73) (fun i => g.1 67 (40 * r + i)) z (sp_pv g 0) 0).2).1 75 (9 * 0 + 8))) (sp_sP g 1 (sp_pp n (g.1 71) (g.1 72) (g.1 73) (fun i => g.1 67 (40 * r + i)) z (sp_pv g 0) 0).2)) := by
  refine sp_walkN (n := 3) sq_p_194 sq_l_194 (Nat.le_of_ble_eq_true rfl) (fun a hA => ?_)
  show sp_Ev X a 194 0 [.ref 64, .int (nI r), .null] [] g
  refine sr_iload_n hA si_194_0 rfl ?_
  refine sr_SFi (as := [.int (nI r)]) (st := []) hA si_194_1 ss_140 sk_194_93 (mc_isRow1 X g (by omega)) (by omega) rfl rfl (Nat.le_of_ble_eq_true rfl) ?_
  refine sr_if_neN (tgt := 9) hA si_194_4 (by decide) (by omega) (fun c1 => ?_) (fun c1 => absurd c1 (by omega))
  refine sr_aload_n hA si_194_9 rfl ?_
  refine sr_iload_n hA si_194_10 rfl ?_
  refine sr_VFi (c := 64) (ci := 8) (as := [.int (nI r)]) (st := []) hA si_194_11 sv_190 sk_194_209 (mc_np0 X g hr hz hzb hn hb hks) (by omega) rfl (by decide) (by decide) rfl sq_c_190 rfl (Nat.le_of_ble_eq_true rfl) ?_
  refine sr_istore_n (ls1 := [.ref 64, .int (nI r), .int (nI 0)]) hA si_194_14 rfl (by rw [sq_l_194]; decide) rfl ?_
  refine sr_iload_n hA si_194_15 rfl ?_
  refine sr_if_geN (tgt := 21) hA si_194_16 (by decide) (by omega) ?_
  refine sr_aload_n hA si_194_21 rfl ?_
  refine sr_iconst (v := nI 0) hA si_194_22 (by decide) ?_
  refine sr_iconst (v := nI 1) hA si_194_23 (by decide) ?_
  refine sr_VFv (c := 64) (ci := 8) (as := [.int (nI 0), .int (nI 1)]) (st := []) hA si_194_24 sv_192 sk_194_212 (mc_copyTo X g (f := 0) (t := 1) (by omega) (by omega) (by omega)) (by omega) rfl (by decide) (by decide) rfl sq_c_192 rfl (Nat.le_of_ble_eq_true rfl) ?_
  refine sr_aload_n hA si_194_27 rfl ?_
  refine sr_iconst (v := nI 1) hA si_194_28 (by decide) ?_
  refine sr_iload_n hA si_194_29 rfl ?_
  refine sr_VFi (c := 64) (ci := 8) (as := [.int (nI 1), .int (nI r)]) (st := []) hA si_194_30 sv_193 sk_194_215 (mc_piece X g (f := 1) (v := (sp_pv g 0)) hr hz hzb (by omega) hn hb hK hks hv hAb hBb) (by omega) rfl (by decide) (by decide) rfl sq_c_193 rfl (Nat.le_of_ble_eq_true rfl) ?_
  refine sr_pop hA si_194_33 rfl ?_
  refine sr_aload_n hA si_194_34 rfl ?_
  refine sr_iconst (v := nI 1) hA si_194_35 (by decide) ?_
  refine sr_bipush (v := nI 8) hA si_194_36 (by decide) ?_
  refine sr_VFi (c := 64) (ci := 8) (as := [.int (nI 1), .int (nI 8)]) (st := []) hA si_194_38 sv_164 sk_194_152 (mc_v X (sp_sP g 1 (sp_pp n (g.1 71) (g.1 72) (g.1 73) (fun i => g.1 67 (40 * r + i)) z (sp_pv g 0) 0).2) (f := 1) (i := 8) (by omega)) (by omega) rfl (by decide) (by decide) rfl sq_c_164 rfl (Nat.le_of_ble_eq_true rfl) ?_
  refine sr_aload_n hA si_194_41 rfl ?_
  refine sr_iconst (v := nI 0) hA si_194_42 (by decide) ?_
  refine sr_bipush (v := nI 8) hA si_194_43 (by decide) ?_
  refine sr_VFi (c := 64) (ci := 8) (as := [.int (nI 0), .int (nI 8)]) (st := [.int ((sp_sP g 1 (sp_pp n (g.1 71) (g.1 72) (g.1 73) (fun i => g.1 67 (40 * r + i)) z (sp_pv g 0) 0).2).1 75 (9 * 1 + 8))]) hA si_194_45 sv_164 sk_194_152 (mc_v X (sp_sP g 1 (sp_pp n (g.1 71) (g.1 72) (g.1 73) (fun i => g.1 67 (40 * r + i)) z (sp_pv g 0) 0).2) (f := 0) (i := 8) (by omega)) (by omega) rfl (by decide) (by decide) rfl sq_c_164 rfl (Nat.le_of_ble_eq_true rfl) ?_
  refine sr_isub hA si_194_48 ?_
  exact sr_iretF hA si_194_49 sq_r_194 rfl rfl
