/-! texts as the reader sees them -/
def sp_TX (t z : Nat) (f : Nat → Int32) (g : sp_G) : Prop := t < 4 ∧ z ≤ 60 ∧ g.1 16 t = nI z ∧ ∀ i, i < z → g.1 (12 + t) i = f i
def sp_TM (t z : Nat) (f : Nat → Int32) (g : sp_G) : Prop := t < 4 ∧ z ≤ 60 ∧ g.1 69 t = nI z ∧ ∀ i, i < z → g.1 70 (60 * t + i) = f i
/-- behind the blanks -/
def sp_sb (f : Nat → Int32) : Nat → Nat → Nat
  | 0, p => p
  | m + 1, p => if f p = nI 32 then sp_sb f m (p + 1) else p
def sp_bl0 (f : Nat → Int32) (z p : Nat) : Nat := sp_sb f (z - p) p
theorem sp_sb_in (f : Nat → Int32) : ∀ m p, p ≤ sp_sb f m p ∧ sp_sb f m p ≤ p + m ∧ (sp_sb f m p < p + m → f (sp_sb f m p) ≠ nI 32)
  | 0, p => ⟨Nat.le_refl _, Nat.le_refl _, fun h => absurd h (by show ¬ p < p + 0; omega)⟩
  | m + 1, p => by
    have ih := sp_sb_in f m (p + 1)
    by_cases h : f p = nI 32
    · have e : sp_sb f (m + 1) p = sp_sb f m (p + 1) := if_pos h
      rw [e]
      exact ⟨by omega, by omega, fun q => ih.2.2 (by omega)⟩
    · have e : sp_sb f (m + 1) p = p := if_neg h
      rw [e]
      exact ⟨Nat.le_refl _, by omega, fun _ => h⟩
theorem sp_bl0_in {f : Nat → Int32} {z p : Nat} (h : p ≤ z) : p ≤ sp_bl0 f z p ∧ sp_bl0 f z p ≤ z ∧ (sp_bl0 f z p < z → f (sp_bl0 f z p) ≠ nI 32) := by
  have := sp_sb_in f (z - p) p
  unfold sp_bl0
  exact ⟨this.1, by omega, fun q => this.2.2 (by omega)⟩
/-- a figure -/
def sp_dg1 (x : Int32) (d : Nat) : Prop := d ≤ 9 ∧ x = nI (48 + d)
def sp_dg0 (x : Int32) : Prop := x - nI 48 < 0 ∨ ∃ e, 9 < e ∧ e < 2 ^ 31 ∧ x - nI 48 = nI e
theorem sp_dg_or (x : Int32) : (∃ d, sp_dg1 x d) ∨ sp_dg0 x := by
  rcases sp_cls (x - nI 48) with hx | ⟨e, he, ee⟩
  · exact Or.inr (Or.inl hx)
  · by_cases h9 : e ≤ 9
    · refine Or.inl ⟨e, h9, ?_⟩
      have : x = nI e + nI 48 := by rw [← ee, Int32.sub_add_cancel]
      rw [this, nI_add, Nat.add_comm]
    · exact Or.inr (Or.inr ⟨e, by omega, he, ee⟩)
/-- the letters of the kinds -/
def sp_LT (k : Nat) : Nat := [107, 98, 115, 99, 100, 114].getD k 0
def sp_lt0' (x : Int32) : Prop := ∀ k, k < 6 → x ≠ nI (sp_LT k)
theorem sp_lt_or (x : Int32) : (∃ k, k < 6 ∧ x = nI (sp_LT k)) ∨ sp_lt0' x := by
  by_cases h : ∃ k, k < 6 ∧ x = nI (sp_LT k)
  · exact Or.inl h
  · exact Or.inr (fun k hk e => h ⟨k, hk, e⟩)
set_option maxRecDepth 20000 in
theorem xl_skip {X : sp_X} {ac : sp_Ac} {g : sp_G} {t z : Nat} {f : Nat → Int32} (hT : sp_TX t z f g) {R0 : Nat} (hA : sp_Act X 32 1 (sp_Fi (nI R0) g) ac) : ∀ (m : Nat) (p : Nat), p + m = z → sp_sb f m p = R0 → sp_Ev X ac 32 2 [.ref 10, .int (nI t), .null, .int (nI p)] [] g := by
  intro m
  induction m with
  | zero =>
    intro p h0_ h1_
    obtain ⟨ht, hz, -, -⟩ := id hT
    refine sr_iload_n hA si_32_2 rfl ?_
    refine sr_aload_n hA si_32_3 rfl ?_
    refine sr_iload_n hA si_32_4 rfl ?_
    refine sr_VFi (c := 10) (ci := 5) (as := [.int (nI t)]) (st := [.int (nI p)]) hA si_32_5 sv_26 sk_32_29 (xc_sizeT X g (z := nI z) (by omega) hT.2.2.1) (by omega) rfl (by decide) (by decide) rfl sq_c_26 rfl (Nat.le_of_ble_eq_true rfl) ?_
    refine sr_icmp_geN (tgt := 28) hA si_32_8 (by decide) (by omega) (by omega) (fun c1 => ?_) (fun c1 => absurd c1 (by omega))
    refine sr_iload_n hA si_32_28 rfl ?_
    exact sr_iretF hA si_32_29 sq_r_32 (by rw [← h1_]; rfl) rfl
  | succ m ih =>
    intro p h0_ h1_
    obtain ⟨ht, hz, -, -⟩ := id hT
    by_cases hb : f p = nI 32
    · refine sr_iload_n hA si_32_2 rfl ?_
      refine sr_aload_n hA si_32_3 rfl ?_
      refine sr_iload_n hA si_32_4 rfl ?_
      refine sr_VFi (c := 10) (ci := 5) (as := [.int (nI t)]) (st := [.int (nI p)]) hA si_32_5 sv_26 sk_32_29 (xc_sizeT X g (z := nI z) (by omega) hT.2.2.1) (by omega) rfl (by decide) (by decide) rfl sq_c_26 rfl (Nat.le_of_ble_eq_true rfl) ?_
      refine sr_icmp_geN (tgt := 28) hA si_32_8 (by decide) (by omega) (by omega) (fun c1 => absurd c1 (by omega)) (fun c1 => ?_)
      refine sr_aload_n hA si_32_11 rfl ?_
      refine sr_iload_n hA si_32_12 rfl ?_
      refine sr_iload_n hA si_32_13 rfl ?_
      refine sr_VFi (c := 10) (ci := 5) (as := [.int (nI t), .int (nI p)]) (st := []) hA si_32_14 sv_18 sk_32_45 (xc_getT X g (v := nI 32) (by omega) (by omega) ((hT.2.2.2 p (by omega)).trans hb)) (by omega) rfl (by decide) (by decide) rfl sq_c_18 rfl (Nat.le_of_ble_eq_true rfl) ?_
      refine sr_bipush (v := nI 32) hA si_32_17 (by decide) ?_
      refine sr_icmp_neN (tgt := 28) hA si_32_19 (by decide) (by omega) (by omega) (fun c2 => absurd c2 (by omega)) (fun c2 => ?_)
      refine sr_iincN (x := p) (y := 1) (ls1 := [.ref 10, .int (nI t), .null, .int (nI (p + 1))]) hA si_32_22 rfl rfl (by rw [sq_l_32]; decide) rfl ?_
      refine sr_goto (tgt := 2) hA si_32_25 (by decide) ?_
      exact ih (p + 1) (by omega) (by rw [← h1_]; exact (if_pos hb).symm)
    · refine sr_iload_n hA si_32_2 rfl ?_
      refine sr_aload_n hA si_32_3 rfl ?_
      refine sr_iload_n hA si_32_4 rfl ?_
      refine sr_VFi (c := 10) (ci := 5) (as := [.int (nI t)]) (st := [.int (nI p)]) hA si_32_5 sv_26 sk_32_29 (xc_sizeT X g (z := nI z) (by omega) hT.2.2.1) (by omega) rfl (by decide) (by decide) rfl sq_c_26 rfl (Nat.le_of_ble_eq_true rfl) ?_
      refine sr_icmp_geN (tgt := 28) hA si_32_8 (by decide) (by omega) (by omega) (fun c1 => absurd c1 (by omega)) (fun c1 => ?_)
      refine sr_aload_n hA si_32_11 rfl ?_
      refine sr_iload_n hA si_32_12 rfl ?_
      refine sr_iload_n hA si_32_13 rfl ?_
      refine sr_VFi (c := 10) (ci := 5) (as := [.int (nI t), .int (nI p)]) (st := []) hA si_32_14 sv_18 sk_32_45 (xc_getT X g (v := f p) (by omega) (by omega) (hT.2.2.2 p (by omega))) (by omega) rfl (by decide) (by decide) rfl sq_c_18 rfl (Nat.le_of_ble_eq_true rfl) ?_
      refine sr_bipush (v := nI 32) hA si_32_17 (by decide) ?_
      refine sr_icmp_ne (tgt := 28) hA si_32_19 (by decide) (fun c2 => ?_) (fun c2 => absurd c2 hb)
      refine sr_iload_n hA si_32_28 rfl ?_
      exact sr_iretF hA si_32_29 sq_r_32 (by rw [← h1_]; exact congrArg nI (if_neg hb).symm) rfl
set_option maxRecDepth 20000 in
theorem xc_skip (X : sp_X) (g : sp_G) {t z : Nat} {f : Nat → Int32} (hT : sp_TX t z f g) {p : Nat} (hp : p ≤ z) : sp_Ct X 1 32 [.ref 10, .int (nI t), .int (nI p)] g (sp_Fi (nI (sp_bl0 f z p)) g) := by
  obtain ⟨ht, hz, -, -⟩ := id hT
  refine sp_walkN (n := 4) sq_p_32 sq_l_32 (Nat.le_of_ble_eq_true rfl) (fun ac hA => ?_)
  show sp_Ev X ac 32 0 [.ref 10, .int (nI t), .int (nI p), .null] [] g
  refine sr_iload_n hA si_32_0 rfl ?_
  refine sr_istore_n (ls1 := [.ref 10, .int (nI t), .int (nI p), .int (nI p)]) hA si_32_1 rfl (by rw [sq_l_32]; decide) rfl ?_
  refine sr_fg (ls1 := [.ref 10, .int (nI t), .null, .int (nI p)]) ⟨Or.inr rfl, Or.inr rfl, Or.inl rfl, Or.inr rfl, trivial⟩ ?_
  exact xl_skip hT hA (z - p) p (by omega) rfl
set_option maxRecDepth 20000 in
theorem xc_fig1 (X : sp_X) (g : sp_G) {t z : Nat} {f : Nat → Int32} (hT : sp_TX t z f g) {p d : Nat} (hp : p < z) (hd : sp_dg1 (f p) d) : sp_Ct X 1 33 [.ref 10, .int (nI t), .int (nI p)] g (sp_Fi (nI d) g) := by
  obtain ⟨ht, hz, -, -⟩ := id hT
  have hd9 := hd.1
  refine sp_walkN (n := 4) sq_p_33 sq_l_33 (Nat.le_of_ble_eq_true rfl) (fun a hA => ?_)
  show sp_Ev X a 33 0 [.ref 10, .int (nI t), .int (nI p), .null] [] g
  refine sr_aload_n hA si_33_0 rfl ?_
  refine sr_iload_n hA si_33_1 rfl ?_
  refine sr_iload_n hA si_33_2 rfl ?_
  refine sr_VFi (c := 10) (ci := 5) (as := [.int (nI t), .int (nI p)]) (st := []) hA si_33_3 sv_18 sk_33_45 (xc_getT X g (v := nI (48 + d)) (by omega) (by omega) ((hT.2.2.2 p hp).trans hd.2)) (by omega) rfl (by decide) (by decide) rfl sq_c_18 rfl (Nat.le_of_ble_eq_true rfl) ?_
  refine sr_bipush (v := nI 48) hA si_33_6 (by decide) ?_
  refine sr_isubN hA si_33_8 (by omega) ?_
  refine sr_istore_n (ls1 := [.ref 10, .int (nI t), .int (nI p), .int (nI ((48 + d) - 48))]) hA si_33_9 rfl (by rw [sq_l_33]; decide) rfl ?_
  refine sr_iload_n hA si_33_10 rfl ?_
  refine sr_if_ltN (tgt := 24) hA si_33_11 (by decide) (by omega) ?_
  refine sr_iload_n hA si_33_14 rfl ?_
  refine sr_bipush (v := nI 9) hA si_33_15 (by decide) ?_
  refine sr_icmp_gtN (tgt := 24) hA si_33_17 (by decide) (by omega) (by omega) (fun c2 => absurd c2 (by omega)) (fun c2 => ?_)
  refine sr_iload_n hA si_33_20 rfl ?_
  refine sr_goto (tgt := 25) hA si_33_21 (by decide) ?_
  exact sr_iretF hA si_33_25 sq_r_33 (by rw [show 48 + d - 48 = d by omega]) rfl
set_option maxRecDepth 20000 in
theorem xc_fig0M (X : sp_X) (g : sp_G) {t z : Nat} {f : Nat → Int32} (hT : sp_TX t z f g) {p : Nat} (hp : p < z) (hd : f p - nI 48 < 0) : sp_Ct X 1 33 [.ref 10, .int (nI t), .int (nI p)] g (sp_Fi (-1) g) := by
  obtain ⟨ht, hz, -, -⟩ := id hT
  refine sp_walkN (n := 4) sq_p_33 sq_l_33 (Nat.le_of_ble_eq_true rfl) (fun a hA => ?_)
  show sp_Ev X a 33 0 [.ref 10, .int (nI t), .int (nI p), .null] [] g
  refine sr_aload_n hA si_33_0 rfl ?_
  refine sr_iload_n hA si_33_1 rfl ?_
  refine sr_iload_n hA si_33_2 rfl ?_
  refine sr_VFi (c := 10) (ci := 5) (as := [.int (nI t), .int (nI p)]) (st := []) hA si_33_3 sv_18 sk_33_45 (xc_getT X g (v := f p) (by omega) (by omega) (hT.2.2.2 p hp)) (by omega) rfl (by decide) (by decide) rfl sq_c_18 rfl (Nat.le_of_ble_eq_true rfl) ?_
  refine sr_bipush (v := nI 48) hA si_33_6 (by decide) ?_
  refine sr_isub hA si_33_8 ?_
  refine sr_istore_n (ls1 := [.ref 10, .int (nI t), .int (nI p), .int ((f p) - (nI 48))]) hA si_33_9 rfl (by rw [sq_l_33]; decide) rfl ?_
  refine sr_iload_n hA si_33_10 rfl ?_
  refine sr_if_lt (tgt := 24) hA si_33_11 (by decide) (fun c1 => ?_) (fun c1 => absurd hd c1)
  refine sr_iconst (v := (-1)) hA si_33_24 (by decide) ?_
  exact sr_iretF hA si_33_25 sq_r_33 rfl rfl
set_option maxRecDepth 20000 in
theorem xc_fig0H (X : sp_X) (g : sp_G) {t z : Nat} {f : Nat → Int32} (hT : sp_TX t z f g) {p e : Nat} (hp : p < z) (he : 9 < e) (heb : e < 2 ^ 31) (hd : f p - nI 48 = nI e) : sp_Ct X 1 33 [.ref 10, .int (nI t), .int (nI p)] g (sp_Fi (-1) g) := by
  obtain ⟨ht, hz, -, -⟩ := id hT
  refine sp_walkN (n := 4) sq_p_33 sq_l_33 (Nat.le_of_ble_eq_true rfl) (fun a hA => ?_)
  show sp_Ev X a 33 0 [.ref 10, .int (nI t), .int (nI p), .null] [] g
  refine sr_aload_n hA si_33_0 rfl ?_
  refine sr_iload_n hA si_33_1 rfl ?_
  refine sr_iload_n hA si_33_2 rfl ?_
  refine sr_VFi (c := 10) (ci := 5) (as := [.int (nI t), .int (nI p)]) (st := []) hA si_33_3 sv_18 sk_33_45 (xc_getT X g (v := f p) (by omega) (by omega) (hT.2.2.2 p hp)) (by omega) rfl (by decide) (by decide) rfl sq_c_18 rfl (Nat.le_of_ble_eq_true rfl) ?_
  refine sr_bipush (v := nI 48) hA si_33_6 (by decide) ?_
  refine sr_isub hA si_33_8 ?_
  rw [hd]
  refine sr_istore_n (ls1 := [.ref 10, .int (nI t), .int (nI p), .int (nI e)]) hA si_33_9 rfl (by rw [sq_l_33]; decide) rfl ?_
  refine sr_iload_n hA si_33_10 rfl ?_
  refine sr_if_ltN (tgt := 24) hA si_33_11 (by decide) (by omega) ?_
  refine sr_iload_n hA si_33_14 rfl ?_
  refine sr_bipush (v := nI 9) hA si_33_15 (by decide) ?_
  refine sr_icmp_gtN (tgt := 24) hA si_33_17 (by decide) (by omega) (by omega) (fun c2 => ?_) (fun c2 => absurd c2 (by omega))
  refine sr_iconst (v := (-1)) hA si_33_24 (by decide) ?_
  exact sr_iretF hA si_33_25 sq_r_33 rfl rfl
theorem xc_fig0 (X : sp_X) (g : sp_G) {t z : Nat} {f : Nat → Int32} (hT : sp_TX t z f g) {p : Nat} (hp : p < z) (hd : sp_dg0 (f p)) : sp_Ct X 1 33 [.ref 10, .int (nI t), .int (nI p)] g (sp_Fi (-1) g) := by
  rcases hd with h | ⟨e, e1, e2, e3⟩
  · exact xc_fig0M X g hT hp h
  · exact xc_fig0H X g hT hp e1 e2 e3
set_option maxRecDepth 20000 in
theorem xc_kind0 (X : sp_X) (g : sp_G)  : sp_Ct X 0 36 [.int (nI 107)] g (sp_Fi (nI 0) g) := by
  refine sp_walkN (n := 2) sq_p_36 sq_l_36 (Nat.le_of_ble_eq_true rfl) (fun a hA => ?_)
  show sp_Ev X a 36 0 [.int (nI 107), .null] [] g
  refine sr_iconst (v := nI 0) hA si_36_0 (by decide) ?_
  refine sr_istore_n (ls1 := [.int (nI 107), .int (nI 0)]) hA si_36_1 rfl (by rw [sq_l_36]; decide) rfl ?_
  refine sr_iload_n hA si_36_2 rfl ?_
  refine sr_getsL hA si_36_3 rfl ?_
  refine sr_tlen hA si_36_6 (by decide) ?_
  rw [show (6 : Int32) = nI 6 from rfl]
  refine sr_icmp_geN (tgt := 27) hA si_36_7 (by decide) (by omega) (by omega) (fun c1 => absurd c1 (by omega)) (fun c1 => ?_)
  refine sr_getsL hA si_36_10 rfl ?_
  refine sr_iload_n hA si_36_13 rfl ?_
  refine sr_taldNv (v := nI 107) hA si_36_14 (by decide) (by omega) rfl ?_
  refine sr_iload_n hA si_36_15 rfl ?_
  refine sr_icmp_neN (tgt := 21) hA si_36_16 (by decide) (by omega) (by omega) (fun c2 => absurd c2 (by omega)) (fun c2 => ?_)
  refine sr_iload_n hA si_36_19 rfl ?_
  exact sr_iretF hA si_36_20 sq_r_36 rfl rfl
set_option maxRecDepth 20000 in
theorem xc_kind1 (X : sp_X) (g : sp_G)  : sp_Ct X 0 36 [.int (nI 98)] g (sp_Fi (nI 1) g) := by
  refine sp_walkN (n := 2) sq_p_36 sq_l_36 (Nat.le_of_ble_eq_true rfl) (fun a hA => ?_)
  show sp_Ev X a 36 0 [.int (nI 98), .null] [] g
  refine sr_iconst (v := nI 0) hA si_36_0 (by decide) ?_
  refine sr_istore_n (ls1 := [.int (nI 98), .int (nI 0)]) hA si_36_1 rfl (by rw [sq_l_36]; decide) rfl ?_
  refine sr_iload_n hA si_36_2 rfl ?_
  refine sr_getsL hA si_36_3 rfl ?_
  refine sr_tlen hA si_36_6 (by decide) ?_
  rw [show (6 : Int32) = nI 6 from rfl]
  refine sr_icmp_geN (tgt := 27) hA si_36_7 (by decide) (by omega) (by omega) (fun c1 => absurd c1 (by omega)) (fun c1 => ?_)
  refine sr_getsL hA si_36_10 rfl ?_
  refine sr_iload_n hA si_36_13 rfl ?_
  refine sr_taldNv (v := nI 107) hA si_36_14 (by decide) (by omega) rfl ?_
  refine sr_iload_n hA si_36_15 rfl ?_
  refine sr_icmp_neN (tgt := 21) hA si_36_16 (by decide) (by omega) (by omega) (fun c2 => ?_) (fun c2 => absurd c2 (by omega))
  refine sr_iincN (x := 0) (y := 1) (ls1 := [.int (nI 98), .int (nI 1)]) hA si_36_21 rfl rfl (by rw [sq_l_36]; decide) rfl ?_
  refine sr_goto (tgt := 2) hA si_36_24 (by decide) ?_
  refine sr_iload_n hA si_36_2 rfl ?_
  refine sr_getsL hA si_36_3 rfl ?_
  refine sr_tlen hA si_36_6 (by decide) ?_
  rw [show (6 : Int32) = nI 6 from rfl]
  refine sr_icmp_geN (tgt := 27) hA si_36_7 (by decide) (by omega) (by omega) (fun c3 => absurd c3 (by omega)) (fun c3 => ?_)
  refine sr_getsL hA si_36_10 rfl ?_
  refine sr_iload_n hA si_36_13 rfl ?_
  refine sr_taldNv (v := nI 98) hA si_36_14 (by decide) (by omega) rfl ?_
  refine sr_iload_n hA si_36_15 rfl ?_
  refine sr_icmp_neN (tgt := 21) hA si_36_16 (by decide) (by omega) (by omega) (fun c4 => absurd c4 (by omega)) (fun c4 => ?_)
  refine sr_iload_n hA si_36_19 rfl ?_
  exact sr_iretF hA si_36_20 sq_r_36 rfl rfl
set_option maxRecDepth 20000 in
theorem xc_kind2 (X : sp_X) (g : sp_G)  : sp_Ct X 0 36 [.int (nI 115)] g (sp_Fi (nI 2) g) := by
  refine sp_walkN (n := 2) sq_p_36 sq_l_36 (Nat.le_of_ble_eq_true rfl) (fun a hA => ?_)
  show sp_Ev X a 36 0 [.int (nI 115), .null] [] g
  refine sr_iconst (v := nI 0) hA si_36_0 (by decide) ?_
  refine sr_istore_n (ls1 := [.int (nI 115), .int (nI 0)]) hA si_36_1 rfl (by rw [sq_l_36]; decide) rfl ?_
  refine sr_iload_n hA si_36_2 rfl ?_
  refine sr_getsL hA si_36_3 rfl ?_
  refine sr_tlen hA si_36_6 (by decide) ?_
  rw [show (6 : Int32) = nI 6 from rfl]
  refine sr_icmp_geN (tgt := 27) hA si_36_7 (by decide) (by omega) (by omega) (fun c1 => absurd c1 (by omega)) (fun c1 => ?_)
  refine sr_getsL hA si_36_10 rfl ?_
  refine sr_iload_n hA si_36_13 rfl ?_
  refine sr_taldNv (v := nI 107) hA si_36_14 (by decide) (by omega) rfl ?_
  refine sr_iload_n hA si_36_15 rfl ?_
  refine sr_icmp_neN (tgt := 21) hA si_36_16 (by decide) (by omega) (by omega) (fun c2 => ?_) (fun c2 => absurd c2 (by omega))
  refine sr_iincN (x := 0) (y := 1) (ls1 := [.int (nI 115), .int (nI 1)]) hA si_36_21 rfl rfl (by rw [sq_l_36]; decide) rfl ?_
  refine sr_goto (tgt := 2) hA si_36_24 (by decide) ?_
  refine sr_iload_n hA si_36_2 rfl ?_
  refine sr_getsL hA si_36_3 rfl ?_
  refine sr_tlen hA si_36_6 (by decide) ?_
  rw [show (6 : Int32) = nI 6 from rfl]
  refine sr_icmp_geN (tgt := 27) hA si_36_7 (by decide) (by omega) (by omega) (fun c3 => absurd c3 (by omega)) (fun c3 => ?_)
  refine sr_getsL hA si_36_10 rfl ?_
  refine sr_iload_n hA si_36_13 rfl ?_
  refine sr_taldNv (v := nI 98) hA si_36_14 (by decide) (by omega) rfl ?_
  refine sr_iload_n hA si_36_15 rfl ?_
  refine sr_icmp_neN (tgt := 21) hA si_36_16 (by decide) (by omega) (by omega) (fun c4 => ?_) (fun c4 => absurd c4 (by omega))
  refine sr_iincN (x := 1) (y := 1) (ls1 := [.int (nI 115), .int (nI 2)]) hA si_36_21 rfl rfl (by rw [sq_l_36]; decide) rfl ?_
  refine sr_goto (tgt := 2) hA si_36_24 (by decide) ?_
  refine sr_iload_n hA si_36_2 rfl ?_
  refine sr_getsL hA si_36_3 rfl ?_
  refine sr_tlen hA si_36_6 (by decide) ?_
  rw [show (6 : Int32) = nI 6 from rfl]
  refine sr_icmp_geN (tgt := 27) hA si_36_7 (by decide) (by omega) (by omega) (fun c5 => absurd c5 (by omega)) (fun c5 => ?_)
  refine sr_getsL hA si_36_10 rfl ?_
  refine sr_iload_n hA si_36_13 rfl ?_
  refine sr_taldNv (v := nI 115) hA si_36_14 (by decide) (by omega) rfl ?_
  refine sr_iload_n hA si_36_15 rfl ?_
  refine sr_icmp_neN (tgt := 21) hA si_36_16 (by decide) (by omega) (by omega) (fun c6 => absurd c6 (by omega)) (fun c6 => ?_)
  refine sr_iload_n hA si_36_19 rfl ?_
  exact sr_iretF hA si_36_20 sq_r_36 rfl rfl
set_option maxRecDepth 20000 in
theorem xc_kind3 (X : sp_X) (g : sp_G)  : sp_Ct X 0 36 [.int (nI 99)] g (sp_Fi (nI 3) g) := by
  refine sp_walkN (n := 2) sq_p_36 sq_l_36 (Nat.le_of_ble_eq_true rfl) (fun a hA => ?_)
  show sp_Ev X a 36 0 [.int (nI 99), .null] [] g
  refine sr_iconst (v := nI 0) hA si_36_0 (by decide) ?_
  refine sr_istore_n (ls1 := [.int (nI 99), .int (nI 0)]) hA si_36_1 rfl (by rw [sq_l_36]; decide) rfl ?_
  refine sr_iload_n hA si_36_2 rfl ?_
  refine sr_getsL hA si_36_3 rfl ?_
  refine sr_tlen hA si_36_6 (by decide) ?_
  rw [show (6 : Int32) = nI 6 from rfl]
  refine sr_icmp_geN (tgt := 27) hA si_36_7 (by decide) (by omega) (by omega) (fun c1 => absurd c1 (by omega)) (fun c1 => ?_)
  refine sr_getsL hA si_36_10 rfl ?_
  refine sr_iload_n hA si_36_13 rfl ?_
  refine sr_taldNv (v := nI 107) hA si_36_14 (by decide) (by omega) rfl ?_
  refine sr_iload_n hA si_36_15 rfl ?_
  refine sr_icmp_neN (tgt := 21) hA si_36_16 (by decide) (by omega) (by omega) (fun c2 => ?_) (fun c2 => absurd c2 (by omega))
  refine sr_iincN (x := 0) (y := 1) (ls1 := [.int (nI 99), .int (nI 1)]) hA si_36_21 rfl rfl (by rw [sq_l_36]; decide) rfl ?_
  refine sr_goto (tgt := 2) hA si_36_24 (by decide) ?_
  refine sr_iload_n hA si_36_2 rfl ?_
  refine sr_getsL hA si_36_3 rfl ?_
  refine sr_tlen hA si_36_6 (by decide) ?_
  rw [show (6 : Int32) = nI 6 from rfl]
  refine sr_icmp_geN (tgt := 27) hA si_36_7 (by decide) (by omega) (by omega) (fun c3 => absurd c3 (by omega)) (fun c3 => ?_)
  refine sr_getsL hA si_36_10 rfl ?_
  refine sr_iload_n hA si_36_13 rfl ?_
  refine sr_taldNv (v := nI 98) hA si_36_14 (by decide) (by omega) rfl ?_
  refine sr_iload_n hA si_36_15 rfl ?_
  refine sr_icmp_neN (tgt := 21) hA si_36_16 (by decide) (by omega) (by omega) (fun c4 => ?_) (fun c4 => absurd c4 (by omega))
  refine sr_iincN (x := 1) (y := 1) (ls1 := [.int (nI 99), .int (nI 2)]) hA si_36_21 rfl rfl (by rw [sq_l_36]; decide) rfl ?_
  refine sr_goto (tgt := 2) hA si_36_24 (by decide) ?_
  refine sr_iload_n hA si_36_2 rfl ?_
  refine sr_getsL hA si_36_3 rfl ?_
  refine sr_tlen hA si_36_6 (by decide) ?_
  rw [show (6 : Int32) = nI 6 from rfl]
  refine sr_icmp_geN (tgt := 27) hA si_36_7 (by decide) (by omega) (by omega) (fun c5 => absurd c5 (by omega)) (fun c5 => ?_)
  refine sr_getsL hA si_36_10 rfl ?_
  refine sr_iload_n hA si_36_13 rfl ?_
  refine sr_taldNv (v := nI 115) hA si_36_14 (by decide) (by omega) rfl ?_
  refine sr_iload_n hA si_36_15 rfl ?_
  refine sr_icmp_neN (tgt := 21) hA si_36_16 (by decide) (by omega) (by omega) (fun c6 => ?_) (fun c6 => absurd c6 (by omega))
  refine sr_iincN (x := 2) (y := 1) (ls1 := [.int (nI 99), .int (nI 3)]) hA si_36_21 rfl rfl (by rw [sq_l_36]; decide) rfl ?_
  refine sr_goto (tgt := 2) hA si_36_24 (by decide) ?_
  refine sr_iload_n hA si_36_2 rfl ?_
  refine sr_getsL hA si_36_3 rfl ?_
  refine sr_tlen hA si_36_6 (by decide) ?_
  rw [show (6 : Int32) = nI 6 from rfl]
  refine sr_icmp_geN (tgt := 27) hA si_36_7 (by decide) (by omega) (by omega) (fun c7 => absurd c7 (by omega)) (fun c7 => ?_)
  refine sr_getsL hA si_36_10 rfl ?_
  refine sr_iload_n hA si_36_13 rfl ?_
  refine sr_taldNv (v := nI 99) hA si_36_14 (by decide) (by omega) rfl ?_
  refine sr_iload_n hA si_36_15 rfl ?_
  refine sr_icmp_neN (tgt := 21) hA si_36_16 (by decide) (by omega) (by omega) (fun c8 => absurd c8 (by omega)) (fun c8 => ?_)
  refine sr_iload_n hA si_36_19 rfl ?_
  exact sr_iretF hA si_36_20 sq_r_36 rfl rfl
set_option maxRecDepth 20000 in
theorem xc_kind4 (X : sp_X) (g : sp_G)  : sp_Ct X 0 36 [.int (nI 100)] g (sp_Fi (nI 4) g) := by
  refine sp_walkN (n := 2) sq_p_36 sq_l_36 (Nat.le_of_ble_eq_true rfl) (fun a hA => ?_)
  show sp_Ev X a 36 0 [.int (nI 100), .null] [] g
  refine sr_iconst (v := nI 0) hA si_36_0 (by decide) ?_
  refine sr_istore_n (ls1 := [.int (nI 100), .int (nI 0)]) hA si_36_1 rfl (by rw [sq_l_36]; decide) rfl ?_
  refine sr_iload_n hA si_36_2 rfl ?_
  refine sr_getsL hA si_36_3 rfl ?_
  refine sr_tlen hA si_36_6 (by decide) ?_
  rw [show (6 : Int32) = nI 6 from rfl]
  refine sr_icmp_geN (tgt := 27) hA si_36_7 (by decide) (by omega) (by omega) (fun c1 => absurd c1 (by omega)) (fun c1 => ?_)
  refine sr_getsL hA si_36_10 rfl ?_
  refine sr_iload_n hA si_36_13 rfl ?_
  refine sr_taldNv (v := nI 107) hA si_36_14 (by decide) (by omega) rfl ?_
  refine sr_iload_n hA si_36_15 rfl ?_
  refine sr_icmp_neN (tgt := 21) hA si_36_16 (by decide) (by omega) (by omega) (fun c2 => ?_) (fun c2 => absurd c2 (by omega))
  refine sr_iincN (x := 0) (y := 1) (ls1 := [.int (nI 100), .int (nI 1)]) hA si_36_21 rfl rfl (by rw [sq_l_36]; decide) rfl ?_
  refine sr_goto (tgt := 2) hA si_36_24 (by decide) ?_
  refine sr_iload_n hA si_36_2 rfl ?_
  refine sr_getsL hA si_36_3 rfl ?_
  refine sr_tlen hA si_36_6 (by decide) ?_
  rw [show (6 : Int32) = nI 6 from rfl]
  refine sr_icmp_geN (tgt := 27) hA si_36_7 (by decide) (by omega) (by omega) (fun c3 => absurd c3 (by omega)) (fun c3 => ?_)
  refine sr_getsL hA si_36_10 rfl ?_
  refine sr_iload_n hA si_36_13 rfl ?_
  refine sr_taldNv (v := nI 98) hA si_36_14 (by decide) (by omega) rfl ?_
  refine sr_iload_n hA si_36_15 rfl ?_
  refine sr_icmp_neN (tgt := 21) hA si_36_16 (by decide) (by omega) (by omega) (fun c4 => ?_) (fun c4 => absurd c4 (by omega))
  refine sr_iincN (x := 1) (y := 1) (ls1 := [.int (nI 100), .int (nI 2)]) hA si_36_21 rfl rfl (by rw [sq_l_36]; decide) rfl ?_
  refine sr_goto (tgt := 2) hA si_36_24 (by decide) ?_
  refine sr_iload_n hA si_36_2 rfl ?_
  refine sr_getsL hA si_36_3 rfl ?_
  refine sr_tlen hA si_36_6 (by decide) ?_
  rw [show (6 : Int32) = nI 6 from rfl]
  refine sr_icmp_geN (tgt := 27) hA si_36_7 (by decide) (by omega) (by omega) (fun c5 => absurd c5 (by omega)) (fun c5 => ?_)
  refine sr_getsL hA si_36_10 rfl ?_
  refine sr_iload_n hA si_36_13 rfl ?_
  refine sr_taldNv (v := nI 115) hA si_36_14 (by decide) (by omega) rfl ?_
  refine sr_iload_n hA si_36_15 rfl ?_
  refine sr_icmp_neN (tgt := 21) hA si_36_16 (by decide) (by omega) (by omega) (fun c6 => ?_) (fun c6 => absurd c6 (by omega))
  refine sr_iincN (x := 2) (y := 1) (ls1 := [.int (nI 100), .int (nI 3)]) hA si_36_21 rfl rfl (by rw [sq_l_36]; decide) rfl ?_
  refine sr_goto (tgt := 2) hA si_36_24 (by decide) ?_
  refine sr_iload_n hA si_36_2 rfl ?_
  refine sr_getsL hA si_36_3 rfl ?_
  refine sr_tlen hA si_36_6 (by decide) ?_
  rw [show (6 : Int32) = nI 6 from rfl]
  refine sr_icmp_geN (tgt := 27) hA si_36_7 (by decide) (by omega) (by omega) (fun c7 => absurd c7 (by omega)) (fun c7 => ?_)
  refine sr_getsL hA si_36_10 rfl ?_
  refine sr_iload_n hA si_36_13 rfl ?_
  refine sr_taldNv (v := nI 99) hA si_36_14 (by decide) (by omega) rfl ?_
  refine sr_iload_n hA si_36_15 rfl ?_
  refine sr_icmp_neN (tgt := 21) hA si_36_16 (by decide) (by omega) (by omega) (fun c8 => ?_) (fun c8 => absurd c8 (by omega))
  refine sr_iincN (x := 3) (y := 1) (ls1 := [.int (nI 100), .int (nI 4)]) hA si_36_21 rfl rfl (by rw [sq_l_36]; decide) rfl ?_
  refine sr_goto (tgt := 2) hA si_36_24 (by decide) ?_
  refine sr_iload_n hA si_36_2 rfl ?_
  refine sr_getsL hA si_36_3 rfl ?_
  refine sr_tlen hA si_36_6 (by decide) ?_
  rw [show (6 : Int32) = nI 6 from rfl]
  refine sr_icmp_geN (tgt := 27) hA si_36_7 (by decide) (by omega) (by omega) (fun c9 => absurd c9 (by omega)) (fun c9 => ?_)
  refine sr_getsL hA si_36_10 rfl ?_
  refine sr_iload_n hA si_36_13 rfl ?_
  refine sr_taldNv (v := nI 100) hA si_36_14 (by decide) (by omega) rfl ?_
  refine sr_iload_n hA si_36_15 rfl ?_
  refine sr_icmp_neN (tgt := 21) hA si_36_16 (by decide) (by omega) (by omega) (fun c10 => absurd c10 (by omega)) (fun c10 => ?_)
  refine sr_iload_n hA si_36_19 rfl ?_
  exact sr_iretF hA si_36_20 sq_r_36 rfl rfl
set_option maxRecDepth 20000 in
theorem xc_kind5 (X : sp_X) (g : sp_G)  : sp_Ct X 0 36 [.int (nI 114)] g (sp_Fi (nI 5) g) := by
  refine sp_walkN (n := 2) sq_p_36 sq_l_36 (Nat.le_of_ble_eq_true rfl) (fun a hA => ?_)
  show sp_Ev X a 36 0 [.int (nI 114), .null] [] g
  refine sr_iconst (v := nI 0) hA si_36_0 (by decide) ?_
  refine sr_istore_n (ls1 := [.int (nI 114), .int (nI 0)]) hA si_36_1 rfl (by rw [sq_l_36]; decide) rfl ?_
  refine sr_iload_n hA si_36_2 rfl ?_
  refine sr_getsL hA si_36_3 rfl ?_
  refine sr_tlen hA si_36_6 (by decide) ?_
  rw [show (6 : Int32) = nI 6 from rfl]
  refine sr_icmp_geN (tgt := 27) hA si_36_7 (by decide) (by omega) (by omega) (fun c1 => absurd c1 (by omega)) (fun c1 => ?_)
  refine sr_getsL hA si_36_10 rfl ?_
  refine sr_iload_n hA si_36_13 rfl ?_
  refine sr_taldNv (v := nI 107) hA si_36_14 (by decide) (by omega) rfl ?_
  refine sr_iload_n hA si_36_15 rfl ?_
  refine sr_icmp_neN (tgt := 21) hA si_36_16 (by decide) (by omega) (by omega) (fun c2 => ?_) (fun c2 => absurd c2 (by omega))
  refine sr_iincN (x := 0) (y := 1) (ls1 := [.int (nI 114), .int (nI 1)]) hA si_36_21 rfl rfl (by rw [sq_l_36]; decide) rfl ?_
  refine sr_goto (tgt := 2) hA si_36_24 (by decide) ?_
  refine sr_iload_n hA si_36_2 rfl ?_
  refine sr_getsL hA si_36_3 rfl ?_
  refine sr_tlen hA si_36_6 (by decide) ?_
  rw [show (6 : Int32) = nI 6 from rfl]
  refine sr_icmp_geN (tgt := 27) hA si_36_7 (by decide) (by omega) (by omega) (fun c3 => absurd c3 (by omega)) (fun c3 => ?_)
  refine sr_getsL hA si_36_10 rfl ?_
  refine sr_iload_n hA si_36_13 rfl ?_
  refine sr_taldNv (v := nI 98) hA si_36_14 (by decide) (by omega) rfl ?_
  refine sr_iload_n hA si_36_15 rfl ?_
  refine sr_icmp_neN (tgt := 21) hA si_36_16 (by decide) (by omega) (by omega) (fun c4 => ?_) (fun c4 => absurd c4 (by omega))
  refine sr_iincN (x := 1) (y := 1) (ls1 := [.int (nI 114), .int (nI 2)]) hA si_36_21 rfl rfl (by rw [sq_l_36]; decide) rfl ?_
  refine sr_goto (tgt := 2) hA si_36_24 (by decide) ?_
  refine sr_iload_n hA si_36_2 rfl ?_
  refine sr_getsL hA si_36_3 rfl ?_
  refine sr_tlen hA si_36_6 (by decide) ?_
  rw [show (6 : Int32) = nI 6 from rfl]
  refine sr_icmp_geN (tgt := 27) hA si_36_7 (by decide) (by omega) (by omega) (fun c5 => absurd c5 (by omega)) (fun c5 => ?_)
  refine sr_getsL hA si_36_10 rfl ?_
  refine sr_iload_n hA si_36_13 rfl ?_
  refine sr_taldNv (v := nI 115) hA si_36_14 (by decide) (by omega) rfl ?_
  refine sr_iload_n hA si_36_15 rfl ?_
  refine sr_icmp_neN (tgt := 21) hA si_36_16 (by decide) (by omega) (by omega) (fun c6 => ?_) (fun c6 => absurd c6 (by omega))
  refine sr_iincN (x := 2) (y := 1) (ls1 := [.int (nI 114), .int (nI 3)]) hA si_36_21 rfl rfl (by rw [sq_l_36]; decide) rfl ?_
  refine sr_goto (tgt := 2) hA si_36_24 (by decide) ?_
  refine sr_iload_n hA si_36_2 rfl ?_
  refine sr_getsL hA si_36_3 rfl ?_
  refine sr_tlen hA si_36_6 (by decide) ?_
  rw [show (6 : Int32) = nI 6 from rfl]
  refine sr_icmp_geN (tgt := 27) hA si_36_7 (by decide) (by omega) (by omega) (fun c7 => absurd c7 (by omega)) (fun c7 => ?_)
  refine sr_getsL hA si_36_10 rfl ?_
  refine sr_iload_n hA si_36_13 rfl ?_
  refine sr_taldNv (v := nI 99) hA si_36_14 (by decide) (by omega) rfl ?_
  refine sr_iload_n hA si_36_15 rfl ?_
  refine sr_icmp_neN (tgt := 21) hA si_36_16 (by decide) (by omega) (by omega) (fun c8 => ?_) (fun c8 => absurd c8 (by omega))
  refine sr_iincN (x := 3) (y := 1) (ls1 := [.int (nI 114), .int (nI 4)]) hA si_36_21 rfl rfl (by rw [sq_l_36]; decide) rfl ?_
  refine sr_goto (tgt := 2) hA si_36_24 (by decide) ?_
  refine sr_iload_n hA si_36_2 rfl ?_
  refine sr_getsL hA si_36_3 rfl ?_
  refine sr_tlen hA si_36_6 (by decide) ?_
  rw [show (6 : Int32) = nI 6 from rfl]
  refine sr_icmp_geN (tgt := 27) hA si_36_7 (by decide) (by omega) (by omega) (fun c9 => absurd c9 (by omega)) (fun c9 => ?_)
  refine sr_getsL hA si_36_10 rfl ?_
  refine sr_iload_n hA si_36_13 rfl ?_
  refine sr_taldNv (v := nI 100) hA si_36_14 (by decide) (by omega) rfl ?_
  refine sr_iload_n hA si_36_15 rfl ?_
  refine sr_icmp_neN (tgt := 21) hA si_36_16 (by decide) (by omega) (by omega) (fun c10 => ?_) (fun c10 => absurd c10 (by omega))
  refine sr_iincN (x := 4) (y := 1) (ls1 := [.int (nI 114), .int (nI 5)]) hA si_36_21 rfl rfl (by rw [sq_l_36]; decide) rfl ?_
  refine sr_goto (tgt := 2) hA si_36_24 (by decide) ?_
  refine sr_iload_n hA si_36_2 rfl ?_
  refine sr_getsL hA si_36_3 rfl ?_
  refine sr_tlen hA si_36_6 (by decide) ?_
  rw [show (6 : Int32) = nI 6 from rfl]
  refine sr_icmp_geN (tgt := 27) hA si_36_7 (by decide) (by omega) (by omega) (fun c11 => absurd c11 (by omega)) (fun c11 => ?_)
  refine sr_getsL hA si_36_10 rfl ?_
  refine sr_iload_n hA si_36_13 rfl ?_
  refine sr_taldNv (v := nI 114) hA si_36_14 (by decide) (by omega) rfl ?_
  refine sr_iload_n hA si_36_15 rfl ?_
  refine sr_icmp_neN (tgt := 21) hA si_36_16 (by decide) (by omega) (by omega) (fun c12 => absurd c12 (by omega)) (fun c12 => ?_)
  refine sr_iload_n hA si_36_19 rfl ?_
  exact sr_iretF hA si_36_20 sq_r_36 rfl rfl
set_option maxRecDepth 20000 in
theorem xc_kindN (X : sp_X) (g : sp_G) {x : Int32} (hx : sp_lt0' x) : sp_Ct X 0 36 [.int x] g (sp_Fi (-9) g) := by
  refine sp_walkN (n := 2) sq_p_36 sq_l_36 (Nat.le_of_ble_eq_true rfl) (fun a hA => ?_)
  show sp_Ev X a 36 0 [.int x, .null] [] g
  refine sr_iconst (v := nI 0) hA si_36_0 (by decide) ?_
  refine sr_istore_n (ls1 := [.int x, .int (nI 0)]) hA si_36_1 rfl (by rw [sq_l_36]; decide) rfl ?_
  refine sr_iload_n hA si_36_2 rfl ?_
  refine sr_getsL hA si_36_3 rfl ?_
  refine sr_tlen hA si_36_6 (by decide) ?_
  rw [show (6 : Int32) = nI 6 from rfl]
  refine sr_icmp_geN (tgt := 27) hA si_36_7 (by decide) (by omega) (by omega) (fun c1 => absurd c1 (by omega)) (fun c1 => ?_)
  refine sr_getsL hA si_36_10 rfl ?_
  refine sr_iload_n hA si_36_13 rfl ?_
  refine sr_taldNv (v := nI 107) hA si_36_14 (by decide) (by omega) rfl ?_
  refine sr_iload_n hA si_36_15 rfl ?_
  refine sr_icmp_ne (tgt := 21) hA si_36_16 (by decide) (fun c2 => ?_) (fun c2 => absurd c2 (fun e => hx 0 (by decide) e.symm))
  refine sr_iincN (x := 0) (y := 1) (ls1 := [.int x, .int (nI 1)]) hA si_36_21 rfl rfl (by rw [sq_l_36]; decide) rfl ?_
  refine sr_goto (tgt := 2) hA si_36_24 (by decide) ?_
  refine sr_iload_n hA si_36_2 rfl ?_
  refine sr_getsL hA si_36_3 rfl ?_
  refine sr_tlen hA si_36_6 (by decide) ?_
  rw [show (6 : Int32) = nI 6 from rfl]
  refine sr_icmp_geN (tgt := 27) hA si_36_7 (by decide) (by omega) (by omega) (fun c3 => absurd c3 (by omega)) (fun c3 => ?_)
  refine sr_getsL hA si_36_10 rfl ?_
  refine sr_iload_n hA si_36_13 rfl ?_
  refine sr_taldNv (v := nI 98) hA si_36_14 (by decide) (by omega) rfl ?_
  refine sr_iload_n hA si_36_15 rfl ?_
  refine sr_icmp_ne (tgt := 21) hA si_36_16 (by decide) (fun c4 => ?_) (fun c4 => absurd c4 (fun e => hx 1 (by decide) e.symm))
  refine sr_iincN (x := 1) (y := 1) (ls1 := [.int x, .int (nI 2)]) hA si_36_21 rfl rfl (by rw [sq_l_36]; decide) rfl ?_
  refine sr_goto (tgt := 2) hA si_36_24 (by decide) ?_
  refine sr_iload_n hA si_36_2 rfl ?_
  refine sr_getsL hA si_36_3 rfl ?_
  refine sr_tlen hA si_36_6 (by decide) ?_
  rw [show (6 : Int32) = nI 6 from rfl]
  refine sr_icmp_geN (tgt := 27) hA si_36_7 (by decide) (by omega) (by omega) (fun c5 => absurd c5 (by omega)) (fun c5 => ?_)
  refine sr_getsL hA si_36_10 rfl ?_
  refine sr_iload_n hA si_36_13 rfl ?_
  refine sr_taldNv (v := nI 115) hA si_36_14 (by decide) (by omega) rfl ?_
  refine sr_iload_n hA si_36_15 rfl ?_
  refine sr_icmp_ne (tgt := 21) hA si_36_16 (by decide) (fun c6 => ?_) (fun c6 => absurd c6 (fun e => hx 2 (by decide) e.symm))
  refine sr_iincN (x := 2) (y := 1) (ls1 := [.int x, .int (nI 3)]) hA si_36_21 rfl rfl (by rw [sq_l_36]; decide) rfl ?_
  refine sr_goto (tgt := 2) hA si_36_24 (by decide) ?_
  refine sr_iload_n hA si_36_2 rfl ?_
  refine sr_getsL hA si_36_3 rfl ?_
  refine sr_tlen hA si_36_6 (by decide) ?_
  rw [show (6 : Int32) = nI 6 from rfl]
  refine sr_icmp_geN (tgt := 27) hA si_36_7 (by decide) (by omega) (by omega) (fun c7 => absurd c7 (by omega)) (fun c7 => ?_)
  refine sr_getsL hA si_36_10 rfl ?_
  refine sr_iload_n hA si_36_13 rfl ?_
  refine sr_taldNv (v := nI 99) hA si_36_14 (by decide) (by omega) rfl ?_
  refine sr_iload_n hA si_36_15 rfl ?_
  refine sr_icmp_ne (tgt := 21) hA si_36_16 (by decide) (fun c8 => ?_) (fun c8 => absurd c8 (fun e => hx 3 (by decide) e.symm))
  refine sr_iincN (x := 3) (y := 1) (ls1 := [.int x, .int (nI 4)]) hA si_36_21 rfl rfl (by rw [sq_l_36]; decide) rfl ?_
  refine sr_goto (tgt := 2) hA si_36_24 (by decide) ?_
  refine sr_iload_n hA si_36_2 rfl ?_
  refine sr_getsL hA si_36_3 rfl ?_
  refine sr_tlen hA si_36_6 (by decide) ?_
  rw [show (6 : Int32) = nI 6 from rfl]
  refine sr_icmp_geN (tgt := 27) hA si_36_7 (by decide) (by omega) (by omega) (fun c9 => absurd c9 (by omega)) (fun c9 => ?_)
  refine sr_getsL hA si_36_10 rfl ?_
  refine sr_iload_n hA si_36_13 rfl ?_
  refine sr_taldNv (v := nI 100) hA si_36_14 (by decide) (by omega) rfl ?_
  refine sr_iload_n hA si_36_15 rfl ?_
  refine sr_icmp_ne (tgt := 21) hA si_36_16 (by decide) (fun c10 => ?_) (fun c10 => absurd c10 (fun e => hx 4 (by decide) e.symm))
  refine sr_iincN (x := 4) (y := 1) (ls1 := [.int x, .int (nI 5)]) hA si_36_21 rfl rfl (by rw [sq_l_36]; decide) rfl ?_
  refine sr_goto (tgt := 2) hA si_36_24 (by decide) ?_
  refine sr_iload_n hA si_36_2 rfl ?_
  refine sr_getsL hA si_36_3 rfl ?_
  refine sr_tlen hA si_36_6 (by decide) ?_
  rw [show (6 : Int32) = nI 6 from rfl]
  refine sr_icmp_geN (tgt := 27) hA si_36_7 (by decide) (by omega) (by omega) (fun c11 => absurd c11 (by omega)) (fun c11 => ?_)
  refine sr_getsL hA si_36_10 rfl ?_
  refine sr_iload_n hA si_36_13 rfl ?_
  refine sr_taldNv (v := nI 114) hA si_36_14 (by decide) (by omega) rfl ?_
  refine sr_iload_n hA si_36_15 rfl ?_
  refine sr_icmp_ne (tgt := 21) hA si_36_16 (by decide) (fun c12 => ?_) (fun c12 => absurd c12 (fun e => hx 5 (by decide) e.symm))
  refine sr_iincN (x := 5) (y := 1) (ls1 := [.int x, .int (nI 6)]) hA si_36_21 rfl rfl (by rw [sq_l_36]; decide) rfl ?_
  refine sr_goto (tgt := 2) hA si_36_24 (by decide) ?_
  refine sr_iload_n hA si_36_2 rfl ?_
  refine sr_getsL hA si_36_3 rfl ?_
  refine sr_tlen hA si_36_6 (by decide) ?_
  rw [show (6 : Int32) = nI 6 from rfl]
  refine sr_icmp_geN (tgt := 27) hA si_36_7 (by decide) (by omega) (by omega) (fun c13 => ?_) (fun c13 => absurd c13 (by omega))
  refine sr_bipush (v := (-9)) hA si_36_27 (by decide) ?_
  exact sr_iretF hA si_36_29 sq_r_36 rfl rfl
theorem xc_kindK (X : sp_X) (g : sp_G) {k : Nat} (hk : k < 6) : sp_Ct X 0 36 [.int (nI (sp_LT k))] g (sp_Fi (nI k) g) := by
  have h : k = 0 ∨ k = 1 ∨ k = 2 ∨ k = 3 ∨ k = 4 ∨ k = 5 := by omega
  rcases h with rfl | rfl | rfl | rfl | rfl | rfl
  · exact xc_kind0 X g
  · exact xc_kind1 X g
  · exact xc_kind2 X g
  · exact xc_kind3 X g
  · exact xc_kind4 X g
  · exact xc_kind5 X g
/-- a key stands at p: its kind, strength, two figures of sand, pay -/
def sp_gk (f : Nat → Int32) (z p : Nat) (D : Nat × Nat × Nat × Nat × Nat) : Prop := D.1 < 6 ∧ p + 5 ≤ z ∧ f p = nI (sp_LT D.1) ∧ sp_dg1 (f (p + 1)) D.2.1 ∧ sp_dg1 (f (p + 2)) D.2.2.1 ∧ sp_dg1 (f (p + 3)) D.2.2.2.1 ∧ sp_dg1 (f (p + 4)) D.2.2.2.2
/-- the first j figures behind p are there -/
def sp_fd (f : Nat → Int32) (z p j : Nat) : Prop := ∀ i, 1 ≤ i → i ≤ j → p + i < z ∧ ∃ d, sp_dg1 (f (p + i)) d
/-- no key stands at p: the fault is at e -/
def sp_nk2 (f : Nat → Int32) (z p e : Nat) : Prop := (e = p ∧ sp_lt0' (f p)) ∨ ((∃ k, k < 6 ∧ f p = nI (sp_LT k)) ∧ ∃ j, j < 4 ∧ e = p + (j + 1) ∧ sp_fd f z p j ∧ (z ≤ p + (j + 1) ∨ (p + (j + 1) < z ∧ sp_dg0 (f (p + (j + 1))))))
theorem sp_key_or (f : Nat → Int32) (z p : Nat) : (∃ D, sp_gk f z p D) ∨ ∃ e, sp_nk2 f z p e := by
  rcases sp_lt_or (f p) with ⟨k, hk, ek⟩ | h
  rotate_left
  · exact Or.inr ⟨p, Or.inl ⟨rfl, h⟩⟩
  have key : ∀ j, j ≤ 4 → sp_fd f z p j ∨ ∃ e, sp_nk2 f z p e := fun j => by
    induction j with
    | zero => exact fun _ => Or.inl (fun i h1 h2 => absurd h1 (by omega))
    | succ j ih =>
      intro hj
      rcases ih (by omega) with h | h
      rotate_left
      · exact Or.inr h
      by_cases hz : p + (j + 1) < z
      · rcases sp_dg_or (f (p + (j + 1))) with ⟨d, hd⟩ | hd
        · refine Or.inl (fun i h1 h2 => ?_)
          by_cases e : i = j + 1
          · subst e; exact ⟨hz, d, hd⟩
          · exact h i h1 (by omega)
        · exact Or.inr ⟨_, Or.inr ⟨⟨k, hk, ek⟩, j, by omega, rfl, h, Or.inr ⟨hz, hd⟩⟩⟩
      · exact Or.inr ⟨_, Or.inr ⟨⟨k, hk, ek⟩, j, by omega, rfl, h, Or.inl (by omega)⟩⟩
  rcases key 4 (by omega) with h | h
  rotate_left
  · exact Or.inr h
  obtain ⟨z1, d1, e1⟩ := h 1 (by omega) (by omega)
  obtain ⟨z2, d2, e2⟩ := h 2 (by omega) (by omega)
  obtain ⟨z3, d3, e3⟩ := h 3 (by omega) (by omega)
  obtain ⟨z4, d4, e4⟩ := h 4 (by omega) (by omega)
  exact Or.inl ⟨(k, d1, d2, d3, d4), hk, by show p + 5 ≤ z; omega, ek, e1, e2, e3, e4⟩
set_option maxRecDepth 20000 in
theorem xc_rkG (X : sp_X) (g : sp_G) {t z : Nat} {f : Nat → Int32} (hT : sp_TX t z f g) {p i k s a b y : Nat} (hi : i < 6) (hp : p + 5 ≤ z) (hk : k < 6) (ek : f p = nI (sp_LT k)) (hs : sp_dg1 (f (p + 1)) s) (ha : sp_dg1 (f (p + 1 + 1)) a) (hb : sp_dg1 (f (p + 1 + 1 + 1)) b) (hy : sp_dg1 (f (p + 1 + 1 + 1 + 1)) y) : sp_Ct X 2 35 [.ref 56, .ref 10, .int (nI t), .int (nI p), .int (nI i)] g (sp_Fi (-9) (sp_wI (sp_wI (sp_wI (sp_wI g 58 i (nI k)) 59 i (nI s)) 62 i (nI (10 * a + b))) 60 i (nI y))) := by
  obtain ⟨ht, hz, -, -⟩ := id hT
  have hs9 := hs.1
  have ha9 := ha.1
  have hb9 := hb.1
  have hy9 := hy.1
  refine sp_walkN (n := 9) sq_p_35 sq_l_35 (Nat.le_of_ble_eq_true rfl) (fun ac hA => ?_)
  show sp_Ev X ac 35 0 [.ref 56, .ref 10, .int (nI t), .int (nI p), .int (nI i), .null, .null, .null, .null] [] g
  refine sr_aload_n hA si_35_0 rfl ?_
  refine sr_iload_n hA si_35_1 rfl ?_
  refine sr_iload_n hA si_35_2 rfl ?_
  refine sr_VFi (c := 10) (ci := 5) (as := [.int (nI t), .int (nI p)]) (st := []) hA si_35_3 sv_18 sk_35_45 (xc_getT X g (v := nI (sp_LT k)) (by omega) (by omega) ((hT.2.2.2 p (by omega)).trans ek)) (by omega) rfl (by decide) (by decide) rfl sq_c_18 rfl (Nat.le_of_ble_eq_true rfl) ?_
  refine sr_SFi (as := [.int (nI (sp_LT k))]) (st := []) hA si_35_6 ss_36 sk_35_59 (xc_kindK X g hk) (by omega) rfl rfl (Nat.le_of_ble_eq_true rfl) ?_
  refine sr_istore (ls1 := [.ref 56, .ref 10, .int (nI t), .int (nI p), .int (nI i), .int (nI k), .null, .null, .null]) hA si_35_9 (by rw [sq_l_35]; decide) rfl ?_
  refine sr_iload hA si_35_11 rfl ?_
  refine sr_bipush (v := (-9)) hA si_35_13 (by decide) ?_
  refine sr_icmp_ne (tgt := 20) hA si_35_15 (by decide) (fun c1 => ?_) (fun c1 => absurd c1 (sp_nm9 (by omega)))
  refine sr_iconst (v := nI 0) hA si_35_20 (by decide) ?_
  refine sr_istore (ls1 := [.ref 56, .ref 10, .int (nI t), .int (nI p), .int (nI i), .int (nI k), .int (nI 0), .null, .null]) hA si_35_21 (by rw [sq_l_35]; decide) rfl ?_
  refine sr_iload_n hA si_35_23 rfl ?_
  refine sr_iconst (v := nI 1) hA si_35_24 (by decide) ?_
  refine sr_iaddN hA si_35_25 ?_
  refine sr_istore (ls1 := [.ref 56, .ref 10, .int (nI t), .int (nI p), .int (nI i), .int (nI k), .int (nI 0), .int (nI (p + 1)), .null]) hA si_35_26 (by rw [sq_l_35]; decide) rfl ?_
  refine sr_iload hA si_35_28 rfl ?_
  refine sr_iload_n hA si_35_30 rfl ?_
  refine sr_iconst (v := nI 5) hA si_35_31 (by decide) ?_
  refine sr_iaddN hA si_35_32 ?_
  refine sr_icmp_geN (tgt := 82) hA si_35_33 (by decide) (by omega) (by omega) (fun c2 => absurd c2 (by omega)) (fun c2 => ?_)
  refine sr_iload hA si_35_36 rfl ?_
  refine sr_aload_n hA si_35_38 rfl ?_
  refine sr_iload_n hA si_35_39 rfl ?_
  refine sr_VFi (c := 10) (ci := 5) (as := [.int (nI t)]) (st := [.int (nI (p + 1))]) hA si_35_40 sv_26 sk_35_29 (xc_sizeT X g (z := nI z) (by omega) hT.2.2.1) (by omega) rfl (by decide) (by decide) rfl sq_c_26 rfl (Nat.le_of_ble_eq_true rfl) ?_
  refine sr_icmp_ltN (tgt := 49) hA si_35_43 (by decide) (by omega) (by omega) (fun c3 => ?_) (fun c3 => absurd c3 (by omega))
  refine sr_aload_n hA si_35_49 rfl ?_
  refine sr_iload_n hA si_35_50 rfl ?_
  refine sr_iload hA si_35_51 rfl ?_
  refine sr_SFi (as := [.ref 10, .int (nI t), .int (nI (p + 1))]) (st := []) hA si_35_53 ss_33 sk_35_49 (xc_fig1 X g hT (p := (p + 1)) (d := s) (by omega) hs) (by omega) rfl rfl (Nat.le_of_ble_eq_true rfl) ?_
  refine sr_istore (ls1 := [.ref 56, .ref 10, .int (nI t), .int (nI p), .int (nI i), .int (nI k), .int (nI 0), .int (nI (p + 1)), .int (nI s)]) hA si_35_56 (by rw [sq_l_35]; decide) rfl ?_
  refine sr_iload hA si_35_58 rfl ?_
  refine sr_if_geN (tgt := 66) hA si_35_60 (by decide) (by omega) ?_
  refine sr_iload hA si_35_66 rfl ?_
  refine sr_bipush (v := nI 10) hA si_35_68 (by decide) ?_
  refine sr_imulN hA si_35_70 ?_
  refine sr_iload hA si_35_71 rfl ?_
  refine sr_iaddN hA si_35_73 ?_
  refine sr_istore (ls1 := [.ref 56, .ref 10, .int (nI t), .int (nI p), .int (nI i), .int (nI k), .int (nI ((0 * 10) + s)), .int (nI (p + 1)), .int (nI s)]) hA si_35_74 (by rw [sq_l_35]; decide) rfl ?_
  refine sr_iincN (x := (p + 1)) (y := 1) (ls1 := [.ref 56, .ref 10, .int (nI t), .int (nI p), .int (nI i), .int (nI k), .int (nI ((0 * 10) + s)), .int (nI (p + 1 + 1)), .int (nI s)]) hA si_35_76 rfl rfl (by rw [sq_l_35]; decide) rfl ?_
  refine sr_goto (tgt := 28) hA si_35_79 (by decide) ?_
  refine sr_iload hA si_35_28 rfl ?_
  refine sr_iload_n hA si_35_30 rfl ?_
  refine sr_iconst (v := nI 5) hA si_35_31 (by decide) ?_
  refine sr_iaddN hA si_35_32 ?_
  refine sr_icmp_geN (tgt := 82) hA si_35_33 (by decide) (by omega) (by omega) (fun c5 => absurd c5 (by omega)) (fun c5 => ?_)
  refine sr_iload hA si_35_36 rfl ?_
  refine sr_aload_n hA si_35_38 rfl ?_
  refine sr_iload_n hA si_35_39 rfl ?_
  refine sr_VFi (c := 10) (ci := 5) (as := [.int (nI t)]) (st := [.int (nI (p + 1 + 1))]) hA si_35_40 sv_26 sk_35_29 (xc_sizeT X g (z := nI z) (by omega) hT.2.2.1) (by omega) rfl (by decide) (by decide) rfl sq_c_26 rfl (Nat.le_of_ble_eq_true rfl) ?_
  refine sr_icmp_ltN (tgt := 49) hA si_35_43 (by decide) (by omega) (by omega) (fun c6 => ?_) (fun c6 => absurd c6 (by omega))
  refine sr_aload_n hA si_35_49 rfl ?_
  refine sr_iload_n hA si_35_50 rfl ?_
  refine sr_iload hA si_35_51 rfl ?_
  refine sr_SFi (as := [.ref 10, .int (nI t), .int (nI (p + 1 + 1))]) (st := []) hA si_35_53 ss_33 sk_35_49 (xc_fig1 X g hT (p := (p + 1 + 1)) (d := a) (by omega) ha) (by omega) rfl rfl (Nat.le_of_ble_eq_true rfl) ?_
  refine sr_istore (ls1 := [.ref 56, .ref 10, .int (nI t), .int (nI p), .int (nI i), .int (nI k), .int (nI ((0 * 10) + s)), .int (nI (p + 1 + 1)), .int (nI a)]) hA si_35_56 (by rw [sq_l_35]; decide) rfl ?_
  refine sr_iload hA si_35_58 rfl ?_
  refine sr_if_geN (tgt := 66) hA si_35_60 (by decide) (by omega) ?_
  refine sr_iload hA si_35_66 rfl ?_
  refine sr_bipush (v := nI 10) hA si_35_68 (by decide) ?_
  refine sr_imulN hA si_35_70 ?_
  refine sr_iload hA si_35_71 rfl ?_
  refine sr_iaddN hA si_35_73 ?_
  refine sr_istore (ls1 := [.ref 56, .ref 10, .int (nI t), .int (nI p), .int (nI i), .int (nI k), .int (nI ((((0 * 10) + s) * 10) + a)), .int (nI (p + 1 + 1)), .int (nI a)]) hA si_35_74 (by rw [sq_l_35]; decide) rfl ?_
  refine sr_iincN (x := (p + 1 + 1)) (y := 1) (ls1 := [.ref 56, .ref 10, .int (nI t), .int (nI p), .int (nI i), .int (nI k), .int (nI ((((0 * 10) + s) * 10) + a)), .int (nI (p + 1 + 1 + 1)), .int (nI a)]) hA si_35_76 rfl rfl (by rw [sq_l_35]; decide) rfl ?_
  refine sr_goto (tgt := 28) hA si_35_79 (by decide) ?_
  refine sr_iload hA si_35_28 rfl ?_
  refine sr_iload_n hA si_35_30 rfl ?_
  refine sr_iconst (v := nI 5) hA si_35_31 (by decide) ?_
  refine sr_iaddN hA si_35_32 ?_
  refine sr_icmp_geN (tgt := 82) hA si_35_33 (by decide) (by omega) (by omega) (fun c8 => absurd c8 (by omega)) (fun c8 => ?_)
  refine sr_iload hA si_35_36 rfl ?_
  refine sr_aload_n hA si_35_38 rfl ?_
  refine sr_iload_n hA si_35_39 rfl ?_
  refine sr_VFi (c := 10) (ci := 5) (as := [.int (nI t)]) (st := [.int (nI (p + 1 + 1 + 1))]) hA si_35_40 sv_26 sk_35_29 (xc_sizeT X g (z := nI z) (by omega) hT.2.2.1) (by omega) rfl (by decide) (by decide) rfl sq_c_26 rfl (Nat.le_of_ble_eq_true rfl) ?_
  refine sr_icmp_ltN (tgt := 49) hA si_35_43 (by decide) (by omega) (by omega) (fun c9 => ?_) (fun c9 => absurd c9 (by omega))
  refine sr_aload_n hA si_35_49 rfl ?_
  refine sr_iload_n hA si_35_50 rfl ?_
  refine sr_iload hA si_35_51 rfl ?_
  refine sr_SFi (as := [.ref 10, .int (nI t), .int (nI (p + 1 + 1 + 1))]) (st := []) hA si_35_53 ss_33 sk_35_49 (xc_fig1 X g hT (p := (p + 1 + 1 + 1)) (d := b) (by omega) hb) (by omega) rfl rfl (Nat.le_of_ble_eq_true rfl) ?_
  refine sr_istore (ls1 := [.ref 56, .ref 10, .int (nI t), .int (nI p), .int (nI i), .int (nI k), .int (nI ((((0 * 10) + s) * 10) + a)), .int (nI (p + 1 + 1 + 1)), .int (nI b)]) hA si_35_56 (by rw [sq_l_35]; decide) rfl ?_
  refine sr_iload hA si_35_58 rfl ?_
  refine sr_if_geN (tgt := 66) hA si_35_60 (by decide) (by omega) ?_
  refine sr_iload hA si_35_66 rfl ?_
  refine sr_bipush (v := nI 10) hA si_35_68 (by decide) ?_
  refine sr_imulN hA si_35_70 ?_
  refine sr_iload hA si_35_71 rfl ?_
  refine sr_iaddN hA si_35_73 ?_
  refine sr_istore (ls1 := [.ref 56, .ref 10, .int (nI t), .int (nI p), .int (nI i), .int (nI k), .int (nI ((((((0 * 10) + s) * 10) + a) * 10) + b)), .int (nI (p + 1 + 1 + 1)), .int (nI b)]) hA si_35_74 (by rw [sq_l_35]; decide) rfl ?_
  refine sr_iincN (x := (p + 1 + 1 + 1)) (y := 1) (ls1 := [.ref 56, .ref 10, .int (nI t), .int (nI p), .int (nI i), .int (nI k), .int (nI ((((((0 * 10) + s) * 10) + a) * 10) + b)), .int (nI (p + 1 + 1 + 1 + 1)), .int (nI b)]) hA si_35_76 rfl rfl (by rw [sq_l_35]; decide) rfl ?_
  refine sr_goto (tgt := 28) hA si_35_79 (by decide) ?_
  refine sr_iload hA si_35_28 rfl ?_
  refine sr_iload_n hA si_35_30 rfl ?_
  refine sr_iconst (v := nI 5) hA si_35_31 (by decide) ?_
  refine sr_iaddN hA si_35_32 ?_
  refine sr_icmp_geN (tgt := 82) hA si_35_33 (by decide) (by omega) (by omega) (fun c11 => absurd c11 (by omega)) (fun c11 => ?_)
  refine sr_iload hA si_35_36 rfl ?_
  refine sr_aload_n hA si_35_38 rfl ?_
  refine sr_iload_n hA si_35_39 rfl ?_
  refine sr_VFi (c := 10) (ci := 5) (as := [.int (nI t)]) (st := [.int (nI (p + 1 + 1 + 1 + 1))]) hA si_35_40 sv_26 sk_35_29 (xc_sizeT X g (z := nI z) (by omega) hT.2.2.1) (by omega) rfl (by decide) (by decide) rfl sq_c_26 rfl (Nat.le_of_ble_eq_true rfl) ?_
  refine sr_icmp_ltN (tgt := 49) hA si_35_43 (by decide) (by omega) (by omega) (fun c12 => ?_) (fun c12 => absurd c12 (by omega))
  refine sr_aload_n hA si_35_49 rfl ?_
  refine sr_iload_n hA si_35_50 rfl ?_
  refine sr_iload hA si_35_51 rfl ?_
  refine sr_SFi (as := [.ref 10, .int (nI t), .int (nI (p + 1 + 1 + 1 + 1))]) (st := []) hA si_35_53 ss_33 sk_35_49 (xc_fig1 X g hT (p := (p + 1 + 1 + 1 + 1)) (d := y) (by omega) hy) (by omega) rfl rfl (Nat.le_of_ble_eq_true rfl) ?_
  refine sr_istore (ls1 := [.ref 56, .ref 10, .int (nI t), .int (nI p), .int (nI i), .int (nI k), .int (nI ((((((0 * 10) + s) * 10) + a) * 10) + b)), .int (nI (p + 1 + 1 + 1 + 1)), .int (nI y)]) hA si_35_56 (by rw [sq_l_35]; decide) rfl ?_
  refine sr_iload hA si_35_58 rfl ?_
  refine sr_if_geN (tgt := 66) hA si_35_60 (by decide) (by omega) ?_
  refine sr_iload hA si_35_66 rfl ?_
  refine sr_bipush (v := nI 10) hA si_35_68 (by decide) ?_
  refine sr_imulN hA si_35_70 ?_
  refine sr_iload hA si_35_71 rfl ?_
  refine sr_iaddN hA si_35_73 ?_
  refine sr_istore (ls1 := [.ref 56, .ref 10, .int (nI t), .int (nI p), .int (nI i), .int (nI k), .int (nI ((((((((0 * 10) + s) * 10) + a) * 10) + b) * 10) + y)), .int (nI (p + 1 + 1 + 1 + 1)), .int (nI y)]) hA si_35_74 (by rw [sq_l_35]; decide) rfl ?_
  refine sr_iincN (x := (p + 1 + 1 + 1 + 1)) (y := 1) (ls1 := [.ref 56, .ref 10, .int (nI t), .int (nI p), .int (nI i), .int (nI k), .int (nI ((((((((0 * 10) + s) * 10) + a) * 10) + b) * 10) + y)), .int (nI (p + 1 + 1 + 1 + 1 + 1)), .int (nI y)]) hA si_35_76 rfl rfl (by rw [sq_l_35]; decide) rfl ?_
  refine sr_goto (tgt := 28) hA si_35_79 (by decide) ?_
  refine sr_iload hA si_35_28 rfl ?_
  refine sr_iload_n hA si_35_30 rfl ?_
  refine sr_iconst (v := nI 5) hA si_35_31 (by decide) ?_
  refine sr_iaddN hA si_35_32 ?_
  refine sr_icmp_geN (tgt := 82) hA si_35_33 (by decide) (by omega) (by omega) (fun c14 => ?_) (fun c14 => absurd c14 (by omega))
  refine sr_aload_n hA si_35_82 rfl ?_
  refine sr_getR (r := 57) hA si_35_83 sf_35_12 (by decide) (by decide) rfl rfl rfl ?_
  refine sr_getR (r := 58) hA si_35_86 sf_35_62 (by decide) (by decide) rfl rfl rfl ?_
  refine sr_iload hA si_35_89 rfl ?_
  refine sr_iload hA si_35_91 rfl ?_
  refine sr_iastN (n := 6) hA si_35_93 (by decide) rfl rfl (by omega) (by decide) ?_
  refine sr_aload_n hA si_35_94 rfl ?_
  refine sr_getR (r := 57) hA si_35_95 sf_35_12 (by decide) (by decide) rfl rfl rfl ?_
  refine sr_getR (r := 59) hA si_35_98 sf_35_66 (by decide) (by decide) rfl rfl rfl ?_
  refine sr_iload hA si_35_101 rfl ?_
  refine sr_iload hA si_35_103 rfl ?_
  refine sr_sipush (v := nI 1000) hA si_35_105 (by decide) ?_
  refine sr_idivN hA si_35_108 (by omega) (by omega) (by omega) ?_
  rw [show ((((((((0 * 10) + s) * 10) + a) * 10) + b) * 10) + y) / 1000 = s by omega]
  refine sr_iastN (n := 6) hA si_35_109 (by decide) rfl rfl (by omega) (by decide) ?_
  refine sr_aload_n hA si_35_110 rfl ?_
  refine sr_getR (r := 61) hA si_35_111 sf_35_21 (by decide) (by decide) rfl rfl rfl ?_
  refine sr_getR (r := 62) hA si_35_114 sf_35_69 (by decide) (by decide) rfl rfl rfl ?_
  refine sr_iload hA si_35_117 rfl ?_
  refine sr_iload hA si_35_119 rfl ?_
  refine sr_bipush (v := nI 10) hA si_35_121 (by decide) ?_
  refine sr_idivN hA si_35_123 (by omega) (by omega) (by omega) ?_
  refine sr_bipush (v := nI 100) hA si_35_124 (by decide) ?_
  refine sr_iremN hA si_35_126 (by omega) (by omega) (by omega) ?_
  rw [show (((((((((0 * 10) + s) * 10) + a) * 10) + b) * 10) + y) / 10) % 100 = 10 * a + b by omega]
  refine sr_iastN (n := 6) hA si_35_127 (by decide) rfl rfl (by omega) (by decide) ?_
  refine sr_aload_n hA si_35_128 rfl ?_
  refine sr_getR (r := 57) hA si_35_129 sf_35_12 (by decide) (by decide) rfl rfl rfl ?_
  refine sr_getR (r := 60) hA si_35_132 sf_35_72 (by decide) (by decide) rfl rfl rfl ?_
  refine sr_iload hA si_35_135 rfl ?_
  refine sr_iload hA si_35_137 rfl ?_
  refine sr_bipush (v := nI 10) hA si_35_139 (by decide) ?_
  refine sr_iremN hA si_35_141 (by omega) (by omega) (by omega) ?_
  rw [show ((((((((0 * 10) + s) * 10) + a) * 10) + b) * 10) + y) % 10 = y by omega]
  refine sr_iastN (n := 6) hA si_35_142 (by decide) rfl rfl (by omega) (by decide) ?_
  refine sr_bipush (v := (-9)) hA si_35_143 (by decide) ?_
  exact sr_iretF hA si_35_145 sq_r_35 rfl rfl
set_option maxRecDepth 20000 in
theorem xc_rk0 (X : sp_X) (g : sp_G) {t z : Nat} {f : Nat → Int32} (hT : sp_TX t z f g) {p i : Nat} (hi : i < 6) (hp : p < z) (hlt : sp_lt0' (f p)) : sp_Ct X 2 35 [.ref 56, .ref 10, .int (nI t), .int (nI p), .int (nI i)] g (sp_Fi (nI p) g) := by
  obtain ⟨ht, hz, -, -⟩ := id hT
  refine sp_walkN (n := 9) sq_p_35 sq_l_35 (Nat.le_of_ble_eq_true rfl) (fun a hA => ?_)
  show sp_Ev X a 35 0 [.ref 56, .ref 10, .int (nI t), .int (nI p), .int (nI i), .null, .null, .null, .null] [] g
  refine sr_aload_n hA si_35_0 rfl ?_
  refine sr_iload_n hA si_35_1 rfl ?_
  refine sr_iload_n hA si_35_2 rfl ?_
  refine sr_VFi (c := 10) (ci := 5) (as := [.int (nI t), .int (nI p)]) (st := []) hA si_35_3 sv_18 sk_35_45 (xc_getT X g (v := f p) (by omega) (by omega) (hT.2.2.2 p hp)) (by omega) rfl (by decide) (by decide) rfl sq_c_18 rfl (Nat.le_of_ble_eq_true rfl) ?_
  refine sr_SFi (as := [.int (f p)]) (st := []) hA si_35_6 ss_36 sk_35_59 (xc_kindN X g hlt) (by omega) rfl rfl (Nat.le_of_ble_eq_true rfl) ?_
  refine sr_istore (ls1 := [.ref 56, .ref 10, .int (nI t), .int (nI p), .int (nI i), .int (-9), .null, .null, .null]) hA si_35_9 (by rw [sq_l_35]; decide) rfl ?_
  refine sr_iload hA si_35_11 rfl ?_
  refine sr_bipush (v := (-9)) hA si_35_13 (by decide) ?_
  refine sr_icmp_ne (tgt := 20) hA si_35_15 (by decide) (fun c1 => absurd rfl c1) (fun c1 => ?_)
  refine sr_iload_n hA si_35_18 rfl ?_
  exact sr_iretF hA si_35_19 sq_r_35 rfl rfl
set_option maxRecDepth 20000 in
theorem xc_rk1E (X : sp_X) (g : sp_G) {t z : Nat} {f : Nat → Int32} (hT : sp_TX t z f g) {p i k : Nat} (hi : i < 6) (hk : k < 6) (ek : f p = nI (sp_LT k))  (hz1 : p < z) (hz2 : z = p + 1) : sp_Ct X 2 35 [.ref 56, .ref 10, .int (nI t), .int (nI p), .int (nI i)] g (sp_Fi (nI (p + 1)) g) := by
  obtain ⟨ht, hz, -, -⟩ := id hT
  refine sp_walkN (n := 9) sq_p_35 sq_l_35 (Nat.le_of_ble_eq_true rfl) (fun ac hA => ?_)
  show sp_Ev X ac 35 0 [.ref 56, .ref 10, .int (nI t), .int (nI p), .int (nI i), .null, .null, .null, .null] [] g
  refine sr_aload_n hA si_35_0 rfl ?_
  refine sr_iload_n hA si_35_1 rfl ?_
  refine sr_iload_n hA si_35_2 rfl ?_
  refine sr_VFi (c := 10) (ci := 5) (as := [.int (nI t), .int (nI p)]) (st := []) hA si_35_3 sv_18 sk_35_45 (xc_getT X g (v := nI (sp_LT k)) (by omega) (by omega) ((hT.2.2.2 p (by omega)).trans ek)) (by omega) rfl (by decide) (by decide) rfl sq_c_18 rfl (Nat.le_of_ble_eq_true rfl) ?_
  refine sr_SFi (as := [.int (nI (sp_LT k))]) (st := []) hA si_35_6 ss_36 sk_35_59 (xc_kindK X g hk) (by omega) rfl rfl (Nat.le_of_ble_eq_true rfl) ?_
  refine sr_istore (ls1 := [.ref 56, .ref 10, .int (nI t), .int (nI p), .int (nI i), .int (nI k), .null, .null, .null]) hA si_35_9 (by rw [sq_l_35]; decide) rfl ?_
  refine sr_iload hA si_35_11 rfl ?_
  refine sr_bipush (v := (-9)) hA si_35_13 (by decide) ?_
  refine sr_icmp_ne (tgt := 20) hA si_35_15 (by decide) (fun c1 => ?_) (fun c1 => absurd c1 (sp_nm9 (by omega)))
  refine sr_iconst (v := nI 0) hA si_35_20 (by decide) ?_
  refine sr_istore (ls1 := [.ref 56, .ref 10, .int (nI t), .int (nI p), .int (nI i), .int (nI k), .int (nI 0), .null, .null]) hA si_35_21 (by rw [sq_l_35]; decide) rfl ?_
  refine sr_iload_n hA si_35_23 rfl ?_
  refine sr_iconst (v := nI 1) hA si_35_24 (by decide) ?_
  refine sr_iaddN hA si_35_25 ?_
  refine sr_istore (ls1 := [.ref 56, .ref 10, .int (nI t), .int (nI p), .int (nI i), .int (nI k), .int (nI 0), .int (nI (p + 1)), .null]) hA si_35_26 (by rw [sq_l_35]; decide) rfl ?_
  refine sr_iload hA si_35_28 rfl ?_
  refine sr_iload_n hA si_35_30 rfl ?_
  refine sr_iconst (v := nI 5) hA si_35_31 (by decide) ?_
  refine sr_iaddN hA si_35_32 ?_
  refine sr_icmp_geN (tgt := 82) hA si_35_33 (by decide) (by omega) (by omega) (fun c2 => absurd c2 (by omega)) (fun c2 => ?_)
  refine sr_iload hA si_35_36 rfl ?_
  refine sr_aload_n hA si_35_38 rfl ?_
  refine sr_iload_n hA si_35_39 rfl ?_
  refine sr_VFi (c := 10) (ci := 5) (as := [.int (nI t)]) (st := [.int (nI (p + 1))]) hA si_35_40 sv_26 sk_35_29 (xc_sizeT X g (z := nI z) (by omega) hT.2.2.1) (by omega) rfl (by decide) (by decide) rfl sq_c_26 rfl (Nat.le_of_ble_eq_true rfl) ?_
  refine sr_icmp_ltN (tgt := 49) hA si_35_43 (by decide) (by omega) (by omega) (fun c3 => absurd c3 (by omega)) (fun c3 => ?_)
  refine sr_iload hA si_35_46 rfl ?_
  exact sr_iretF hA si_35_48 sq_r_35 rfl rfl
set_option maxRecDepth 20000 in
theorem xc_rk1F (X : sp_X) (g : sp_G) {t z : Nat} {f : Nat → Int32} (hT : sp_TX t z f g) {p i k : Nat} (hi : i < 6) (hk : k < 6) (ek : f p = nI (sp_LT k))  (hz2 : p + 1 < z) (hbad : sp_dg0 (f (p + 1))) : sp_Ct X 2 35 [.ref 56, .ref 10, .int (nI t), .int (nI p), .int (nI i)] g (sp_Fi (nI (p + 1)) g) := by
  obtain ⟨ht, hz, -, -⟩ := id hT
  refine sp_walkN (n := 9) sq_p_35 sq_l_35 (Nat.le_of_ble_eq_true rfl) (fun ac hA => ?_)
  show sp_Ev X ac 35 0 [.ref 56, .ref 10, .int (nI t), .int (nI p), .int (nI i), .null, .null, .null, .null] [] g
  refine sr_aload_n hA si_35_0 rfl ?_
  refine sr_iload_n hA si_35_1 rfl ?_
  refine sr_iload_n hA si_35_2 rfl ?_
  refine sr_VFi (c := 10) (ci := 5) (as := [.int (nI t), .int (nI p)]) (st := []) hA si_35_3 sv_18 sk_35_45 (xc_getT X g (v := nI (sp_LT k)) (by omega) (by omega) ((hT.2.2.2 p (by omega)).trans ek)) (by omega) rfl (by decide) (by decide) rfl sq_c_18 rfl (Nat.le_of_ble_eq_true rfl) ?_
  refine sr_SFi (as := [.int (nI (sp_LT k))]) (st := []) hA si_35_6 ss_36 sk_35_59 (xc_kindK X g hk) (by omega) rfl rfl (Nat.le_of_ble_eq_true rfl) ?_
  refine sr_istore (ls1 := [.ref 56, .ref 10, .int (nI t), .int (nI p), .int (nI i), .int (nI k), .null, .null, .null]) hA si_35_9 (by rw [sq_l_35]; decide) rfl ?_
  refine sr_iload hA si_35_11 rfl ?_
  refine sr_bipush (v := (-9)) hA si_35_13 (by decide) ?_
  refine sr_icmp_ne (tgt := 20) hA si_35_15 (by decide) (fun c1 => ?_) (fun c1 => absurd c1 (sp_nm9 (by omega)))
  refine sr_iconst (v := nI 0) hA si_35_20 (by decide) ?_
  refine sr_istore (ls1 := [.ref 56, .ref 10, .int (nI t), .int (nI p), .int (nI i), .int (nI k), .int (nI 0), .null, .null]) hA si_35_21 (by rw [sq_l_35]; decide) rfl ?_
  refine sr_iload_n hA si_35_23 rfl ?_
  refine sr_iconst (v := nI 1) hA si_35_24 (by decide) ?_
  refine sr_iaddN hA si_35_25 ?_
  refine sr_istore (ls1 := [.ref 56, .ref 10, .int (nI t), .int (nI p), .int (nI i), .int (nI k), .int (nI 0), .int (nI (p + 1)), .null]) hA si_35_26 (by rw [sq_l_35]; decide) rfl ?_
  refine sr_iload hA si_35_28 rfl ?_
  refine sr_iload_n hA si_35_30 rfl ?_
  refine sr_iconst (v := nI 5) hA si_35_31 (by decide) ?_
  refine sr_iaddN hA si_35_32 ?_
  refine sr_icmp_geN (tgt := 82) hA si_35_33 (by decide) (by omega) (by omega) (fun c2 => absurd c2 (by omega)) (fun c2 => ?_)
  refine sr_iload hA si_35_36 rfl ?_
  refine sr_aload_n hA si_35_38 rfl ?_
  refine sr_iload_n hA si_35_39 rfl ?_
  refine sr_VFi (c := 10) (ci := 5) (as := [.int (nI t)]) (st := [.int (nI (p + 1))]) hA si_35_40 sv_26 sk_35_29 (xc_sizeT X g (z := nI z) (by omega) hT.2.2.1) (by omega) rfl (by decide) (by decide) rfl sq_c_26 rfl (Nat.le_of_ble_eq_true rfl) ?_
  refine sr_icmp_ltN (tgt := 49) hA si_35_43 (by decide) (by omega) (by omega) (fun c3 => ?_) (fun c3 => absurd c3 (by omega))
  refine sr_aload_n hA si_35_49 rfl ?_
  refine sr_iload_n hA si_35_50 rfl ?_
  refine sr_iload hA si_35_51 rfl ?_
  refine sr_SFi (as := [.ref 10, .int (nI t), .int (nI (p + 1))]) (st := []) hA si_35_53 ss_33 sk_35_49 (xc_fig0 X g hT (p := (p + 1)) (by omega) hbad) (by omega) rfl rfl (Nat.le_of_ble_eq_true rfl) ?_
  refine sr_istore (ls1 := [.ref 56, .ref 10, .int (nI t), .int (nI p), .int (nI i), .int (nI k), .int (nI 0), .int (nI (p + 1)), .int (-1)]) hA si_35_56 (by rw [sq_l_35]; decide) rfl ?_
  refine sr_iload hA si_35_58 rfl ?_
  refine sr_if_ge (tgt := 66) hA si_35_60 (by decide) (fun c4 => absurd c4 (sp_m4 (by decide))) (fun c4 => ?_)
  refine sr_iload hA si_35_63 rfl ?_
  exact sr_iretF hA si_35_65 sq_r_35 rfl rfl
set_option maxRecDepth 20000 in
theorem xc_rk2E (X : sp_X) (g : sp_G) {t z : Nat} {f : Nat → Int32} (hT : sp_TX t z f g) {p i k : Nat} (hi : i < 6) (hk : k < 6) (ek : f p = nI (sp_LT k)) {s : Nat} (hs : sp_dg1 (f (p + 1)) s) (hz1 : p < z) (hz2 : z = p + 2) : sp_Ct X 2 35 [.ref 56, .ref 10, .int (nI t), .int (nI p), .int (nI i)] g (sp_Fi (nI (p + 1 + 1)) g) := by
  obtain ⟨ht, hz, -, -⟩ := id hT
  have hs9 := hs.1
  refine sp_walkN (n := 9) sq_p_35 sq_l_35 (Nat.le_of_ble_eq_true rfl) (fun ac hA => ?_)
  show sp_Ev X ac 35 0 [.ref 56, .ref 10, .int (nI t), .int (nI p), .int (nI i), .null, .null, .null, .null] [] g
  refine sr_aload_n hA si_35_0 rfl ?_
  refine sr_iload_n hA si_35_1 rfl ?_
  refine sr_iload_n hA si_35_2 rfl ?_
  refine sr_VFi (c := 10) (ci := 5) (as := [.int (nI t), .int (nI p)]) (st := []) hA si_35_3 sv_18 sk_35_45 (xc_getT X g (v := nI (sp_LT k)) (by omega) (by omega) ((hT.2.2.2 p (by omega)).trans ek)) (by omega) rfl (by decide) (by decide) rfl sq_c_18 rfl (Nat.le_of_ble_eq_true rfl) ?_
  refine sr_SFi (as := [.int (nI (sp_LT k))]) (st := []) hA si_35_6 ss_36 sk_35_59 (xc_kindK X g hk) (by omega) rfl rfl (Nat.le_of_ble_eq_true rfl) ?_
  refine sr_istore (ls1 := [.ref 56, .ref 10, .int (nI t), .int (nI p), .int (nI i), .int (nI k), .null, .null, .null]) hA si_35_9 (by rw [sq_l_35]; decide) rfl ?_
  refine sr_iload hA si_35_11 rfl ?_
  refine sr_bipush (v := (-9)) hA si_35_13 (by decide) ?_
  refine sr_icmp_ne (tgt := 20) hA si_35_15 (by decide) (fun c1 => ?_) (fun c1 => absurd c1 (sp_nm9 (by omega)))
  refine sr_iconst (v := nI 0) hA si_35_20 (by decide) ?_
  refine sr_istore (ls1 := [.ref 56, .ref 10, .int (nI t), .int (nI p), .int (nI i), .int (nI k), .int (nI 0), .null, .null]) hA si_35_21 (by rw [sq_l_35]; decide) rfl ?_
  refine sr_iload_n hA si_35_23 rfl ?_
  refine sr_iconst (v := nI 1) hA si_35_24 (by decide) ?_
  refine sr_iaddN hA si_35_25 ?_
  refine sr_istore (ls1 := [.ref 56, .ref 10, .int (nI t), .int (nI p), .int (nI i), .int (nI k), .int (nI 0), .int (nI (p + 1)), .null]) hA si_35_26 (by rw [sq_l_35]; decide) rfl ?_
  refine sr_iload hA si_35_28 rfl ?_
  refine sr_iload_n hA si_35_30 rfl ?_
  refine sr_iconst (v := nI 5) hA si_35_31 (by decide) ?_
  refine sr_iaddN hA si_35_32 ?_
  refine sr_icmp_geN (tgt := 82) hA si_35_33 (by decide) (by omega) (by omega) (fun c2 => absurd c2 (by omega)) (fun c2 => ?_)
  refine sr_iload hA si_35_36 rfl ?_
  refine sr_aload_n hA si_35_38 rfl ?_
  refine sr_iload_n hA si_35_39 rfl ?_
  refine sr_VFi (c := 10) (ci := 5) (as := [.int (nI t)]) (st := [.int (nI (p + 1))]) hA si_35_40 sv_26 sk_35_29 (xc_sizeT X g (z := nI z) (by omega) hT.2.2.1) (by omega) rfl (by decide) (by decide) rfl sq_c_26 rfl (Nat.le_of_ble_eq_true rfl) ?_
  refine sr_icmp_ltN (tgt := 49) hA si_35_43 (by decide) (by omega) (by omega) (fun c3 => ?_) (fun c3 => absurd c3 (by omega))
  refine sr_aload_n hA si_35_49 rfl ?_
  refine sr_iload_n hA si_35_50 rfl ?_
  refine sr_iload hA si_35_51 rfl ?_
  refine sr_SFi (as := [.ref 10, .int (nI t), .int (nI (p + 1))]) (st := []) hA si_35_53 ss_33 sk_35_49 (xc_fig1 X g hT (p := (p + 1)) (d := s) (by omega) hs) (by omega) rfl rfl (Nat.le_of_ble_eq_true rfl) ?_
  refine sr_istore (ls1 := [.ref 56, .ref 10, .int (nI t), .int (nI p), .int (nI i), .int (nI k), .int (nI 0), .int (nI (p + 1)), .int (nI s)]) hA si_35_56 (by rw [sq_l_35]; decide) rfl ?_
  refine sr_iload hA si_35_58 rfl ?_
  refine sr_if_geN (tgt := 66) hA si_35_60 (by decide) (by omega) ?_
  refine sr_iload hA si_35_66 rfl ?_
  refine sr_bipush (v := nI 10) hA si_35_68 (by decide) ?_
  refine sr_imulN hA si_35_70 ?_
  refine sr_iload hA si_35_71 rfl ?_
  refine sr_iaddN hA si_35_73 ?_
  refine sr_istore (ls1 := [.ref 56, .ref 10, .int (nI t), .int (nI p), .int (nI i), .int (nI k), .int (nI ((0 * 10) + s)), .int (nI (p + 1)), .int (nI s)]) hA si_35_74 (by rw [sq_l_35]; decide) rfl ?_
  refine sr_iincN (x := (p + 1)) (y := 1) (ls1 := [.ref 56, .ref 10, .int (nI t), .int (nI p), .int (nI i), .int (nI k), .int (nI ((0 * 10) + s)), .int (nI (p + 1 + 1)), .int (nI s)]) hA si_35_76 rfl rfl (by rw [sq_l_35]; decide) rfl ?_
  refine sr_goto (tgt := 28) hA si_35_79 (by decide) ?_
  refine sr_iload hA si_35_28 rfl ?_
  refine sr_iload_n hA si_35_30 rfl ?_
  refine sr_iconst (v := nI 5) hA si_35_31 (by decide) ?_
  refine sr_iaddN hA si_35_32 ?_
  refine sr_icmp_geN (tgt := 82) hA si_35_33 (by decide) (by omega) (by omega) (fun c5 => absurd c5 (by omega)) (fun c5 => ?_)
  refine sr_iload hA si_35_36 rfl ?_
  refine sr_aload_n hA si_35_38 rfl ?_
  refine sr_iload_n hA si_35_39 rfl ?_
  refine sr_VFi (c := 10) (ci := 5) (as := [.int (nI t)]) (st := [.int (nI (p + 1 + 1))]) hA si_35_40 sv_26 sk_35_29 (xc_sizeT X g (z := nI z) (by omega) hT.2.2.1) (by omega) rfl (by decide) (by decide) rfl sq_c_26 rfl (Nat.le_of_ble_eq_true rfl) ?_
  refine sr_icmp_ltN (tgt := 49) hA si_35_43 (by decide) (by omega) (by omega) (fun c6 => absurd c6 (by omega)) (fun c6 => ?_)
  refine sr_iload hA si_35_46 rfl ?_
  exact sr_iretF hA si_35_48 sq_r_35 rfl rfl
set_option maxRecDepth 20000 in
theorem xc_rk2F (X : sp_X) (g : sp_G) {t z : Nat} {f : Nat → Int32} (hT : sp_TX t z f g) {p i k : Nat} (hi : i < 6) (hk : k < 6) (ek : f p = nI (sp_LT k)) {s : Nat} (hs : sp_dg1 (f (p + 1)) s) (hz2 : p + 2 < z) (hbad : sp_dg0 (f (p + 1 + 1))) : sp_Ct X 2 35 [.ref 56, .ref 10, .int (nI t), .int (nI p), .int (nI i)] g (sp_Fi (nI (p + 1 + 1)) g) := by
  obtain ⟨ht, hz, -, -⟩ := id hT
  have hs9 := hs.1
  refine sp_walkN (n := 9) sq_p_35 sq_l_35 (Nat.le_of_ble_eq_true rfl) (fun ac hA => ?_)
  show sp_Ev X ac 35 0 [.ref 56, .ref 10, .int (nI t), .int (nI p), .int (nI i), .null, .null, .null, .null] [] g
  refine sr_aload_n hA si_35_0 rfl ?_
  refine sr_iload_n hA si_35_1 rfl ?_
  refine sr_iload_n hA si_35_2 rfl ?_
  refine sr_VFi (c := 10) (ci := 5) (as := [.int (nI t), .int (nI p)]) (st := []) hA si_35_3 sv_18 sk_35_45 (xc_getT X g (v := nI (sp_LT k)) (by omega) (by omega) ((hT.2.2.2 p (by omega)).trans ek)) (by omega) rfl (by decide) (by decide) rfl sq_c_18 rfl (Nat.le_of_ble_eq_true rfl) ?_
  refine sr_SFi (as := [.int (nI (sp_LT k))]) (st := []) hA si_35_6 ss_36 sk_35_59 (xc_kindK X g hk) (by omega) rfl rfl (Nat.le_of_ble_eq_true rfl) ?_
  refine sr_istore (ls1 := [.ref 56, .ref 10, .int (nI t), .int (nI p), .int (nI i), .int (nI k), .null, .null, .null]) hA si_35_9 (by rw [sq_l_35]; decide) rfl ?_
  refine sr_iload hA si_35_11 rfl ?_
  refine sr_bipush (v := (-9)) hA si_35_13 (by decide) ?_
  refine sr_icmp_ne (tgt := 20) hA si_35_15 (by decide) (fun c1 => ?_) (fun c1 => absurd c1 (sp_nm9 (by omega)))
  refine sr_iconst (v := nI 0) hA si_35_20 (by decide) ?_
  refine sr_istore (ls1 := [.ref 56, .ref 10, .int (nI t), .int (nI p), .int (nI i), .int (nI k), .int (nI 0), .null, .null]) hA si_35_21 (by rw [sq_l_35]; decide) rfl ?_
  refine sr_iload_n hA si_35_23 rfl ?_
  refine sr_iconst (v := nI 1) hA si_35_24 (by decide) ?_
  refine sr_iaddN hA si_35_25 ?_
  refine sr_istore (ls1 := [.ref 56, .ref 10, .int (nI t), .int (nI p), .int (nI i), .int (nI k), .int (nI 0), .int (nI (p + 1)), .null]) hA si_35_26 (by rw [sq_l_35]; decide) rfl ?_
  refine sr_iload hA si_35_28 rfl ?_
  refine sr_iload_n hA si_35_30 rfl ?_
  refine sr_iconst (v := nI 5) hA si_35_31 (by decide) ?_
  refine sr_iaddN hA si_35_32 ?_
  refine sr_icmp_geN (tgt := 82) hA si_35_33 (by decide) (by omega) (by omega) (fun c2 => absurd c2 (by omega)) (fun c2 => ?_)
  refine sr_iload hA si_35_36 rfl ?_
  refine sr_aload_n hA si_35_38 rfl ?_
  refine sr_iload_n hA si_35_39 rfl ?_
  refine sr_VFi (c := 10) (ci := 5) (as := [.int (nI t)]) (st := [.int (nI (p + 1))]) hA si_35_40 sv_26 sk_35_29 (xc_sizeT X g (z := nI z) (by omega) hT.2.2.1) (by omega) rfl (by decide) (by decide) rfl sq_c_26 rfl (Nat.le_of_ble_eq_true rfl) ?_
  refine sr_icmp_ltN (tgt := 49) hA si_35_43 (by decide) (by omega) (by omega) (fun c3 => ?_) (fun c3 => absurd c3 (by omega))
  refine sr_aload_n hA si_35_49 rfl ?_
  refine sr_iload_n hA si_35_50 rfl ?_
  refine sr_iload hA si_35_51 rfl ?_
  refine sr_SFi (as := [.ref 10, .int (nI t), .int (nI (p + 1))]) (st := []) hA si_35_53 ss_33 sk_35_49 (xc_fig1 X g hT (p := (p + 1)) (d := s) (by omega) hs) (by omega) rfl rfl (Nat.le_of_ble_eq_true rfl) ?_
  refine sr_istore (ls1 := [.ref 56, .ref 10, .int (nI t), .int (nI p), .int (nI i), .int (nI k), .int (nI 0), .int (nI (p + 1)), .int (nI s)]) hA si_35_56 (by rw [sq_l_35]; decide) rfl ?_
  refine sr_iload hA si_35_58 rfl ?_
  refine sr_if_geN (tgt := 66) hA si_35_60 (by decide) (by omega) ?_
  refine sr_iload hA si_35_66 rfl ?_
  refine sr_bipush (v := nI 10) hA si_35_68 (by decide) ?_
  refine sr_imulN hA si_35_70 ?_
  refine sr_iload hA si_35_71 rfl ?_
  refine sr_iaddN hA si_35_73 ?_
  refine sr_istore (ls1 := [.ref 56, .ref 10, .int (nI t), .int (nI p), .int (nI i), .int (nI k), .int (nI ((0 * 10) + s)), .int (nI (p + 1)), .int (nI s)]) hA si_35_74 (by rw [sq_l_35]; decide) rfl ?_
  refine sr_iincN (x := (p + 1)) (y := 1) (ls1 := [.ref 56, .ref 10, .int (nI t), .int (nI p), .int (nI i), .int (nI k), .int (nI ((0 * 10) + s)), .int (nI (p + 1 + 1)), .int (nI s)]) hA si_35_76 rfl rfl (by rw [sq_l_35]; decide) rfl ?_
  refine sr_goto (tgt := 28) hA si_35_79 (by decide) ?_
  refine sr_iload hA si_35_28 rfl ?_
  refine sr_iload_n hA si_35_30 rfl ?_
  refine sr_iconst (v := nI 5) hA si_35_31 (by decide) ?_
  refine sr_iaddN hA si_35_32 ?_
  refine sr_icmp_geN (tgt := 82) hA si_35_33 (by decide) (by omega) (by omega) (fun c5 => absurd c5 (by omega)) (fun c5 => ?_)
  refine sr_iload hA si_35_36 rfl ?_
  refine sr_aload_n hA si_35_38 rfl ?_
  refine sr_iload_n hA si_35_39 rfl ?_
  refine sr_VFi (c := 10) (ci := 5) (as := [.int (nI t)]) (st := [.int (nI (p + 1 + 1))]) hA si_35_40 sv_26 sk_35_29 (xc_sizeT X g (z := nI z) (by omega) hT.2.2.1) (by omega) rfl (by decide) (by decide) rfl sq_c_26 rfl (Nat.le_of_ble_eq_true rfl) ?_
  refine sr_icmp_ltN (tgt := 49) hA si_35_43 (by decide) (by omega) (by omega) (fun c6 => ?_) (fun c6 => absurd c6 (by omega))
  refine sr_aload_n hA si_35_49 rfl ?_
  refine sr_iload_n hA si_35_50 rfl ?_
  refine sr_iload hA si_35_51 rfl ?_
  refine sr_SFi (as := [.ref 10, .int (nI t), .int (nI (p + 1 + 1))]) (st := []) hA si_35_53 ss_33 sk_35_49 (xc_fig0 X g hT (p := (p + 1 + 1)) (by omega) hbad) (by omega) rfl rfl (Nat.le_of_ble_eq_true rfl) ?_
  refine sr_istore (ls1 := [.ref 56, .ref 10, .int (nI t), .int (nI p), .int (nI i), .int (nI k), .int (nI ((0 * 10) + s)), .int (nI (p + 1 + 1)), .int (-1)]) hA si_35_56 (by rw [sq_l_35]; decide) rfl ?_
  refine sr_iload hA si_35_58 rfl ?_
  refine sr_if_ge (tgt := 66) hA si_35_60 (by decide) (fun c7 => absurd c7 (sp_m4 (by decide))) (fun c7 => ?_)
  refine sr_iload hA si_35_63 rfl ?_
  exact sr_iretF hA si_35_65 sq_r_35 rfl rfl
set_option maxRecDepth 20000 in
theorem xc_rk3E (X : sp_X) (g : sp_G) {t z : Nat} {f : Nat → Int32} (hT : sp_TX t z f g) {p i k : Nat} (hi : i < 6) (hk : k < 6) (ek : f p = nI (sp_LT k)) {s : Nat} (hs : sp_dg1 (f (p + 1)) s) {a : Nat} (ha : sp_dg1 (f (p + 1 + 1)) a) (hz1 : p < z) (hz2 : z = p + 3) : sp_Ct X 2 35 [.ref 56, .ref 10, .int (nI t), .int (nI p), .int (nI i)] g (sp_Fi (nI (p + 1 + 1 + 1)) g) := by
  obtain ⟨ht, hz, -, -⟩ := id hT
  have hs9 := hs.1
  have ha9 := ha.1
  refine sp_walkN (n := 9) sq_p_35 sq_l_35 (Nat.le_of_ble_eq_true rfl) (fun ac hA => ?_)
  show sp_Ev X ac 35 0 [.ref 56, .ref 10, .int (nI t), .int (nI p), .int (nI i), .null, .null, .null, .null] [] g
  refine sr_aload_n hA si_35_0 rfl ?_
  refine sr_iload_n hA si_35_1 rfl ?_
  refine sr_iload_n hA si_35_2 rfl ?_
  refine sr_VFi (c := 10) (ci := 5) (as := [.int (nI t), .int (nI p)]) (st := []) hA si_35_3 sv_18 sk_35_45 (xc_getT X g (v := nI (sp_LT k)) (by omega) (by omega) ((hT.2.2.2 p (by omega)).trans ek)) (by omega) rfl (by decide) (by decide) rfl sq_c_18 rfl (Nat.le_of_ble_eq_true rfl) ?_
  refine sr_SFi (as := [.int (nI (sp_LT k))]) (st := []) hA si_35_6 ss_36 sk_35_59 (xc_kindK X g hk) (by omega) rfl rfl (Nat.le_of_ble_eq_true rfl) ?_
  refine sr_istore (ls1 := [.ref 56, .ref 10, .int (nI t), .int (nI p), .int (nI i), .int (nI k), .null, .null, .null]) hA si_35_9 (by rw [sq_l_35]; decide) rfl ?_
  refine sr_iload hA si_35_11 rfl ?_
  refine sr_bipush (v := (-9)) hA si_35_13 (by decide) ?_
  refine sr_icmp_ne (tgt := 20) hA si_35_15 (by decide) (fun c1 => ?_) (fun c1 => absurd c1 (sp_nm9 (by omega)))
  refine sr_iconst (v := nI 0) hA si_35_20 (by decide) ?_
  refine sr_istore (ls1 := [.ref 56, .ref 10, .int (nI t), .int (nI p), .int (nI i), .int (nI k), .int (nI 0), .null, .null]) hA si_35_21 (by rw [sq_l_35]; decide) rfl ?_
  refine sr_iload_n hA si_35_23 rfl ?_
  refine sr_iconst (v := nI 1) hA si_35_24 (by decide) ?_
  refine sr_iaddN hA si_35_25 ?_
  refine sr_istore (ls1 := [.ref 56, .ref 10, .int (nI t), .int (nI p), .int (nI i), .int (nI k), .int (nI 0), .int (nI (p + 1)), .null]) hA si_35_26 (by rw [sq_l_35]; decide) rfl ?_
  refine sr_iload hA si_35_28 rfl ?_
  refine sr_iload_n hA si_35_30 rfl ?_
  refine sr_iconst (v := nI 5) hA si_35_31 (by decide) ?_
  refine sr_iaddN hA si_35_32 ?_
  refine sr_icmp_geN (tgt := 82) hA si_35_33 (by decide) (by omega) (by omega) (fun c2 => absurd c2 (by omega)) (fun c2 => ?_)
  refine sr_iload hA si_35_36 rfl ?_
  refine sr_aload_n hA si_35_38 rfl ?_
  refine sr_iload_n hA si_35_39 rfl ?_
  refine sr_VFi (c := 10) (ci := 5) (as := [.int (nI t)]) (st := [.int (nI (p + 1))]) hA si_35_40 sv_26 sk_35_29 (xc_sizeT X g (z := nI z) (by omega) hT.2.2.1) (by omega) rfl (by decide) (by decide) rfl sq_c_26 rfl (Nat.le_of_ble_eq_true rfl) ?_
  refine sr_icmp_ltN (tgt := 49) hA si_35_43 (by decide) (by omega) (by omega) (fun c3 => ?_) (fun c3 => absurd c3 (by omega))
  refine sr_aload_n hA si_35_49 rfl ?_
  refine sr_iload_n hA si_35_50 rfl ?_
  refine sr_iload hA si_35_51 rfl ?_
  refine sr_SFi (as := [.ref 10, .int (nI t), .int (nI (p + 1))]) (st := []) hA si_35_53 ss_33 sk_35_49 (xc_fig1 X g hT (p := (p + 1)) (d := s) (by omega) hs) (by omega) rfl rfl (Nat.le_of_ble_eq_true rfl) ?_
  refine sr_istore (ls1 := [.ref 56, .ref 10, .int (nI t), .int (nI p), .int (nI i), .int (nI k), .int (nI 0), .int (nI (p + 1)), .int (nI s)]) hA si_35_56 (by rw [sq_l_35]; decide) rfl ?_
  refine sr_iload hA si_35_58 rfl ?_
  refine sr_if_geN (tgt := 66) hA si_35_60 (by decide) (by omega) ?_
  refine sr_iload hA si_35_66 rfl ?_
  refine sr_bipush (v := nI 10) hA si_35_68 (by decide) ?_
  refine sr_imulN hA si_35_70 ?_
  refine sr_iload hA si_35_71 rfl ?_
  refine sr_iaddN hA si_35_73 ?_
  refine sr_istore (ls1 := [.ref 56, .ref 10, .int (nI t), .int (nI p), .int (nI i), .int (nI k), .int (nI ((0 * 10) + s)), .int (nI (p + 1)), .int (nI s)]) hA si_35_74 (by rw [sq_l_35]; decide) rfl ?_
  refine sr_iincN (x := (p + 1)) (y := 1) (ls1 := [.ref 56, .ref 10, .int (nI t), .int (nI p), .int (nI i), .int (nI k), .int (nI ((0 * 10) + s)), .int (nI (p + 1 + 1)), .int (nI s)]) hA si_35_76 rfl rfl (by rw [sq_l_35]; decide) rfl ?_
  refine sr_goto (tgt := 28) hA si_35_79 (by decide) ?_
  refine sr_iload hA si_35_28 rfl ?_
  refine sr_iload_n hA si_35_30 rfl ?_
  refine sr_iconst (v := nI 5) hA si_35_31 (by decide) ?_
  refine sr_iaddN hA si_35_32 ?_
  refine sr_icmp_geN (tgt := 82) hA si_35_33 (by decide) (by omega) (by omega) (fun c5 => absurd c5 (by omega)) (fun c5 => ?_)
  refine sr_iload hA si_35_36 rfl ?_
  refine sr_aload_n hA si_35_38 rfl ?_
  refine sr_iload_n hA si_35_39 rfl ?_
  refine sr_VFi (c := 10) (ci := 5) (as := [.int (nI t)]) (st := [.int (nI (p + 1 + 1))]) hA si_35_40 sv_26 sk_35_29 (xc_sizeT X g (z := nI z) (by omega) hT.2.2.1) (by omega) rfl (by decide) (by decide) rfl sq_c_26 rfl (Nat.le_of_ble_eq_true rfl) ?_
  refine sr_icmp_ltN (tgt := 49) hA si_35_43 (by decide) (by omega) (by omega) (fun c6 => ?_) (fun c6 => absurd c6 (by omega))
  refine sr_aload_n hA si_35_49 rfl ?_
  refine sr_iload_n hA si_35_50 rfl ?_
  refine sr_iload hA si_35_51 rfl ?_
  refine sr_SFi (as := [.ref 10, .int (nI t), .int (nI (p + 1 + 1))]) (st := []) hA si_35_53 ss_33 sk_35_49 (xc_fig1 X g hT (p := (p + 1 + 1)) (d := a) (by omega) ha) (by omega) rfl rfl (Nat.le_of_ble_eq_true rfl) ?_
  refine sr_istore (ls1 := [.ref 56, .ref 10, .int (nI t), .int (nI p), .int (nI i), .int (nI k), .int (nI ((0 * 10) + s)), .int (nI (p + 1 + 1)), .int (nI a)]) hA si_35_56 (by rw [sq_l_35]; decide) rfl ?_
  refine sr_iload hA si_35_58 rfl ?_
  refine sr_if_geN (tgt := 66) hA si_35_60 (by decide) (by omega) ?_
  refine sr_iload hA si_35_66 rfl ?_
  refine sr_bipush (v := nI 10) hA si_35_68 (by decide) ?_
  refine sr_imulN hA si_35_70 ?_
  refine sr_iload hA si_35_71 rfl ?_
  refine sr_iaddN hA si_35_73 ?_
  refine sr_istore (ls1 := [.ref 56, .ref 10, .int (nI t), .int (nI p), .int (nI i), .int (nI k), .int (nI ((((0 * 10) + s) * 10) + a)), .int (nI (p + 1 + 1)), .int (nI a)]) hA si_35_74 (by rw [sq_l_35]; decide) rfl ?_
  refine sr_iincN (x := (p + 1 + 1)) (y := 1) (ls1 := [.ref 56, .ref 10, .int (nI t), .int (nI p), .int (nI i), .int (nI k), .int (nI ((((0 * 10) + s) * 10) + a)), .int (nI (p + 1 + 1 + 1)), .int (nI a)]) hA si_35_76 rfl rfl (by rw [sq_l_35]; decide) rfl ?_
  refine sr_goto (tgt := 28) hA si_35_79 (by decide) ?_
  refine sr_iload hA si_35_28 rfl ?_
  refine sr_iload_n hA si_35_30 rfl ?_
  refine sr_iconst (v := nI 5) hA si_35_31 (by decide) ?_
  refine sr_iaddN hA si_35_32 ?_
  refine sr_icmp_geN (tgt := 82) hA si_35_33 (by decide) (by omega) (by omega) (fun c8 => absurd c8 (by omega)) (fun c8 => ?_)
  refine sr_iload hA si_35_36 rfl ?_
  refine sr_aload_n hA si_35_38 rfl ?_
  refine sr_iload_n hA si_35_39 rfl ?_
  refine sr_VFi (c := 10) (ci := 5) (as := [.int (nI t)]) (st := [.int (nI (p + 1 + 1 + 1))]) hA si_35_40 sv_26 sk_35_29 (xc_sizeT X g (z := nI z) (by omega) hT.2.2.1) (by omega) rfl (by decide) (by decide) rfl sq_c_26 rfl (Nat.le_of_ble_eq_true rfl) ?_
  refine sr_icmp_ltN (tgt := 49) hA si_35_43 (by decide) (by omega) (by omega) (fun c9 => absurd c9 (by omega)) (fun c9 => ?_)
  refine sr_iload hA si_35_46 rfl ?_
  exact sr_iretF hA si_35_48 sq_r_35 rfl rfl
set_option maxRecDepth 20000 in
theorem xc_rk3F (X : sp_X) (g : sp_G) {t z : Nat} {f : Nat → Int32} (hT : sp_TX t z f g) {p i k : Nat} (hi : i < 6) (hk : k < 6) (ek : f p = nI (sp_LT k)) {s : Nat} (hs : sp_dg1 (f (p + 1)) s) {a : Nat} (ha : sp_dg1 (f (p + 1 + 1)) a) (hz2 : p + 3 < z) (hbad : sp_dg0 (f (p + 1 + 1 + 1))) : sp_Ct X 2 35 [.ref 56, .ref 10, .int (nI t), .int (nI p), .int (nI i)] g (sp_Fi (nI (p + 1 + 1 + 1)) g) := by
  obtain ⟨ht, hz, -, -⟩ := id hT
  have hs9 := hs.1
  have ha9 := ha.1
  refine sp_walkN (n := 9) sq_p_35 sq_l_35 (Nat.le_of_ble_eq_true rfl) (fun ac hA => ?_)
  show sp_Ev X ac 35 0 [.ref 56, .ref 10, .int (nI t), .int (nI p), .int (nI i), .null, .null, .null, .null] [] g
  refine sr_aload_n hA si_35_0 rfl ?_
  refine sr_iload_n hA si_35_1 rfl ?_
  refine sr_iload_n hA si_35_2 rfl ?_
  refine sr_VFi (c := 10) (ci := 5) (as := [.int (nI t), .int (nI p)]) (st := []) hA si_35_3 sv_18 sk_35_45 (xc_getT X g (v := nI (sp_LT k)) (by omega) (by omega) ((hT.2.2.2 p (by omega)).trans ek)) (by omega) rfl (by decide) (by decide) rfl sq_c_18 rfl (Nat.le_of_ble_eq_true rfl) ?_
  refine sr_SFi (as := [.int (nI (sp_LT k))]) (st := []) hA si_35_6 ss_36 sk_35_59 (xc_kindK X g hk) (by omega) rfl rfl (Nat.le_of_ble_eq_true rfl) ?_
  refine sr_istore (ls1 := [.ref 56, .ref 10, .int (nI t), .int (nI p), .int (nI i), .int (nI k), .null, .null, .null]) hA si_35_9 (by rw [sq_l_35]; decide) rfl ?_
  refine sr_iload hA si_35_11 rfl ?_
  refine sr_bipush (v := (-9)) hA si_35_13 (by decide) ?_
  refine sr_icmp_ne (tgt := 20) hA si_35_15 (by decide) (fun c1 => ?_) (fun c1 => absurd c1 (sp_nm9 (by omega)))
  refine sr_iconst (v := nI 0) hA si_35_20 (by decide) ?_
  refine sr_istore (ls1 := [.ref 56, .ref 10, .int (nI t), .int (nI p), .int (nI i), .int (nI k), .int (nI 0), .null, .null]) hA si_35_21 (by rw [sq_l_35]; decide) rfl ?_
  refine sr_iload_n hA si_35_23 rfl ?_
  refine sr_iconst (v := nI 1) hA si_35_24 (by decide) ?_
  refine sr_iaddN hA si_35_25 ?_
  refine sr_istore (ls1 := [.ref 56, .ref 10, .int (nI t), .int (nI p), .int (nI i), .int (nI k), .int (nI 0), .int (nI (p + 1)), .null]) hA si_35_26 (by rw [sq_l_35]; decide) rfl ?_
  refine sr_iload hA si_35_28 rfl ?_
  refine sr_iload_n hA si_35_30 rfl ?_
  refine sr_iconst (v := nI 5) hA si_35_31 (by decide) ?_
  refine sr_iaddN hA si_35_32 ?_
  refine sr_icmp_geN (tgt := 82) hA si_35_33 (by decide) (by omega) (by omega) (fun c2 => absurd c2 (by omega)) (fun c2 => ?_)
  refine sr_iload hA si_35_36 rfl ?_
  refine sr_aload_n hA si_35_38 rfl ?_
  refine sr_iload_n hA si_35_39 rfl ?_
  refine sr_VFi (c := 10) (ci := 5) (as := [.int (nI t)]) (st := [.int (nI (p + 1))]) hA si_35_40 sv_26 sk_35_29 (xc_sizeT X g (z := nI z) (by omega) hT.2.2.1) (by omega) rfl (by decide) (by decide) rfl sq_c_26 rfl (Nat.le_of_ble_eq_true rfl) ?_
  refine sr_icmp_ltN (tgt := 49) hA si_35_43 (by decide) (by omega) (by omega) (fun c3 => ?_) (fun c3 => absurd c3 (by omega))
  refine sr_aload_n hA si_35_49 rfl ?_
  refine sr_iload_n hA si_35_50 rfl ?_
  refine sr_iload hA si_35_51 rfl ?_
  refine sr_SFi (as := [.ref 10, .int (nI t), .int (nI (p + 1))]) (st := []) hA si_35_53 ss_33 sk_35_49 (xc_fig1 X g hT (p := (p + 1)) (d := s) (by omega) hs) (by omega) rfl rfl (Nat.le_of_ble_eq_true rfl) ?_
  refine sr_istore (ls1 := [.ref 56, .ref 10, .int (nI t), .int (nI p), .int (nI i), .int (nI k), .int (nI 0), .int (nI (p + 1)), .int (nI s)]) hA si_35_56 (by rw [sq_l_35]; decide) rfl ?_
  refine sr_iload hA si_35_58 rfl ?_
  refine sr_if_geN (tgt := 66) hA si_35_60 (by decide) (by omega) ?_
  refine sr_iload hA si_35_66 rfl ?_
  refine sr_bipush (v := nI 10) hA si_35_68 (by decide) ?_
  refine sr_imulN hA si_35_70 ?_
  refine sr_iload hA si_35_71 rfl ?_
  refine sr_iaddN hA si_35_73 ?_
  refine sr_istore (ls1 := [.ref 56, .ref 10, .int (nI t), .int (nI p), .int (nI i), .int (nI k), .int (nI ((0 * 10) + s)), .int (nI (p + 1)), .int (nI s)]) hA si_35_74 (by rw [sq_l_35]; decide) rfl ?_
  refine sr_iincN (x := (p + 1)) (y := 1) (ls1 := [.ref 56, .ref 10, .int (nI t), .int (nI p), .int (nI i), .int (nI k), .int (nI ((0 * 10) + s)), .int (nI (p + 1 + 1)), .int (nI s)]) hA si_35_76 rfl rfl (by rw [sq_l_35]; decide) rfl ?_
  refine sr_goto (tgt := 28) hA si_35_79 (by decide) ?_
  refine sr_iload hA si_35_28 rfl ?_
  refine sr_iload_n hA si_35_30 rfl ?_
  refine sr_iconst (v := nI 5) hA si_35_31 (by decide) ?_
  refine sr_iaddN hA si_35_32 ?_
  refine sr_icmp_geN (tgt := 82) hA si_35_33 (by decide) (by omega) (by omega) (fun c5 => absurd c5 (by omega)) (fun c5 => ?_)
  refine sr_iload hA si_35_36 rfl ?_
  refine sr_aload_n hA si_35_38 rfl ?_
  refine sr_iload_n hA si_35_39 rfl ?_
  refine sr_VFi (c := 10) (ci := 5) (as := [.int (nI t)]) (st := [.int (nI (p + 1 + 1))]) hA si_35_40 sv_26 sk_35_29 (xc_sizeT X g (z := nI z) (by omega) hT.2.2.1) (by omega) rfl (by decide) (by decide) rfl sq_c_26 rfl (Nat.le_of_ble_eq_true rfl) ?_
  refine sr_icmp_ltN (tgt := 49) hA si_35_43 (by decide) (by omega) (by omega) (fun c6 => ?_) (fun c6 => absurd c6 (by omega))
  refine sr_aload_n hA si_35_49 rfl ?_
  refine sr_iload_n hA si_35_50 rfl ?_
  refine sr_iload hA si_35_51 rfl ?_
  refine sr_SFi (as := [.ref 10, .int (nI t), .int (nI (p + 1 + 1))]) (st := []) hA si_35_53 ss_33 sk_35_49 (xc_fig1 X g hT (p := (p + 1 + 1)) (d := a) (by omega) ha) (by omega) rfl rfl (Nat.le_of_ble_eq_true rfl) ?_
  refine sr_istore (ls1 := [.ref 56, .ref 10, .int (nI t), .int (nI p), .int (nI i), .int (nI k), .int (nI ((0 * 10) + s)), .int (nI (p + 1 + 1)), .int (nI a)]) hA si_35_56 (by rw [sq_l_35]; decide) rfl ?_
  refine sr_iload hA si_35_58 rfl ?_
  refine sr_if_geN (tgt := 66) hA si_35_60 (by decide) (by omega) ?_
  refine sr_iload hA si_35_66 rfl ?_
  refine sr_bipush (v := nI 10) hA si_35_68 (by decide) ?_
  refine sr_imulN hA si_35_70 ?_
  refine sr_iload hA si_35_71 rfl ?_
  refine sr_iaddN hA si_35_73 ?_
  refine sr_istore (ls1 := [.ref 56, .ref 10, .int (nI t), .int (nI p), .int (nI i), .int (nI k), .int (nI ((((0 * 10) + s) * 10) + a)), .int (nI (p + 1 + 1)), .int (nI a)]) hA si_35_74 (by rw [sq_l_35]; decide) rfl ?_
  refine sr_iincN (x := (p + 1 + 1)) (y := 1) (ls1 := [.ref 56, .ref 10, .int (nI t), .int (nI p), .int (nI i), .int (nI k), .int (nI ((((0 * 10) + s) * 10) + a)), .int (nI (p + 1 + 1 + 1)), .int (nI a)]) hA si_35_76 rfl rfl (by rw [sq_l_35]; decide) rfl ?_
  refine sr_goto (tgt := 28) hA si_35_79 (by decide) ?_
  refine sr_iload hA si_35_28 rfl ?_
  refine sr_iload_n hA si_35_30 rfl ?_
  refine sr_iconst (v := nI 5) hA si_35_31 (by decide) ?_
  refine sr_iaddN hA si_35_32 ?_
  refine sr_icmp_geN (tgt := 82) hA si_35_33 (by decide) (by omega) (by omega) (fun c8 => absurd c8 (by omega)) (fun c8 => ?_)
  refine sr_iload hA si_35_36 rfl ?_
  refine sr_aload_n hA si_35_38 rfl ?_
  refine sr_iload_n hA si_35_39 rfl ?_
  refine sr_VFi (c := 10) (ci := 5) (as := [.int (nI t)]) (st := [.int (nI (p + 1 + 1 + 1))]) hA si_35_40 sv_26 sk_35_29 (xc_sizeT X g (z := nI z) (by omega) hT.2.2.1) (by omega) rfl (by decide) (by decide) rfl sq_c_26 rfl (Nat.le_of_ble_eq_true rfl) ?_
  refine sr_icmp_ltN (tgt := 49) hA si_35_43 (by decide) (by omega) (by omega) (fun c9 => ?_) (fun c9 => absurd c9 (by omega))
  refine sr_aload_n hA si_35_49 rfl ?_
  refine sr_iload_n hA si_35_50 rfl ?_
  refine sr_iload hA si_35_51 rfl ?_
  refine sr_SFi (as := [.ref 10, .int (nI t), .int (nI (p + 1 + 1 + 1))]) (st := []) hA si_35_53 ss_33 sk_35_49 (xc_fig0 X g hT (p := (p + 1 + 1 + 1)) (by omega) hbad) (by omega) rfl rfl (Nat.le_of_ble_eq_true rfl) ?_
  refine sr_istore (ls1 := [.ref 56, .ref 10, .int (nI t), .int (nI p), .int (nI i), .int (nI k), .int (nI ((((0 * 10) + s) * 10) + a)), .int (nI (p + 1 + 1 + 1)), .int (-1)]) hA si_35_56 (by rw [sq_l_35]; decide) rfl ?_
  refine sr_iload hA si_35_58 rfl ?_
  refine sr_if_ge (tgt := 66) hA si_35_60 (by decide) (fun c10 => absurd c10 (sp_m4 (by decide))) (fun c10 => ?_)
  refine sr_iload hA si_35_63 rfl ?_
  exact sr_iretF hA si_35_65 sq_r_35 rfl rfl
set_option maxRecDepth 20000 in
theorem xc_rk4E (X : sp_X) (g : sp_G) {t z : Nat} {f : Nat → Int32} (hT : sp_TX t z f g) {p i k : Nat} (hi : i < 6) (hk : k < 6) (ek : f p = nI (sp_LT k)) {s : Nat} (hs : sp_dg1 (f (p + 1)) s) {a : Nat} (ha : sp_dg1 (f (p + 1 + 1)) a) {b : Nat} (hb : sp_dg1 (f (p + 1 + 1 + 1)) b) (hz1 : p < z) (hz2 : z = p + 4) : sp_Ct X 2 35 [.ref 56, .ref 10, .int (nI t), .int (nI p), .int (nI i)] g (sp_Fi (nI (p + 1 + 1 + 1 + 1)) g) := by
  obtain ⟨ht, hz, -, -⟩ := id hT
  have hs9 := hs.1
  have ha9 := ha.1
  have hb9 := hb.1
  refine sp_walkN (n := 9) sq_p_35 sq_l_35 (Nat.le_of_ble_eq_true rfl) (fun ac hA => ?_)
  show sp_Ev X ac 35 0 [.ref 56, .ref 10, .int (nI t), .int (nI p), .int (nI i), .null, .null, .null, .null] [] g
  refine sr_aload_n hA si_35_0 rfl ?_
  refine sr_iload_n hA si_35_1 rfl ?_
  refine sr_iload_n hA si_35_2 rfl ?_
  refine sr_VFi (c := 10) (ci := 5) (as := [.int (nI t), .int (nI p)]) (st := []) hA si_35_3 sv_18 sk_35_45 (xc_getT X g (v := nI (sp_LT k)) (by omega) (by omega) ((hT.2.2.2 p (by omega)).trans ek)) (by omega) rfl (by decide) (by decide) rfl sq_c_18 rfl (Nat.le_of_ble_eq_true rfl) ?_
  refine sr_SFi (as := [.int (nI (sp_LT k))]) (st := []) hA si_35_6 ss_36 sk_35_59 (xc_kindK X g hk) (by omega) rfl rfl (Nat.le_of_ble_eq_true rfl) ?_
  refine sr_istore (ls1 := [.ref 56, .ref 10, .int (nI t), .int (nI p), .int (nI i), .int (nI k), .null, .null, .null]) hA si_35_9 (by rw [sq_l_35]; decide) rfl ?_
  refine sr_iload hA si_35_11 rfl ?_
  refine sr_bipush (v := (-9)) hA si_35_13 (by decide) ?_
  refine sr_icmp_ne (tgt := 20) hA si_35_15 (by decide) (fun c1 => ?_) (fun c1 => absurd c1 (sp_nm9 (by omega)))
  refine sr_iconst (v := nI 0) hA si_35_20 (by decide) ?_
  refine sr_istore (ls1 := [.ref 56, .ref 10, .int (nI t), .int (nI p), .int (nI i), .int (nI k), .int (nI 0), .null, .null]) hA si_35_21 (by rw [sq_l_35]; decide) rfl ?_
  refine sr_iload_n hA si_35_23 rfl ?_
  refine sr_iconst (v := nI 1) hA si_35_24 (by decide) ?_
  refine sr_iaddN hA si_35_25 ?_
  refine sr_istore (ls1 := [.ref 56, .ref 10, .int (nI t), .int (nI p), .int (nI i), .int (nI k), .int (nI 0), .int (nI (p + 1)), .null]) hA si_35_26 (by rw [sq_l_35]; decide) rfl ?_
  refine sr_iload hA si_35_28 rfl ?_
  refine sr_iload_n hA si_35_30 rfl ?_
  refine sr_iconst (v := nI 5) hA si_35_31 (by decide) ?_
  refine sr_iaddN hA si_35_32 ?_
  refine sr_icmp_geN (tgt := 82) hA si_35_33 (by decide) (by omega) (by omega) (fun c2 => absurd c2 (by omega)) (fun c2 => ?_)
  refine sr_iload hA si_35_36 rfl ?_
  refine sr_aload_n hA si_35_38 rfl ?_
  refine sr_iload_n hA si_35_39 rfl ?_
  refine sr_VFi (c := 10) (ci := 5) (as := [.int (nI t)]) (st := [.int (nI (p + 1))]) hA si_35_40 sv_26 sk_35_29 (xc_sizeT X g (z := nI z) (by omega) hT.2.2.1) (by omega) rfl (by decide) (by decide) rfl sq_c_26 rfl (Nat.le_of_ble_eq_true rfl) ?_
  refine sr_icmp_ltN (tgt := 49) hA si_35_43 (by decide) (by omega) (by omega) (fun c3 => ?_) (fun c3 => absurd c3 (by omega))
  refine sr_aload_n hA si_35_49 rfl ?_
  refine sr_iload_n hA si_35_50 rfl ?_
  refine sr_iload hA si_35_51 rfl ?_
  refine sr_SFi (as := [.ref 10, .int (nI t), .int (nI (p + 1))]) (st := []) hA si_35_53 ss_33 sk_35_49 (xc_fig1 X g hT (p := (p + 1)) (d := s) (by omega) hs) (by omega) rfl rfl (Nat.le_of_ble_eq_true rfl) ?_
  refine sr_istore (ls1 := [.ref 56, .ref 10, .int (nI t), .int (nI p), .int (nI i), .int (nI k), .int (nI 0), .int (nI (p + 1)), .int (nI s)]) hA si_35_56 (by rw [sq_l_35]; decide) rfl ?_
  refine sr_iload hA si_35_58 rfl ?_
  refine sr_if_geN (tgt := 66) hA si_35_60 (by decide) (by omega) ?_
  refine sr_iload hA si_35_66 rfl ?_
  refine sr_bipush (v := nI 10) hA si_35_68 (by decide) ?_
  refine sr_imulN hA si_35_70 ?_
  refine sr_iload hA si_35_71 rfl ?_
  refine sr_iaddN hA si_35_73 ?_
  refine sr_istore (ls1 := [.ref 56, .ref 10, .int (nI t), .int (nI p), .int (nI i), .int (nI k), .int (nI ((0 * 10) + s)), .int (nI (p + 1)), .int (nI s)]) hA si_35_74 (by rw [sq_l_35]; decide) rfl ?_
  refine sr_iincN (x := (p + 1)) (y := 1) (ls1 := [.ref 56, .ref 10, .int (nI t), .int (nI p), .int (nI i), .int (nI k), .int (nI ((0 * 10) + s)), .int (nI (p + 1 + 1)), .int (nI s)]) hA si_35_76 rfl rfl (by rw [sq_l_35]; decide) rfl ?_
  refine sr_goto (tgt := 28) hA si_35_79 (by decide) ?_
  refine sr_iload hA si_35_28 rfl ?_
  refine sr_iload_n hA si_35_30 rfl ?_
  refine sr_iconst (v := nI 5) hA si_35_31 (by decide) ?_
  refine sr_iaddN hA si_35_32 ?_
  refine sr_icmp_geN (tgt := 82) hA si_35_33 (by decide) (by omega) (by omega) (fun c5 => absurd c5 (by omega)) (fun c5 => ?_)
  refine sr_iload hA si_35_36 rfl ?_
  refine sr_aload_n hA si_35_38 rfl ?_
  refine sr_iload_n hA si_35_39 rfl ?_
  refine sr_VFi (c := 10) (ci := 5) (as := [.int (nI t)]) (st := [.int (nI (p + 1 + 1))]) hA si_35_40 sv_26 sk_35_29 (xc_sizeT X g (z := nI z) (by omega) hT.2.2.1) (by omega) rfl (by decide) (by decide) rfl sq_c_26 rfl (Nat.le_of_ble_eq_true rfl) ?_
  refine sr_icmp_ltN (tgt := 49) hA si_35_43 (by decide) (by omega) (by omega) (fun c6 => ?_) (fun c6 => absurd c6 (by omega))
  refine sr_aload_n hA si_35_49 rfl ?_
  refine sr_iload_n hA si_35_50 rfl ?_
  refine sr_iload hA si_35_51 rfl ?_
  refine sr_SFi (as := [.ref 10, .int (nI t), .int (nI (p + 1 + 1))]) (st := []) hA si_35_53 ss_33 sk_35_49 (xc_fig1 X g hT (p := (p + 1 + 1)) (d := a) (by omega) ha) (by omega) rfl rfl (Nat.le_of_ble_eq_true rfl) ?_
  refine sr_istore (ls1 := [.ref 56, .ref 10, .int (nI t), .int (nI p), .int (nI i), .int (nI k), .int (nI ((0 * 10) + s)), .int (nI (p + 1 + 1)), .int (nI a)]) hA si_35_56 (by rw [sq_l_35]; decide) rfl ?_
  refine sr_iload hA si_35_58 rfl ?_
  refine sr_if_geN (tgt := 66) hA si_35_60 (by decide) (by omega) ?_
  refine sr_iload hA si_35_66 rfl ?_
  refine sr_bipush (v := nI 10) hA si_35_68 (by decide) ?_
  refine sr_imulN hA si_35_70 ?_
  refine sr_iload hA si_35_71 rfl ?_
  refine sr_iaddN hA si_35_73 ?_
  refine sr_istore (ls1 := [.ref 56, .ref 10, .int (nI t), .int (nI p), .int (nI i), .int (nI k), .int (nI ((((0 * 10) + s) * 10) + a)), .int (nI (p + 1 + 1)), .int (nI a)]) hA si_35_74 (by rw [sq_l_35]; decide) rfl ?_
  refine sr_iincN (x := (p + 1 + 1)) (y := 1) (ls1 := [.ref 56, .ref 10, .int (nI t), .int (nI p), .int (nI i), .int (nI k), .int (nI ((((0 * 10) + s) * 10) + a)), .int (nI (p + 1 + 1 + 1)), .int (nI a)]) hA si_35_76 rfl rfl (by rw [sq_l_35]; decide) rfl ?_
  refine sr_goto (tgt := 28) hA si_35_79 (by decide) ?_
  refine sr_iload hA si_35_28 rfl ?_
  refine sr_iload_n hA si_35_30 rfl ?_
  refine sr_iconst (v := nI 5) hA si_35_31 (by decide) ?_
  refine sr_iaddN hA si_35_32 ?_
  refine sr_icmp_geN (tgt := 82) hA si_35_33 (by decide) (by omega) (by omega) (fun c8 => absurd c8 (by omega)) (fun c8 => ?_)
  refine sr_iload hA si_35_36 rfl ?_
  refine sr_aload_n hA si_35_38 rfl ?_
  refine sr_iload_n hA si_35_39 rfl ?_
  refine sr_VFi (c := 10) (ci := 5) (as := [.int (nI t)]) (st := [.int (nI (p + 1 + 1 + 1))]) hA si_35_40 sv_26 sk_35_29 (xc_sizeT X g (z := nI z) (by omega) hT.2.2.1) (by omega) rfl (by decide) (by decide) rfl sq_c_26 rfl (Nat.le_of_ble_eq_true rfl) ?_
  refine sr_icmp_ltN (tgt := 49) hA si_35_43 (by decide) (by omega) (by omega) (fun c9 => ?_) (fun c9 => absurd c9 (by omega))
  refine sr_aload_n hA si_35_49 rfl ?_
  refine sr_iload_n hA si_35_50 rfl ?_
  refine sr_iload hA si_35_51 rfl ?_
  refine sr_SFi (as := [.ref 10, .int (nI t), .int (nI (p + 1 + 1 + 1))]) (st := []) hA si_35_53 ss_33 sk_35_49 (xc_fig1 X g hT (p := (p + 1 + 1 + 1)) (d := b) (by omega) hb) (by omega) rfl rfl (Nat.le_of_ble_eq_true rfl) ?_
  refine sr_istore (ls1 := [.ref 56, .ref 10, .int (nI t), .int (nI p), .int (nI i), .int (nI k), .int (nI ((((0 * 10) + s) * 10) + a)), .int (nI (p + 1 + 1 + 1)), .int (nI b)]) hA si_35_56 (by rw [sq_l_35]; decide) rfl ?_
  refine sr_iload hA si_35_58 rfl ?_
  refine sr_if_geN (tgt := 66) hA si_35_60 (by decide) (by omega) ?_
  refine sr_iload hA si_35_66 rfl ?_
  refine sr_bipush (v := nI 10) hA si_35_68 (by decide) ?_
  refine sr_imulN hA si_35_70 ?_
  refine sr_iload hA si_35_71 rfl ?_
  refine sr_iaddN hA si_35_73 ?_
  refine sr_istore (ls1 := [.ref 56, .ref 10, .int (nI t), .int (nI p), .int (nI i), .int (nI k), .int (nI ((((((0 * 10) + s) * 10) + a) * 10) + b)), .int (nI (p + 1 + 1 + 1)), .int (nI b)]) hA si_35_74 (by rw [sq_l_35]; decide) rfl ?_
  refine sr_iincN (x := (p + 1 + 1 + 1)) (y := 1) (ls1 := [.ref 56, .ref 10, .int (nI t), .int (nI p), .int (nI i), .int (nI k), .int (nI ((((((0 * 10) + s) * 10) + a) * 10) + b)), .int (nI (p + 1 + 1 + 1 + 1)), .int (nI b)]) hA si_35_76 rfl rfl (by rw [sq_l_35]; decide) rfl ?_
  refine sr_goto (tgt := 28) hA si_35_79 (by decide) ?_
  refine sr_iload hA si_35_28 rfl ?_
  refine sr_iload_n hA si_35_30 rfl ?_
  refine sr_iconst (v := nI 5) hA si_35_31 (by decide) ?_
  refine sr_iaddN hA si_35_32 ?_
  refine sr_icmp_geN (tgt := 82) hA si_35_33 (by decide) (by omega) (by omega) (fun c11 => absurd c11 (by omega)) (fun c11 => ?_)
  refine sr_iload hA si_35_36 rfl ?_
  refine sr_aload_n hA si_35_38 rfl ?_
  refine sr_iload_n hA si_35_39 rfl ?_
  refine sr_VFi (c := 10) (ci := 5) (as := [.int (nI t)]) (st := [.int (nI (p + 1 + 1 + 1 + 1))]) hA si_35_40 sv_26 sk_35_29 (xc_sizeT X g (z := nI z) (by omega) hT.2.2.1) (by omega) rfl (by decide) (by decide) rfl sq_c_26 rfl (Nat.le_of_ble_eq_true rfl) ?_
  refine sr_icmp_ltN (tgt := 49) hA si_35_43 (by decide) (by omega) (by omega) (fun c12 => absurd c12 (by omega)) (fun c12 => ?_)
  refine sr_iload hA si_35_46 rfl ?_
  exact sr_iretF hA si_35_48 sq_r_35 rfl rfl
set_option maxRecDepth 20000 in
theorem xc_rk4F (X : sp_X) (g : sp_G) {t z : Nat} {f : Nat → Int32} (hT : sp_TX t z f g) {p i k : Nat} (hi : i < 6) (hk : k < 6) (ek : f p = nI (sp_LT k)) {s : Nat} (hs : sp_dg1 (f (p + 1)) s) {a : Nat} (ha : sp_dg1 (f (p + 1 + 1)) a) {b : Nat} (hb : sp_dg1 (f (p + 1 + 1 + 1)) b) (hz2 : p + 4 < z) (hbad : sp_dg0 (f (p + 1 + 1 + 1 + 1))) : sp_Ct X 2 35 [.ref 56, .ref 10, .int (nI t), .int (nI p), .int (nI i)] g (sp_Fi (nI (p + 1 + 1 + 1 + 1)) g) := by
  obtain ⟨ht, hz, -, -⟩ := id hT
  have hs9 := hs.1
  have ha9 := ha.1
  have hb9 := hb.1
  refine sp_walkN (n := 9) sq_p_35 sq_l_35 (Nat.le_of_ble_eq_true rfl) (fun ac hA => ?_)
  show sp_Ev X ac 35 0 [.ref 56, .ref 10, .int (nI t), .int (nI p), .int (nI i), .null, .null, .null, .null] [] g
  refine sr_aload_n hA si_35_0 rfl ?_
  refine sr_iload_n hA si_35_1 rfl ?_
  refine sr_iload_n hA si_35_2 rfl ?_
  refine sr_VFi (c := 10) (ci := 5) (as := [.int (nI t), .int (nI p)]) (st := []) hA si_35_3 sv_18 sk_35_45 (xc_getT X g (v := nI (sp_LT k)) (by omega) (by omega) ((hT.2.2.2 p (by omega)).trans ek)) (by omega) rfl (by decide) (by decide) rfl sq_c_18 rfl (Nat.le_of_ble_eq_true rfl) ?_
  refine sr_SFi (as := [.int (nI (sp_LT k))]) (st := []) hA si_35_6 ss_36 sk_35_59 (xc_kindK X g hk) (by omega) rfl rfl (Nat.le_of_ble_eq_true rfl) ?_
  refine sr_istore (ls1 := [.ref 56, .ref 10, .int (nI t), .int (nI p), .int (nI i), .int (nI k), .null, .null, .null]) hA si_35_9 (by rw [sq_l_35]; decide) rfl ?_
  refine sr_iload hA si_35_11 rfl ?_
  refine sr_bipush (v := (-9)) hA si_35_13 (by decide) ?_
  refine sr_icmp_ne (tgt := 20) hA si_35_15 (by decide) (fun c1 => ?_) (fun c1 => absurd c1 (sp_nm9 (by omega)))
  refine sr_iconst (v := nI 0) hA si_35_20 (by decide) ?_
  refine sr_istore (ls1 := [.ref 56, .ref 10, .int (nI t), .int (nI p), .int (nI i), .int (nI k), .int (nI 0), .null, .null]) hA si_35_21 (by rw [sq_l_35]; decide) rfl ?_
  refine sr_iload_n hA si_35_23 rfl ?_
  refine sr_iconst (v := nI 1) hA si_35_24 (by decide) ?_
  refine sr_iaddN hA si_35_25 ?_
  refine sr_istore (ls1 := [.ref 56, .ref 10, .int (nI t), .int (nI p), .int (nI i), .int (nI k), .int (nI 0), .int (nI (p + 1)), .null]) hA si_35_26 (by rw [sq_l_35]; decide) rfl ?_
  refine sr_iload hA si_35_28 rfl ?_
  refine sr_iload_n hA si_35_30 rfl ?_
  refine sr_iconst (v := nI 5) hA si_35_31 (by decide) ?_
  refine sr_iaddN hA si_35_32 ?_
  refine sr_icmp_geN (tgt := 82) hA si_35_33 (by decide) (by omega) (by omega) (fun c2 => absurd c2 (by omega)) (fun c2 => ?_)
  refine sr_iload hA si_35_36 rfl ?_
  refine sr_aload_n hA si_35_38 rfl ?_
  refine sr_iload_n hA si_35_39 rfl ?_
  refine sr_VFi (c := 10) (ci := 5) (as := [.int (nI t)]) (st := [.int (nI (p + 1))]) hA si_35_40 sv_26 sk_35_29 (xc_sizeT X g (z := nI z) (by omega) hT.2.2.1) (by omega) rfl (by decide) (by decide) rfl sq_c_26 rfl (Nat.le_of_ble_eq_true rfl) ?_
  refine sr_icmp_ltN (tgt := 49) hA si_35_43 (by decide) (by omega) (by omega) (fun c3 => ?_) (fun c3 => absurd c3 (by omega))
  refine sr_aload_n hA si_35_49 rfl ?_
  refine sr_iload_n hA si_35_50 rfl ?_
  refine sr_iload hA si_35_51 rfl ?_
  refine sr_SFi (as := [.ref 10, .int (nI t), .int (nI (p + 1))]) (st := []) hA si_35_53 ss_33 sk_35_49 (xc_fig1 X g hT (p := (p + 1)) (d := s) (by omega) hs) (by omega) rfl rfl (Nat.le_of_ble_eq_true rfl) ?_
  refine sr_istore (ls1 := [.ref 56, .ref 10, .int (nI t), .int (nI p), .int (nI i), .int (nI k), .int (nI 0), .int (nI (p + 1)), .int (nI s)]) hA si_35_56 (by rw [sq_l_35]; decide) rfl ?_
  refine sr_iload hA si_35_58 rfl ?_
  refine sr_if_geN (tgt := 66) hA si_35_60 (by decide) (by omega) ?_
  refine sr_iload hA si_35_66 rfl ?_
  refine sr_bipush (v := nI 10) hA si_35_68 (by decide) ?_
  refine sr_imulN hA si_35_70 ?_
  refine sr_iload hA si_35_71 rfl ?_
  refine sr_iaddN hA si_35_73 ?_
  refine sr_istore (ls1 := [.ref 56, .ref 10, .int (nI t), .int (nI p), .int (nI i), .int (nI k), .int (nI ((0 * 10) + s)), .int (nI (p + 1)), .int (nI s)]) hA si_35_74 (by rw [sq_l_35]; decide) rfl ?_
  refine sr_iincN (x := (p + 1)) (y := 1) (ls1 := [.ref 56, .ref 10, .int (nI t), .int (nI p), .int (nI i), .int (nI k), .int (nI ((0 * 10) + s)), .int (nI (p + 1 + 1)), .int (nI s)]) hA si_35_76 rfl rfl (by rw [sq_l_35]; decide) rfl ?_
  refine sr_goto (tgt := 28) hA si_35_79 (by decide) ?_
  refine sr_iload hA si_35_28 rfl ?_
  refine sr_iload_n hA si_35_30 rfl ?_
  refine sr_iconst (v := nI 5) hA si_35_31 (by decide) ?_
  refine sr_iaddN hA si_35_32 ?_
  refine sr_icmp_geN (tgt := 82) hA si_35_33 (by decide) (by omega) (by omega) (fun c5 => absurd c5 (by omega)) (fun c5 => ?_)
  refine sr_iload hA si_35_36 rfl ?_
  refine sr_aload_n hA si_35_38 rfl ?_
  refine sr_iload_n hA si_35_39 rfl ?_
  refine sr_VFi (c := 10) (ci := 5) (as := [.int (nI t)]) (st := [.int (nI (p + 1 + 1))]) hA si_35_40 sv_26 sk_35_29 (xc_sizeT X g (z := nI z) (by omega) hT.2.2.1) (by omega) rfl (by decide) (by decide) rfl sq_c_26 rfl (Nat.le_of_ble_eq_true rfl) ?_
  refine sr_icmp_ltN (tgt := 49) hA si_35_43 (by decide) (by omega) (by omega) (fun c6 => ?_) (fun c6 => absurd c6 (by omega))
  refine sr_aload_n hA si_35_49 rfl ?_
  refine sr_iload_n hA si_35_50 rfl ?_
  refine sr_iload hA si_35_51 rfl ?_
  refine sr_SFi (as := [.ref 10, .int (nI t), .int (nI (p + 1 + 1))]) (st := []) hA si_35_53 ss_33 sk_35_49 (xc_fig1 X g hT (p := (p + 1 + 1)) (d := a) (by omega) ha) (by omega) rfl rfl (Nat.le_of_ble_eq_true rfl) ?_
  refine sr_istore (ls1 := [.ref 56, .ref 10, .int (nI t), .int (nI p), .int (nI i), .int (nI k), .int (nI ((0 * 10) + s)), .int (nI (p + 1 + 1)), .int (nI a)]) hA si_35_56 (by rw [sq_l_35]; decide) rfl ?_
  refine sr_iload hA si_35_58 rfl ?_
  refine sr_if_geN (tgt := 66) hA si_35_60 (by decide) (by omega) ?_
  refine sr_iload hA si_35_66 rfl ?_
  refine sr_bipush (v := nI 10) hA si_35_68 (by decide) ?_
  refine sr_imulN hA si_35_70 ?_
  refine sr_iload hA si_35_71 rfl ?_
  refine sr_iaddN hA si_35_73 ?_
  refine sr_istore (ls1 := [.ref 56, .ref 10, .int (nI t), .int (nI p), .int (nI i), .int (nI k), .int (nI ((((0 * 10) + s) * 10) + a)), .int (nI (p + 1 + 1)), .int (nI a)]) hA si_35_74 (by rw [sq_l_35]; decide) rfl ?_
  refine sr_iincN (x := (p + 1 + 1)) (y := 1) (ls1 := [.ref 56, .ref 10, .int (nI t), .int (nI p), .int (nI i), .int (nI k), .int (nI ((((0 * 10) + s) * 10) + a)), .int (nI (p + 1 + 1 + 1)), .int (nI a)]) hA si_35_76 rfl rfl (by rw [sq_l_35]; decide) rfl ?_
  refine sr_goto (tgt := 28) hA si_35_79 (by decide) ?_
  refine sr_iload hA si_35_28 rfl ?_
  refine sr_iload_n hA si_35_30 rfl ?_
  refine sr_iconst (v := nI 5) hA si_35_31 (by decide) ?_
  refine sr_iaddN hA si_35_32 ?_
  refine sr_icmp_geN (tgt := 82) hA si_35_33 (by decide) (by omega) (by omega) (fun c8 => absurd c8 (by omega)) (fun c8 => ?_)
  refine sr_iload hA si_35_36 rfl ?_
  refine sr_aload_n hA si_35_38 rfl ?_
  refine sr_iload_n hA si_35_39 rfl ?_
  refine sr_VFi (c := 10) (ci := 5) (as := [.int (nI t)]) (st := [.int (nI (p + 1 + 1 + 1))]) hA si_35_40 sv_26 sk_35_29 (xc_sizeT X g (z := nI z) (by omega) hT.2.2.1) (by omega) rfl (by decide) (by decide) rfl sq_c_26 rfl (Nat.le_of_ble_eq_true rfl) ?_
  refine sr_icmp_ltN (tgt := 49) hA si_35_43 (by decide) (by omega) (by omega) (fun c9 => ?_) (fun c9 => absurd c9 (by omega))
  refine sr_aload_n hA si_35_49 rfl ?_
  refine sr_iload_n hA si_35_50 rfl ?_
  refine sr_iload hA si_35_51 rfl ?_
  refine sr_SFi (as := [.ref 10, .int (nI t), .int (nI (p + 1 + 1 + 1))]) (st := []) hA si_35_53 ss_33 sk_35_49 (xc_fig1 X g hT (p := (p + 1 + 1 + 1)) (d := b) (by omega) hb) (by omega) rfl rfl (Nat.le_of_ble_eq_true rfl) ?_
  refine sr_istore (ls1 := [.ref 56, .ref 10, .int (nI t), .int (nI p), .int (nI i), .int (nI k), .int (nI ((((0 * 10) + s) * 10) + a)), .int (nI (p + 1 + 1 + 1)), .int (nI b)]) hA si_35_56 (by rw [sq_l_35]; decide) rfl ?_
  refine sr_iload hA si_35_58 rfl ?_
  refine sr_if_geN (tgt := 66) hA si_35_60 (by decide) (by omega) ?_
  refine sr_iload hA si_35_66 rfl ?_
  refine sr_bipush (v := nI 10) hA si_35_68 (by decide) ?_
  refine sr_imulN hA si_35_70 ?_
  refine sr_iload hA si_35_71 rfl ?_
  refine sr_iaddN hA si_35_73 ?_
  refine sr_istore (ls1 := [.ref 56, .ref 10, .int (nI t), .int (nI p), .int (nI i), .int (nI k), .int (nI ((((((0 * 10) + s) * 10) + a) * 10) + b)), .int (nI (p + 1 + 1 + 1)), .int (nI b)]) hA si_35_74 (by rw [sq_l_35]; decide) rfl ?_
  refine sr_iincN (x := (p + 1 + 1 + 1)) (y := 1) (ls1 := [.ref 56, .ref 10, .int (nI t), .int (nI p), .int (nI i), .int (nI k), .int (nI ((((((0 * 10) + s) * 10) + a) * 10) + b)), .int (nI (p + 1 + 1 + 1 + 1)), .int (nI b)]) hA si_35_76 rfl rfl (by rw [sq_l_35]; decide) rfl ?_
  refine sr_goto (tgt := 28) hA si_35_79 (by decide) ?_
  refine sr_iload hA si_35_28 rfl ?_
  refine sr_iload_n hA si_35_30 rfl ?_
  refine sr_iconst (v := nI 5) hA si_35_31 (by decide) ?_
  refine sr_iaddN hA si_35_32 ?_
  refine sr_icmp_geN (tgt := 82) hA si_35_33 (by decide) (by omega) (by omega) (fun c11 => absurd c11 (by omega)) (fun c11 => ?_)
  refine sr_iload hA si_35_36 rfl ?_
  refine sr_aload_n hA si_35_38 rfl ?_
  refine sr_iload_n hA si_35_39 rfl ?_
  refine sr_VFi (c := 10) (ci := 5) (as := [.int (nI t)]) (st := [.int (nI (p + 1 + 1 + 1 + 1))]) hA si_35_40 sv_26 sk_35_29 (xc_sizeT X g (z := nI z) (by omega) hT.2.2.1) (by omega) rfl (by decide) (by decide) rfl sq_c_26 rfl (Nat.le_of_ble_eq_true rfl) ?_
  refine sr_icmp_ltN (tgt := 49) hA si_35_43 (by decide) (by omega) (by omega) (fun c12 => ?_) (fun c12 => absurd c12 (by omega))
  refine sr_aload_n hA si_35_49 rfl ?_
  refine sr_iload_n hA si_35_50 rfl ?_
  refine sr_iload hA si_35_51 rfl ?_
  refine sr_SFi (as := [.ref 10, .int (nI t), .int (nI (p + 1 + 1 + 1 + 1))]) (st := []) hA si_35_53 ss_33 sk_35_49 (xc_fig0 X g hT (p := (p + 1 + 1 + 1 + 1)) (by omega) hbad) (by omega) rfl rfl (Nat.le_of_ble_eq_true rfl) ?_
  refine sr_istore (ls1 := [.ref 56, .ref 10, .int (nI t), .int (nI p), .int (nI i), .int (nI k), .int (nI ((((((0 * 10) + s) * 10) + a) * 10) + b)), .int (nI (p + 1 + 1 + 1 + 1)), .int (-1)]) hA si_35_56 (by rw [sq_l_35]; decide) rfl ?_
  refine sr_iload hA si_35_58 rfl ?_
  refine sr_if_ge (tgt := 66) hA si_35_60 (by decide) (fun c13 => absurd c13 (sp_m4 (by decide))) (fun c13 => ?_)
  refine sr_iload hA si_35_63 rfl ?_
  exact sr_iretF hA si_35_65 sq_r_35 rfl rfl
theorem xc_rkB (X : sp_X) (g : sp_G) {t z p i e : Nat} {f : Nat → Int32} (hT : sp_TX t z f g) (hi : i < 6) (hp : p < z) (h : sp_nk2 f z p e) : sp_Ct X 2 35 [.ref 56, .ref 10, .int (nI t), .int (nI p), .int (nI i)] g (sp_Fi (nI e) g) := by
  rcases h with ⟨rfl, h⟩ | ⟨⟨k, hk, ek⟩, j, hj, rfl, hfd, hbad⟩
  · exact xc_rk0 X g hT hi hp h
  have hj4 : j = 0 ∨ j = 1 ∨ j = 2 ∨ j = 3 := by omega
  rcases hj4 with rfl | rfl | rfl | rfl
  · rcases hbad with h | ⟨h1, h2⟩
    · exact xc_rk1E X g hT hi hk ek hp (by omega)
    · exact xc_rk1F X g hT hi hk ek h1 h2
  · obtain ⟨z1, d1, e1⟩ := hfd 1 (by omega) (by omega)
    rcases hbad with h | ⟨h1, h2⟩
    · exact xc_rk2E X g hT hi hk ek e1 hp (by omega)
    · exact xc_rk2F X g hT hi hk ek e1 h1 h2
  · obtain ⟨z1, d1, e1⟩ := hfd 1 (by omega) (by omega)
    obtain ⟨z2, d2, e2⟩ := hfd 2 (by omega) (by omega)
    rcases hbad with h | ⟨h1, h2⟩
    · exact xc_rk3E X g hT hi hk ek e1 e2 hp (by omega)
    · exact xc_rk3F X g hT hi hk ek e1 e2 h1 h2
  · obtain ⟨z1, d1, e1⟩ := hfd 1 (by omega) (by omega)
    obtain ⟨z2, d2, e2⟩ := hfd 2 (by omega) (by omega)
    obtain ⟨z3, d3, e3⟩ := hfd 3 (by omega) (by omega)
    rcases hbad with h | ⟨h1, h2⟩
    · exact xc_rk4E X g hT hi hk ek e1 e2 e3 hp (by omega)
    · exact xc_rk4F X g hT hi hk ek e1 e2 e3 h1 h2
theorem xc_rkD (X : sp_X) (g : sp_G) {t z p i : Nat} {f : Nat → Int32} {D : Nat × Nat × Nat × Nat × Nat} (hT : sp_TX t z f g) (hi : i < 6) (h : sp_gk f z p D) : sp_Ct X 2 35 [.ref 56, .ref 10, .int (nI t), .int (nI p), .int (nI i)] g (sp_Fi (-9) (sp_wI (sp_wI (sp_wI (sp_wI g 58 i (nI D.1)) 59 i (nI D.2.1)) 62 i (nI (10 * D.2.2.1 + D.2.2.2.1))) 60 i (nI D.2.2.2.2))) := by
  obtain ⟨h1, h2, h3, h4, h5, h6, h7⟩ := h
  exact xc_rkG X g hT hi h2 h1 h3 h4 h5 h6 h7
