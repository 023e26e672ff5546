/-! what was played: the methods -/
def sp_bqM (ce q t : Nat) (g g' : sp_G) (o : Option (Nat → Nat)) : Prop := (o = none → sp_ma g g') ∧ ∀ w, o = some w → ∃ g2, sp_ma g g2 ∧ sp_lm ce g2 g' t q 40 ∧ ∀ j, j < q → g2.1 ce j = nI (w j)
def sp_bqX (q t : Nat) (g g' : sp_G) (o : Option (Nat → Nat)) : Prop := (o = none → sp_xa g g') ∧ ∀ w, o = some w → ∃ g2, sp_xa g g2 ∧ sp_lx g2 g' t q q ∧ ∀ j, j < q → g2.1 38 j = nI (w j)
theorem sp_Rel.bq {g g1 g2 : sp_G} {ce q t : Nat} {o : Option (Nat → Nat)} (h : sp_Rel g) (ht : t < 6) (hq : q ≤ 6) (hx : sp_bqX q t g g1 o) (hm : sp_bqM ce q t g1 g2 o) : sp_Rel g2 := by
  cases o with
  | none => exact (h.xa (hx.1 rfl)).ma (hm.1 rfl)
  | some w =>
    obtain ⟨g3, a1, a2, a3⟩ := hx.2 w rfl
    obtain ⟨g4, b1, b2, b3⟩ := hm.2 w rfl
    exact h.lay ht hq a1 a2 a3 b1 b2 b3
def sp_fn (n : Nat) (f : Nat → Int32) : Nat → Int32 := fun j => if j < n then f j else 0
theorem sp_fnB {n : Nat} {f : Nat → Int32} (hn : n ≤ 6) (hks : sp_ks f 1000 n) : sp_oB n 999 0 (sp_fn n f) := by
  refine ⟨fun i hi => ?_, ⟨0, Nat.le_refl _, ?_⟩, fun i h1 h2 => ?_⟩
  · by_cases h : i < n
    · obtain ⟨a, a1, a2⟩ := hks i h
      exact ⟨a, by omega, by unfold sp_fn; rw [if_pos h]; exact a2⟩
    · exact ⟨0, by omega, by unfold sp_fn; rw [if_neg h]; rfl⟩
  · unfold sp_fn; rw [if_neg (by omega)]; rfl
  · unfold sp_fn; rw [if_neg (by omega)]
def sp_abx (g gg : sp_G) (f : Nat → Int32) (i : Nat) : Prop := sp_sx 43 44 g gg ∧ ∀ j, j < 8 → sp_sv gg 43 44 j = sp_fn i f j
theorem sp_abx.z {g : sp_G} {f : Nat → Int32} : sp_abx g (sp_sS g 43 44 (fun _ => nI 0)) f 0 := ⟨sp_sx.S, fun j hj => by
  rw [sp_sv_s (by decide) (by omega)]; unfold sp_fn; rw [if_neg (by omega)]; rfl⟩
theorem sp_abx.step {g gg : sp_G} {f : Nat → Int32} {i : Nat} (h : sp_abx g gg f i) (hi : i < 6) : sp_abx g (sp_wI gg 44 i (f i)) f (i + 1) := by
  obtain ⟨h1, h2⟩ := h
  refine ⟨⟨fun c c1 c2 => by rw [sp_wI_ne c2]; exact h1.1 c c1 c2, h1.2⟩, fun j hj => ?_⟩
  have h3 := h2 j hj
  unfold sp_sv at h3 ⊢
  unfold sp_fn at h3 ⊢
  by_cases e : j = i
  · subst e; rw [if_pos (by omega), sp_rd, if_pos ⟨rfl, rfl⟩, if_pos (by omega)]
  · by_cases e6 : j < 6
    · rw [if_pos e6] at h3 ⊢
      rw [sp_rd, if_neg (fun q => e q.2), h3]
      by_cases e2 : j < i
      · rw [if_pos e2, if_pos (by omega)]
      · rw [if_neg e2, if_neg (by omega)]
    · rw [if_neg e6] at h3 ⊢
      rw [sp_rd, if_neg (by omega), h3, if_neg (by omega), if_neg (by omega)]
def sp_abm (g gg : sp_G) (n : Nat) (f : Nat → Int32) (i : Nat) : Prop := sp_fx 1 g gg ∧ ∀ j, j < i → gg.1 75 (9 * 1 + j) = sp_fn n f j
theorem sp_abm.step {g gg : sp_G} {f : Nat → Int32} {n i : Nat} {x : Int32} (h : sp_abm g gg n f i) (hi : i < 9) (hx : x = sp_fn n f i) : sp_abm g (sp_wI gg 75 (9 * 1 + i) x) n f (i + 1) := by
  obtain ⟨h1, h2⟩ := h
  refine ⟨⟨fun c j hc => by rw [sp_rd, if_neg (by omega)]; exact h1.1 c j hc, h1.2⟩, fun j hj => ?_⟩
  rw [sp_rd]
  by_cases e : j = i
  · subst e; rw [if_pos ⟨rfl, rfl⟩]; exact hx
  · rw [if_neg (by omega)]; exact h2 j (by omega)
theorem sp_abm.f8 {g gg : sp_G} {f : Nat → Int32} {n : Nat} (h : sp_abm g gg n f 9) : sp_f8 gg 1 (sp_fn n f) := fun j hj => h.2 j (by omega)
set_option maxRecDepth 20000 in
theorem xc_sdw1 (X : sp_X) (g : sp_G) {r : Nat} (hr : r < 6) (hz : g.1 9 r = -1) : sp_Ct X 2 101 [.ref 0, .int (nI r)] g (sp_Fi (nI 1) g) := by
  refine sp_walkN (n := 5) sq_p_101 sq_l_101 (Nat.le_of_ble_eq_true rfl) (fun a hA => ?_)
  show sp_Ev X a 101 0 [.ref 0, .int (nI r), .null, .null, .null] [] g
  refine sr_aload_n hA si_101_0 rfl ?_
  refine sr_getR (r := 1) hA si_101_1 sf_101_14 (by decide) (by decide) rfl rfl rfl ?_
  refine sr_iload_n hA si_101_4 rfl ?_
  refine sr_VFi (c := 1) (ci := 5) (as := [.int (nI r)]) (st := []) hA si_101_5 sv_16 sk_101_99 (xc_thereR0 X g (by omega) hz) (by omega) rfl (by decide) (by decide) rfl sq_c_16 rfl (Nat.le_of_ble_eq_true rfl) ?_
  refine sr_if_neN (tgt := 13) hA si_101_8 (by decide) (by omega) (fun c1 => absurd c1 (by omega)) (fun c1 => ?_)
  refine sr_iconst (v := nI 1) hA si_101_11 (by decide) ?_
  exact sr_iretF hA si_101_12 sq_r_101 rfl rfl
set_option maxRecDepth 20000 in
theorem xc_sdw5 (X : sp_X) (g : sp_G) {r : Nat} (hr : r < 6) {z : Nat} (hz : g.1 9 r = nI z) (hzb : z ≤ 40) {n : Nat} (hn : g.1 18 3 = nI n) (hb : n ≤ 6) (hzn : z ≠ n) : sp_Ct X 2 101 [.ref 0, .int (nI r)] g (sp_Fi (nI 5) g) := by
  refine sp_walkN (n := 5) sq_p_101 sq_l_101 (Nat.le_of_ble_eq_true rfl) (fun a hA => ?_)
  show sp_Ev X a 101 0 [.ref 0, .int (nI r), .null, .null, .null] [] g
  refine sr_aload_n hA si_101_0 rfl ?_
  refine sr_getR (r := 1) hA si_101_1 sf_101_14 (by decide) (by decide) rfl rfl rfl ?_
  refine sr_iload_n hA si_101_4 rfl ?_
  refine sr_VFi (c := 1) (ci := 5) (as := [.int (nI r)]) (st := []) hA si_101_5 sv_16 sk_101_99 (xc_thereR1 X g (by omega) hz (by omega)) (by omega) rfl (by decide) (by decide) rfl sq_c_16 rfl (Nat.le_of_ble_eq_true rfl) ?_
  refine sr_if_neN (tgt := 13) hA si_101_8 (by decide) (by omega) (fun c1 => ?_) (fun c1 => absurd c1 (by omega))
  refine sr_aload_n hA si_101_13 rfl ?_
  refine sr_getR (r := 1) hA si_101_14 sf_101_14 (by decide) (by decide) rfl rfl rfl ?_
  refine sr_iload_n hA si_101_17 rfl ?_
  refine sr_VFi (c := 1) (ci := 5) (as := [.int (nI r)]) (st := []) hA si_101_18 sv_26 sk_101_114 (xc_sizeR X g (z := nI z) (by omega) hz) (by omega) rfl (by decide) (by decide) rfl sq_c_26 rfl (Nat.le_of_ble_eq_true rfl) ?_
  refine sr_istore_n (ls1 := [.ref 0, .int (nI r), .int (nI z), .null, .null]) hA si_101_21 rfl (by rw [sq_l_101]; decide) rfl ?_
  refine sr_iload_n hA si_101_22 rfl ?_
  refine sr_aload_n hA si_101_23 rfl ?_
  refine sr_getR (r := 18) hA si_101_24 sf_101_32 (by decide) (by decide) rfl rfl rfl ?_
  refine sr_getIv (v := nI n) hA si_101_27 sf_101_145 (by decide) (by decide) rfl (by decide) hn ?_
  refine sr_icmp_eqN (tgt := 35) hA si_101_30 (by decide) (by omega) (by omega) (fun c2 => absurd c2 (by omega)) (fun c2 => ?_)
  refine sr_iconst (v := nI 5) hA si_101_33 (by decide) ?_
  exact sr_iretF hA si_101_34 sq_r_101 rfl rfl
set_option maxRecDepth 20000 in
theorem xl_sdw0 {X : sp_X} {ac : sp_Ac} {g : sp_G} {r : Nat} (hr : r < 6) {n : Nat} (hz : g.1 9 r = nI n) (hn : g.1 18 3 = nI n) (hb : n ≤ 6) (hks : sp_ks (fun i => g.1 (3 + r) i) 1000 n) (hA : sp_Act X 101 2 (sp_Fi (nI 0) g) ac) : ∀ (m : Nat) (i : Nat), i + m = n → sp_Ev X ac 101 37 [.ref 0, .int (nI r), .int (nI n), .int (nI i), .null] [] g := by
  intro m
  induction m with
  | zero =>
    intro i h0_
    refine sr_iload_n hA si_101_37 rfl ?_
    refine sr_iload_n hA si_101_38 rfl ?_
    refine sr_icmp_geN (tgt := 74) hA si_101_39 (by decide) (by omega) (by omega) (fun c1 => ?_) (fun c1 => absurd c1 (by omega))
    refine sr_iconst (v := nI 0) hA si_101_74 (by decide) ?_
    exact sr_iretF hA si_101_75 sq_r_101 rfl rfl
  | succ m ih =>
    intro i h0_
    obtain ⟨a, ha, ea⟩ := hks i (by omega)
    refine sr_iload_n hA si_101_37 rfl ?_
    refine sr_iload_n hA si_101_38 rfl ?_
    refine sr_icmp_geN (tgt := 74) hA si_101_39 (by decide) (by omega) (by omega) (fun c1 => absurd c1 (by omega)) (fun c1 => ?_)
    refine sr_aload_n hA si_101_42 rfl ?_
    refine sr_getR (r := 1) hA si_101_43 sf_101_14 (by decide) (by decide) rfl rfl rfl ?_
    refine sr_iload_n hA si_101_46 rfl ?_
    refine sr_iload_n hA si_101_47 rfl ?_
    refine sr_VFi (c := 1) (ci := 5) (as := [.int (nI r), .int (nI i)]) (st := []) hA si_101_48 sv_18 sk_101_88 (xc_getR X g (v := nI a) (by omega) (by omega) ea) (by omega) rfl (by decide) (by decide) rfl sq_c_18 rfl (Nat.le_of_ble_eq_true rfl) ?_
    refine sr_istore (ls1 := [.ref 0, .int (nI r), .int (nI n), .int (nI i), .int (nI a)]) hA si_101_51 (by rw [sq_l_101]; decide) rfl ?_
    refine sr_iload hA si_101_53 rfl ?_
    refine sr_if_ltN (tgt := 66) hA si_101_55 (by decide) (by omega) ?_
    refine sr_iload hA si_101_58 rfl ?_
    refine sr_sipush (v := nI 999) hA si_101_60 (by decide) ?_
    refine sr_icmp_leN (tgt := 68) hA si_101_63 (by decide) (by omega) (by omega) (fun c3 => ?_) (fun c3 => absurd c3 (by omega))
    refine sr_iincN (x := i) (y := 1) (ls1 := [.ref 0, .int (nI r), .int (nI n), .int (nI (i + 1)), .int (nI a)]) hA si_101_68 rfl rfl (by rw [sq_l_101]; decide) rfl ?_
    refine sr_goto (tgt := 37) hA si_101_71 (by decide) ?_
    refine sr_fg (ls1 := [.ref 0, .int (nI r), .int (nI n), .int (nI (i + 1)), .null]) ⟨Or.inr rfl, Or.inr rfl, Or.inr rfl, Or.inr rfl, Or.inl rfl, trivial⟩ ?_
    exact ih (i + 1) (by omega)
set_option maxRecDepth 20000 in
theorem xc_sdw0 (X : sp_X) (g : sp_G) {r : Nat} (hr : r < 6) {n : Nat} (hz : g.1 9 r = nI n) (hn : g.1 18 3 = nI n) (hb : n ≤ 6) (hks : sp_ks (fun i => g.1 (3 + r) i) 1000 n) : sp_Ct X 2 101 [.ref 0, .int (nI r)] g (sp_Fi (nI 0) g) := by
  refine sp_walkN (n := 5) sq_p_101 sq_l_101 (Nat.le_of_ble_eq_true rfl) (fun ac hA => ?_)
  show sp_Ev X ac 101 0 [.ref 0, .int (nI r), .null, .null, .null] [] g
  refine sr_aload_n hA si_101_0 rfl ?_
  refine sr_getR (r := 1) hA si_101_1 sf_101_14 (by decide) (by decide) rfl rfl rfl ?_
  refine sr_iload_n hA si_101_4 rfl ?_
  refine sr_VFi (c := 1) (ci := 5) (as := [.int (nI r)]) (st := []) hA si_101_5 sv_16 sk_101_99 (xc_thereR1 X g (by omega) hz (by omega)) (by omega) rfl (by decide) (by decide) rfl sq_c_16 rfl (Nat.le_of_ble_eq_true rfl) ?_
  refine sr_if_neN (tgt := 13) hA si_101_8 (by decide) (by omega) (fun c1 => ?_) (fun c1 => absurd c1 (by omega))
  refine sr_aload_n hA si_101_13 rfl ?_
  refine sr_getR (r := 1) hA si_101_14 sf_101_14 (by decide) (by decide) rfl rfl rfl ?_
  refine sr_iload_n hA si_101_17 rfl ?_
  refine sr_VFi (c := 1) (ci := 5) (as := [.int (nI r)]) (st := []) hA si_101_18 sv_26 sk_101_114 (xc_sizeR X g (z := nI n) (by omega) hz) (by omega) rfl (by decide) (by decide) rfl sq_c_26 rfl (Nat.le_of_ble_eq_true rfl) ?_
  refine sr_istore_n (ls1 := [.ref 0, .int (nI r), .int (nI n), .null, .null]) hA si_101_21 rfl (by rw [sq_l_101]; decide) rfl ?_
  refine sr_iload_n hA si_101_22 rfl ?_
  refine sr_aload_n hA si_101_23 rfl ?_
  refine sr_getR (r := 18) hA si_101_24 sf_101_32 (by decide) (by decide) rfl rfl rfl ?_
  refine sr_getIv (v := nI n) hA si_101_27 sf_101_145 (by decide) (by decide) rfl (by decide) hn ?_
  refine sr_icmp_eqN (tgt := 35) hA si_101_30 (by decide) (by omega) (by omega) (fun c2 => ?_) (fun c2 => absurd c2 (by omega))
  refine sr_iconst (v := nI 0) hA si_101_35 (by decide) ?_
  refine sr_istore_n (ls1 := [.ref 0, .int (nI r), .int (nI n), .int (nI 0), .null]) hA si_101_36 rfl (by rw [sq_l_101]; decide) rfl ?_
  exact xl_sdw0 hr hz hn hb hks hA n 0 (by omega)
set_option maxRecDepth 20000 in
theorem xl_sdw3M {X : sp_X} {ac : sp_Ac} {g : sp_G} {r : Nat} (hr : r < 6) {n : Nat} (hz : g.1 9 r = nI n) (hn : g.1 18 3 = nI n) (hb : n ≤ 6) {b : Nat} (hbz : b < n) (hks : sp_ks (fun i => g.1 (3 + r) i) 1000 b) {x : Int32} (hx : x < 0) (ex : g.1 (3 + r) b = x) (hA : sp_Act X 101 2 (sp_Fi (nI 3) g) ac) : ∀ (m : Nat) (i : Nat), i + m = b → sp_Ev X ac 101 37 [.ref 0, .int (nI r), .int (nI n), .int (nI i), .null] [] g := by
  intro m
  induction m with
  | zero =>
    intro i h0_
    refine sr_iload_n hA si_101_37 rfl ?_
    refine sr_iload_n hA si_101_38 rfl ?_
    refine sr_icmp_geN (tgt := 74) hA si_101_39 (by decide) (by omega) (by omega) (fun c1 => absurd c1 (by omega)) (fun c1 => ?_)
    refine sr_aload_n hA si_101_42 rfl ?_
    refine sr_getR (r := 1) hA si_101_43 sf_101_14 (by decide) (by decide) rfl rfl rfl ?_
    refine sr_iload_n hA si_101_46 rfl ?_
    refine sr_iload_n hA si_101_47 rfl ?_
    refine sr_VFi (c := 1) (ci := 5) (as := [.int (nI r), .int (nI i)]) (st := []) hA si_101_48 sv_18 sk_101_88 (xc_getR X g (v := x) (by omega) (by omega) (by rw [show i = b by omega]; exact ex)) (by omega) rfl (by decide) (by decide) rfl sq_c_18 rfl (Nat.le_of_ble_eq_true rfl) ?_
    refine sr_istore (ls1 := [.ref 0, .int (nI r), .int (nI n), .int (nI i), .int x]) hA si_101_51 (by rw [sq_l_101]; decide) rfl ?_
    refine sr_iload hA si_101_53 rfl ?_
    refine sr_if_lt (tgt := 66) hA si_101_55 (by decide) (fun c2 => ?_) (fun c2 => absurd hx c2)
    refine sr_iconst (v := nI 3) hA si_101_66 (by decide) ?_
    exact sr_iretF hA si_101_67 sq_r_101 rfl rfl
  | succ m ih =>
    intro i h0_
    obtain ⟨a, ha, ea⟩ := hks i (by omega)
    refine sr_iload_n hA si_101_37 rfl ?_
    refine sr_iload_n hA si_101_38 rfl ?_
    refine sr_icmp_geN (tgt := 74) hA si_101_39 (by decide) (by omega) (by omega) (fun c1 => absurd c1 (by omega)) (fun c1 => ?_)
    refine sr_aload_n hA si_101_42 rfl ?_
    refine sr_getR (r := 1) hA si_101_43 sf_101_14 (by decide) (by decide) rfl rfl rfl ?_
    refine sr_iload_n hA si_101_46 rfl ?_
    refine sr_iload_n hA si_101_47 rfl ?_
    refine sr_VFi (c := 1) (ci := 5) (as := [.int (nI r), .int (nI i)]) (st := []) hA si_101_48 sv_18 sk_101_88 (xc_getR X g (v := nI a) (by omega) (by omega) ea) (by omega) rfl (by decide) (by decide) rfl sq_c_18 rfl (Nat.le_of_ble_eq_true rfl) ?_
    refine sr_istore (ls1 := [.ref 0, .int (nI r), .int (nI n), .int (nI i), .int (nI a)]) hA si_101_51 (by rw [sq_l_101]; decide) rfl ?_
    refine sr_iload hA si_101_53 rfl ?_
    refine sr_if_ltN (tgt := 66) hA si_101_55 (by decide) (by omega) ?_
    refine sr_iload hA si_101_58 rfl ?_
    refine sr_sipush (v := nI 999) hA si_101_60 (by decide) ?_
    refine sr_icmp_leN (tgt := 68) hA si_101_63 (by decide) (by omega) (by omega) (fun c3 => ?_) (fun c3 => absurd c3 (by omega))
    refine sr_iincN (x := i) (y := 1) (ls1 := [.ref 0, .int (nI r), .int (nI n), .int (nI (i + 1)), .int (nI a)]) hA si_101_68 rfl rfl (by rw [sq_l_101]; decide) rfl ?_
    refine sr_goto (tgt := 37) hA si_101_71 (by decide) ?_
    refine sr_fg (ls1 := [.ref 0, .int (nI r), .int (nI n), .int (nI (i + 1)), .null]) ⟨Or.inr rfl, Or.inr rfl, Or.inr rfl, Or.inr rfl, Or.inl rfl, trivial⟩ ?_
    exact ih (i + 1) (by omega)
set_option maxRecDepth 20000 in
theorem xc_sdw3M (X : sp_X) (g : sp_G) {r : Nat} (hr : r < 6) {n : Nat} (hz : g.1 9 r = nI n) (hn : g.1 18 3 = nI n) (hb : n ≤ 6) {b : Nat} (hbz : b < n) (hks : sp_ks (fun i => g.1 (3 + r) i) 1000 b) {x : Int32} (hx : x < 0) (ex : g.1 (3 + r) b = x) : sp_Ct X 2 101 [.ref 0, .int (nI r)] g (sp_Fi (nI 3) g) := by
  refine sp_walkN (n := 5) sq_p_101 sq_l_101 (Nat.le_of_ble_eq_true rfl) (fun ac hA => ?_)
  show sp_Ev X ac 101 0 [.ref 0, .int (nI r), .null, .null, .null] [] g
  refine sr_aload_n hA si_101_0 rfl ?_
  refine sr_getR (r := 1) hA si_101_1 sf_101_14 (by decide) (by decide) rfl rfl rfl ?_
  refine sr_iload_n hA si_101_4 rfl ?_
  refine sr_VFi (c := 1) (ci := 5) (as := [.int (nI r)]) (st := []) hA si_101_5 sv_16 sk_101_99 (xc_thereR1 X g (by omega) hz (by omega)) (by omega) rfl (by decide) (by decide) rfl sq_c_16 rfl (Nat.le_of_ble_eq_true rfl) ?_
  refine sr_if_neN (tgt := 13) hA si_101_8 (by decide) (by omega) (fun c1 => ?_) (fun c1 => absurd c1 (by omega))
  refine sr_aload_n hA si_101_13 rfl ?_
  refine sr_getR (r := 1) hA si_101_14 sf_101_14 (by decide) (by decide) rfl rfl rfl ?_
  refine sr_iload_n hA si_101_17 rfl ?_
  refine sr_VFi (c := 1) (ci := 5) (as := [.int (nI r)]) (st := []) hA si_101_18 sv_26 sk_101_114 (xc_sizeR X g (z := nI n) (by omega) hz) (by omega) rfl (by decide) (by decide) rfl sq_c_26 rfl (Nat.le_of_ble_eq_true rfl) ?_
  refine sr_istore_n (ls1 := [.ref 0, .int (nI r), .int (nI n), .null, .null]) hA si_101_21 rfl (by rw [sq_l_101]; decide) rfl ?_
  refine sr_iload_n hA si_101_22 rfl ?_
  refine sr_aload_n hA si_101_23 rfl ?_
  refine sr_getR (r := 18) hA si_101_24 sf_101_32 (by decide) (by decide) rfl rfl rfl ?_
  refine sr_getIv (v := nI n) hA si_101_27 sf_101_145 (by decide) (by decide) rfl (by decide) hn ?_
  refine sr_icmp_eqN (tgt := 35) hA si_101_30 (by decide) (by omega) (by omega) (fun c2 => ?_) (fun c2 => absurd c2 (by omega))
  refine sr_iconst (v := nI 0) hA si_101_35 (by decide) ?_
  refine sr_istore_n (ls1 := [.ref 0, .int (nI r), .int (nI n), .int (nI 0), .null]) hA si_101_36 rfl (by rw [sq_l_101]; decide) rfl ?_
  exact xl_sdw3M hr hz hn hb hbz hks hx ex hA b 0 (by omega)
set_option maxRecDepth 20000 in
theorem xl_sdw3H {X : sp_X} {ac : sp_Ac} {g : sp_G} {r : Nat} (hr : r < 6) {n : Nat} (hz : g.1 9 r = nI n) (hn : g.1 18 3 = nI n) (hb : n ≤ 6) {b : Nat} (hbz : b < n) (hks : sp_ks (fun i => g.1 (3 + r) i) 1000 b) {e : Nat} (hen : 1000 ≤ e) (heb : e < 2 ^ 31) (ex : g.1 (3 + r) b = nI e) (hA : sp_Act X 101 2 (sp_Fi (nI 3) g) ac) : ∀ (m : Nat) (i : Nat), i + m = b → sp_Ev X ac 101 37 [.ref 0, .int (nI r), .int (nI n), .int (nI i), .null] [] g := by
  intro m
  induction m with
  | zero =>
    intro i h0_
    refine sr_iload_n hA si_101_37 rfl ?_
    refine sr_iload_n hA si_101_38 rfl ?_
    refine sr_icmp_geN (tgt := 74) hA si_101_39 (by decide) (by omega) (by omega) (fun c1 => absurd c1 (by omega)) (fun c1 => ?_)
    refine sr_aload_n hA si_101_42 rfl ?_
    refine sr_getR (r := 1) hA si_101_43 sf_101_14 (by decide) (by decide) rfl rfl rfl ?_
    refine sr_iload_n hA si_101_46 rfl ?_
    refine sr_iload_n hA si_101_47 rfl ?_
    refine sr_VFi (c := 1) (ci := 5) (as := [.int (nI r), .int (nI i)]) (st := []) hA si_101_48 sv_18 sk_101_88 (xc_getR X g (v := nI e) (by omega) (by omega) (by rw [show i = b by omega]; exact ex)) (by omega) rfl (by decide) (by decide) rfl sq_c_18 rfl (Nat.le_of_ble_eq_true rfl) ?_
    refine sr_istore (ls1 := [.ref 0, .int (nI r), .int (nI n), .int (nI i), .int (nI e)]) hA si_101_51 (by rw [sq_l_101]; decide) rfl ?_
    refine sr_iload hA si_101_53 rfl ?_
    refine sr_if_ltN (tgt := 66) hA si_101_55 (by decide) (by omega) ?_
    refine sr_iload hA si_101_58 rfl ?_
    refine sr_sipush (v := nI 999) hA si_101_60 (by decide) ?_
    refine sr_icmp_leN (tgt := 68) hA si_101_63 (by decide) (by omega) (by omega) (fun c3 => absurd c3 (by omega)) (fun c3 => ?_)
    refine sr_iconst (v := nI 3) hA si_101_66 (by decide) ?_
    exact sr_iretF hA si_101_67 sq_r_101 rfl rfl
  | succ m ih =>
    intro i h0_
    obtain ⟨a, ha, ea⟩ := hks i (by omega)
    refine sr_iload_n hA si_101_37 rfl ?_
    refine sr_iload_n hA si_101_38 rfl ?_
    refine sr_icmp_geN (tgt := 74) hA si_101_39 (by decide) (by omega) (by omega) (fun c1 => absurd c1 (by omega)) (fun c1 => ?_)
    refine sr_aload_n hA si_101_42 rfl ?_
    refine sr_getR (r := 1) hA si_101_43 sf_101_14 (by decide) (by decide) rfl rfl rfl ?_
    refine sr_iload_n hA si_101_46 rfl ?_
    refine sr_iload_n hA si_101_47 rfl ?_
    refine sr_VFi (c := 1) (ci := 5) (as := [.int (nI r), .int (nI i)]) (st := []) hA si_101_48 sv_18 sk_101_88 (xc_getR X g (v := nI a) (by omega) (by omega) ea) (by omega) rfl (by decide) (by decide) rfl sq_c_18 rfl (Nat.le_of_ble_eq_true rfl) ?_
    refine sr_istore (ls1 := [.ref 0, .int (nI r), .int (nI n), .int (nI i), .int (nI a)]) hA si_101_51 (by rw [sq_l_101]; decide) rfl ?_
    refine sr_iload hA si_101_53 rfl ?_
    refine sr_if_ltN (tgt := 66) hA si_101_55 (by decide) (by omega) ?_
    refine sr_iload hA si_101_58 rfl ?_
    refine sr_sipush (v := nI 999) hA si_101_60 (by decide) ?_
    refine sr_icmp_leN (tgt := 68) hA si_101_63 (by decide) (by omega) (by omega) (fun c3 => ?_) (fun c3 => absurd c3 (by omega))
    refine sr_iincN (x := i) (y := 1) (ls1 := [.ref 0, .int (nI r), .int (nI n), .int (nI (i + 1)), .int (nI a)]) hA si_101_68 rfl rfl (by rw [sq_l_101]; decide) rfl ?_
    refine sr_goto (tgt := 37) hA si_101_71 (by decide) ?_
    refine sr_fg (ls1 := [.ref 0, .int (nI r), .int (nI n), .int (nI (i + 1)), .null]) ⟨Or.inr rfl, Or.inr rfl, Or.inr rfl, Or.inr rfl, Or.inl rfl, trivial⟩ ?_
    exact ih (i + 1) (by omega)
set_option maxRecDepth 20000 in
theorem xc_sdw3H (X : sp_X) (g : sp_G) {r : Nat} (hr : r < 6) {n : Nat} (hz : g.1 9 r = nI n) (hn : g.1 18 3 = nI n) (hb : n ≤ 6) {b : Nat} (hbz : b < n) (hks : sp_ks (fun i => g.1 (3 + r) i) 1000 b) {e : Nat} (hen : 1000 ≤ e) (heb : e < 2 ^ 31) (ex : g.1 (3 + r) b = nI e) : sp_Ct X 2 101 [.ref 0, .int (nI r)] g (sp_Fi (nI 3) g) := by
  refine sp_walkN (n := 5) sq_p_101 sq_l_101 (Nat.le_of_ble_eq_true rfl) (fun ac hA => ?_)
  show sp_Ev X ac 101 0 [.ref 0, .int (nI r), .null, .null, .null] [] g
  refine sr_aload_n hA si_101_0 rfl ?_
  refine sr_getR (r := 1) hA si_101_1 sf_101_14 (by decide) (by decide) rfl rfl rfl ?_
  refine sr_iload_n hA si_101_4 rfl ?_
  refine sr_VFi (c := 1) (ci := 5) (as := [.int (nI r)]) (st := []) hA si_101_5 sv_16 sk_101_99 (xc_thereR1 X g (by omega) hz (by omega)) (by omega) rfl (by decide) (by decide) rfl sq_c_16 rfl (Nat.le_of_ble_eq_true rfl) ?_
  refine sr_if_neN (tgt := 13) hA si_101_8 (by decide) (by omega) (fun c1 => ?_) (fun c1 => absurd c1 (by omega))
  refine sr_aload_n hA si_101_13 rfl ?_
  refine sr_getR (r := 1) hA si_101_14 sf_101_14 (by decide) (by decide) rfl rfl rfl ?_
  refine sr_iload_n hA si_101_17 rfl ?_
  refine sr_VFi (c := 1) (ci := 5) (as := [.int (nI r)]) (st := []) hA si_101_18 sv_26 sk_101_114 (xc_sizeR X g (z := nI n) (by omega) hz) (by omega) rfl (by decide) (by decide) rfl sq_c_26 rfl (Nat.le_of_ble_eq_true rfl) ?_
  refine sr_istore_n (ls1 := [.ref 0, .int (nI r), .int (nI n), .null, .null]) hA si_101_21 rfl (by rw [sq_l_101]; decide) rfl ?_
  refine sr_iload_n hA si_101_22 rfl ?_
  refine sr_aload_n hA si_101_23 rfl ?_
  refine sr_getR (r := 18) hA si_101_24 sf_101_32 (by decide) (by decide) rfl rfl rfl ?_
  refine sr_getIv (v := nI n) hA si_101_27 sf_101_145 (by decide) (by decide) rfl (by decide) hn ?_
  refine sr_icmp_eqN (tgt := 35) hA si_101_30 (by decide) (by omega) (by omega) (fun c2 => ?_) (fun c2 => absurd c2 (by omega))
  refine sr_iconst (v := nI 0) hA si_101_35 (by decide) ?_
  refine sr_istore_n (ls1 := [.ref 0, .int (nI r), .int (nI n), .int (nI 0), .null]) hA si_101_36 rfl (by rw [sq_l_101]; decide) rfl ?_
  exact xl_sdw3H hr hz hn hb hbz hks hen heb ex hA b 0 (by omega)
theorem xc_sdw3 (X : sp_X) (g : sp_G) {r n b : Nat} (hr : r < 6) (hz : g.1 9 r = nI n) (hn : g.1 18 3 = nI n) (hb : n ≤ 6) (hbz : b < n) (hks : sp_ks (fun i => g.1 (3 + r) i) 1000 b) (hbk : sp_bk (g.1 (3 + r) b) 1000) : sp_Ct X 2 101 [.ref 0, .int (nI r)] g (sp_Fi (nI 3) g) := by
  rcases hbk with hx | ⟨e, h1, h2, h3⟩
  · exact xc_sdw3M X g hr hz hn hb hbz hks hx rfl
  · exact xc_sdw3H X g hr hz hn hb hbz hks h1 h2 h3
set_option maxRecDepth 20000 in
theorem xb_cwt (X : sp_X) (g : sp_G) {n q A Bq : Nat} {K T P v u : Nat → Int32} (hq4 : q ≤ 4) (hK : sp_KX n K T P g) (hv : sp_h8 g 43 44 v) (hB : sp_oB n A Bq v) (hAb : A < 2 ^ 19) (hBb : Bq < 2 ^ 19) (hu : sp_h8 g 41 42 u) : sp_Ct X (q + 6) 102 [.ref 17, .ref 43, .ref 41, .int (nI q)] g (sp_Ri (fun x g' => x = nI (sp_go n K T P (sp_lb n u) q 0 v (fun _ => 0) (0, none)).1 ∧ sp_xa g g' ∧ sp_qx q g' (sp_go n K T P (sp_lb n u) q 0 v (fun _ => 0) (0, none)).2)) := by
  refine sp_walkN (n := 4) sq_p_102 sq_l_102 (Nat.le_of_ble_eq_true rfl) (fun ac hA => ?_)
  show sp_Ev X ac 102 0 [.ref 17, .ref 43, .ref 41, .int (nI q)] [] g
  refine sr_aload_n hA si_102_0 rfl ?_
  refine sr_aload_n hA si_102_1 rfl ?_
  refine sr_VRv (c := 17) (ci := 4) (as := [.ref 43]) (st := []) hA si_102_2 sv_78 sk_102_77 (xb_begin X g sp_sd43 (by unfold sp_ap; omega) hv) (by omega) rfl (by decide) (by decide) rfl sq_c_78 rfl (Nat.le_of_ble_eq_true rfl) (fun g1 q1 => ?_)
  refine sr_aload_n hA si_102_5 rfl ?_
  refine sr_iconst (v := nI 0) hA si_102_6 (by decide) ?_
  refine sr_iload_n hA si_102_7 rfl ?_
  refine sr_aload_n hA si_102_8 rfl ?_
  refine sr_VRi (c := 17) (ci := 4) (as := [.int (nI 0), .int (nI q), .ref 41]) (st := []) hA si_102_9 sv_103 sk_102_133 (xb_to X (u := u) hq4 q 0 A Bq v (fun _ => 0) g1 (0, none) (by omega) (by omega) (by omega) (hK.xa q1.xa) q1.2.2.1 hB (fun j hj => absurd hj (by omega)) (hu.xa q1.xa (by unfold sp_xs; omega) (by unfold sp_xs; omega)) q1.2.2.2.2.1) (by omega) rfl (by decide) (by decide) rfl sq_c_103 rfl (Nat.le_of_ble_eq_true rfl) (fun xv g2 q2 => ?_)
  obtain ⟨⟨k2, exv, hk2⟩, hl2, hr2⟩ := q2
  subst exv
  exact sr_iretR hA si_102_12 sq_r_102 ⟨by rw [hk2]; show nI k2 = nI (0 + k2); rw [Nat.zero_add], q1.xa.tr hl2.xa, hr2⟩
set_option maxRecDepth 20000 in
theorem xc_back_a (X : sp_X) (g : sp_G) {r : Int32} (hr : r < 0) (q : Int32) (t : Int32) : sp_Ct X 9 100 [.ref 0, .int r, .int q, .int t] g (sp_Fi (-1) g) := by
  refine sp_walkN (n := 6) sq_p_100 sq_l_100 (Nat.le_of_ble_eq_true rfl) (fun a hA => ?_)
  show sp_Ev X a 100 0 [.ref 0, .int r, .int q, .int t, .null, .null] [] g
  refine sr_aload_n hA si_100_0 rfl ?_
  refine sr_getR (r := 1) hA si_100_1 sf_100_14 (by decide) (by decide) rfl rfl rfl ?_
  refine sr_iload_n hA si_100_4 rfl ?_
  refine sr_VFi (c := 1) (ci := 5) (as := [.int r]) (st := []) hA si_100_5 sv_11 sk_100_72 (xc_numRM X g hr) (by omega) rfl (by decide) (by decide) rfl sq_c_11 rfl (Nat.le_of_ble_eq_true rfl) ?_
  refine sr_if_eqN (tgt := 31) hA si_100_8 (by decide) (by omega) (fun c1 => ?_) (fun c1 => absurd c1 (by omega))
  refine sr_iconst (v := (-1)) hA si_100_31 (by decide) ?_
  exact sr_iretF hA si_100_32 sq_r_100 rfl rfl
set_option maxRecDepth 20000 in
theorem xc_back_b (X : sp_X) (g : sp_G) {r : Nat} (hr : 6 ≤ r) (hrb : r < 2 ^ 31) (q : Int32) (t : Int32) : sp_Ct X 9 100 [.ref 0, .int (nI r), .int q, .int t] g (sp_Fi (-1) g) := by
  refine sp_walkN (n := 6) sq_p_100 sq_l_100 (Nat.le_of_ble_eq_true rfl) (fun a hA => ?_)
  show sp_Ev X a 100 0 [.ref 0, .int (nI r), .int q, .int t, .null, .null] [] g
  refine sr_aload_n hA si_100_0 rfl ?_
  refine sr_getR (r := 1) hA si_100_1 sf_100_14 (by decide) (by decide) rfl rfl rfl ?_
  refine sr_iload_n hA si_100_4 rfl ?_
  refine sr_VFi (c := 1) (ci := 5) (as := [.int (nI r)]) (st := []) hA si_100_5 sv_11 sk_100_72 (xc_numRH X g (by omega) (by omega)) (by omega) rfl (by decide) (by decide) rfl sq_c_11 rfl (Nat.le_of_ble_eq_true rfl) ?_
  refine sr_if_eqN (tgt := 31) hA si_100_8 (by decide) (by omega) (fun c1 => ?_) (fun c1 => absurd c1 (by omega))
  refine sr_iconst (v := (-1)) hA si_100_31 (by decide) ?_
  exact sr_iretF hA si_100_32 sq_r_100 rfl rfl
set_option maxRecDepth 20000 in
theorem xc_back_c (X : sp_X) (g : sp_G) {r : Nat} (hr : r < 6) (q : Int32) {t : Int32} (ht : t < 0) : sp_Ct X 9 100 [.ref 0, .int (nI r), .int q, .int t] g (sp_Fi (-1) g) := by
  refine sp_walkN (n := 6) sq_p_100 sq_l_100 (Nat.le_of_ble_eq_true rfl) (fun a hA => ?_)
  show sp_Ev X a 100 0 [.ref 0, .int (nI r), .int q, .int t, .null, .null] [] g
  refine sr_aload_n hA si_100_0 rfl ?_
  refine sr_getR (r := 1) hA si_100_1 sf_100_14 (by decide) (by decide) rfl rfl rfl ?_
  refine sr_iload_n hA si_100_4 rfl ?_
  refine sr_VFi (c := 1) (ci := 5) (as := [.int (nI r)]) (st := []) hA si_100_5 sv_11 sk_100_72 (xc_numR1 X g (by omega)) (by omega) rfl (by decide) (by decide) rfl sq_c_11 rfl (Nat.le_of_ble_eq_true rfl) ?_
  refine sr_if_eqN (tgt := 31) hA si_100_8 (by decide) (by omega) (fun c1 => absurd c1 (by omega)) (fun c1 => ?_)
  refine sr_aload_n hA si_100_11 rfl ?_
  refine sr_getR (r := 1) hA si_100_12 sf_100_14 (by decide) (by decide) rfl rfl rfl ?_
  refine sr_iload_n hA si_100_15 rfl ?_
  refine sr_VFi (c := 1) (ci := 5) (as := [.int t]) (st := []) hA si_100_16 sv_11 sk_100_72 (xc_numRM X g ht) (by omega) rfl (by decide) (by decide) rfl sq_c_11 rfl (Nat.le_of_ble_eq_true rfl) ?_
  refine sr_if_eqN (tgt := 31) hA si_100_19 (by decide) (by omega) (fun c2 => ?_) (fun c2 => absurd c2 (by omega))
  refine sr_iconst (v := (-1)) hA si_100_31 (by decide) ?_
  exact sr_iretF hA si_100_32 sq_r_100 rfl rfl
set_option maxRecDepth 20000 in
theorem xc_back_d (X : sp_X) (g : sp_G) {r : Nat} (hr : r < 6) (q : Int32) {t : Nat} (ht : 6 ≤ t) (htb : t < 2 ^ 31) : sp_Ct X 9 100 [.ref 0, .int (nI r), .int q, .int (nI t)] g (sp_Fi (-1) g) := by
  refine sp_walkN (n := 6) sq_p_100 sq_l_100 (Nat.le_of_ble_eq_true rfl) (fun a hA => ?_)
  show sp_Ev X a 100 0 [.ref 0, .int (nI r), .int q, .int (nI t), .null, .null] [] g
  refine sr_aload_n hA si_100_0 rfl ?_
  refine sr_getR (r := 1) hA si_100_1 sf_100_14 (by decide) (by decide) rfl rfl rfl ?_
  refine sr_iload_n hA si_100_4 rfl ?_
  refine sr_VFi (c := 1) (ci := 5) (as := [.int (nI r)]) (st := []) hA si_100_5 sv_11 sk_100_72 (xc_numR1 X g (by omega)) (by omega) rfl (by decide) (by decide) rfl sq_c_11 rfl (Nat.le_of_ble_eq_true rfl) ?_
  refine sr_if_eqN (tgt := 31) hA si_100_8 (by decide) (by omega) (fun c1 => absurd c1 (by omega)) (fun c1 => ?_)
  refine sr_aload_n hA si_100_11 rfl ?_
  refine sr_getR (r := 1) hA si_100_12 sf_100_14 (by decide) (by decide) rfl rfl rfl ?_
  refine sr_iload_n hA si_100_15 rfl ?_
  refine sr_VFi (c := 1) (ci := 5) (as := [.int (nI t)]) (st := []) hA si_100_16 sv_11 sk_100_72 (xc_numRH X g (by omega) (by omega)) (by omega) rfl (by decide) (by decide) rfl sq_c_11 rfl (Nat.le_of_ble_eq_true rfl) ?_
  refine sr_if_eqN (tgt := 31) hA si_100_19 (by decide) (by omega) (fun c2 => ?_) (fun c2 => absurd c2 (by omega))
  refine sr_iconst (v := (-1)) hA si_100_31 (by decide) ?_
  exact sr_iretF hA si_100_32 sq_r_100 rfl rfl
set_option maxRecDepth 20000 in
theorem xc_back_e (X : sp_X) (g : sp_G) {r : Nat} (hr : r < 6) {q : Int32} (hq : q < 0) {t : Nat} (ht : t < 6) : sp_Ct X 9 100 [.ref 0, .int (nI r), .int q, .int (nI t)] g (sp_Fi (-1) g) := by
  refine sp_walkN (n := 6) sq_p_100 sq_l_100 (Nat.le_of_ble_eq_true rfl) (fun a hA => ?_)
  show sp_Ev X a 100 0 [.ref 0, .int (nI r), .int q, .int (nI t), .null, .null] [] g
  refine sr_aload_n hA si_100_0 rfl ?_
  refine sr_getR (r := 1) hA si_100_1 sf_100_14 (by decide) (by decide) rfl rfl rfl ?_
  refine sr_iload_n hA si_100_4 rfl ?_
  refine sr_VFi (c := 1) (ci := 5) (as := [.int (nI r)]) (st := []) hA si_100_5 sv_11 sk_100_72 (xc_numR1 X g (by omega)) (by omega) rfl (by decide) (by decide) rfl sq_c_11 rfl (Nat.le_of_ble_eq_true rfl) ?_
  refine sr_if_eqN (tgt := 31) hA si_100_8 (by decide) (by omega) (fun c1 => absurd c1 (by omega)) (fun c1 => ?_)
  refine sr_aload_n hA si_100_11 rfl ?_
  refine sr_getR (r := 1) hA si_100_12 sf_100_14 (by decide) (by decide) rfl rfl rfl ?_
  refine sr_iload_n hA si_100_15 rfl ?_
  refine sr_VFi (c := 1) (ci := 5) (as := [.int (nI t)]) (st := []) hA si_100_16 sv_11 sk_100_72 (xc_numR1 X g (by omega)) (by omega) rfl (by decide) (by decide) rfl sq_c_11 rfl (Nat.le_of_ble_eq_true rfl) ?_
  refine sr_if_eqN (tgt := 31) hA si_100_19 (by decide) (by omega) (fun c2 => absurd c2 (by omega)) (fun c2 => ?_)
  refine sr_iload_n hA si_100_22 rfl ?_
  refine sr_if_lt (tgt := 31) hA si_100_23 (by decide) (fun c3 => ?_) (fun c3 => absurd hq c3)
  refine sr_iconst (v := (-1)) hA si_100_31 (by decide) ?_
  exact sr_iretF hA si_100_32 sq_r_100 rfl rfl
set_option maxRecDepth 20000 in
theorem xc_back_f (X : sp_X) (g : sp_G) {r : Nat} (hr : r < 6) {q : Nat} (hq : 5 ≤ q) (hqb : q < 2 ^ 31) {t : Nat} (ht : t < 6) : sp_Ct X 9 100 [.ref 0, .int (nI r), .int (nI q), .int (nI t)] g (sp_Fi (-1) g) := by
  refine sp_walkN (n := 6) sq_p_100 sq_l_100 (Nat.le_of_ble_eq_true rfl) (fun a hA => ?_)
  show sp_Ev X a 100 0 [.ref 0, .int (nI r), .int (nI q), .int (nI t), .null, .null] [] g
  refine sr_aload_n hA si_100_0 rfl ?_
  refine sr_getR (r := 1) hA si_100_1 sf_100_14 (by decide) (by decide) rfl rfl rfl ?_
  refine sr_iload_n hA si_100_4 rfl ?_
  refine sr_VFi (c := 1) (ci := 5) (as := [.int (nI r)]) (st := []) hA si_100_5 sv_11 sk_100_72 (xc_numR1 X g (by omega)) (by omega) rfl (by decide) (by decide) rfl sq_c_11 rfl (Nat.le_of_ble_eq_true rfl) ?_
  refine sr_if_eqN (tgt := 31) hA si_100_8 (by decide) (by omega) (fun c1 => absurd c1 (by omega)) (fun c1 => ?_)
  refine sr_aload_n hA si_100_11 rfl ?_
  refine sr_getR (r := 1) hA si_100_12 sf_100_14 (by decide) (by decide) rfl rfl rfl ?_
  refine sr_iload_n hA si_100_15 rfl ?_
  refine sr_VFi (c := 1) (ci := 5) (as := [.int (nI t)]) (st := []) hA si_100_16 sv_11 sk_100_72 (xc_numR1 X g (by omega)) (by omega) rfl (by decide) (by decide) rfl sq_c_11 rfl (Nat.le_of_ble_eq_true rfl) ?_
  refine sr_if_eqN (tgt := 31) hA si_100_19 (by decide) (by omega) (fun c2 => absurd c2 (by omega)) (fun c2 => ?_)
  refine sr_iload_n hA si_100_22 rfl ?_
  refine sr_if_ltN (tgt := 31) hA si_100_23 (by decide) (by omega) ?_
  refine sr_iload_n hA si_100_26 rfl ?_
  refine sr_iconst (v := nI 4) hA si_100_27 (by decide) ?_
  refine sr_icmp_leN (tgt := 33) hA si_100_28 (by decide) (by omega) (by omega) (fun c4 => absurd c4 (by omega)) (fun c4 => ?_)
  refine sr_iconst (v := (-1)) hA si_100_31 (by decide) ?_
  exact sr_iretF hA si_100_32 sq_r_100 rfl rfl
set_option maxRecDepth 20000 in
theorem xc_back_s (X : sp_X) (g : sp_G) {r : Nat} (hr : r < 6) {q : Nat} (hq4 : q ≤ 4) {t : Nat} (ht : t < 6) (hn : g.1 18 3 = nI 0) : sp_Ct X 9 100 [.ref 0, .int (nI r), .int (nI q), .int (nI t)] g (sp_Fi (-4) g) := by
  refine sp_walkN (n := 6) sq_p_100 sq_l_100 (Nat.le_of_ble_eq_true rfl) (fun a hA => ?_)
  show sp_Ev X a 100 0 [.ref 0, .int (nI r), .int (nI q), .int (nI t), .null, .null] [] g
  refine sr_aload_n hA si_100_0 rfl ?_
  refine sr_getR (r := 1) hA si_100_1 sf_100_14 (by decide) (by decide) rfl rfl rfl ?_
  refine sr_iload_n hA si_100_4 rfl ?_
  refine sr_VFi (c := 1) (ci := 5) (as := [.int (nI r)]) (st := []) hA si_100_5 sv_11 sk_100_72 (xc_numR1 X g (by omega)) (by omega) rfl (by decide) (by decide) rfl sq_c_11 rfl (Nat.le_of_ble_eq_true rfl) ?_
  refine sr_if_eqN (tgt := 31) hA si_100_8 (by decide) (by omega) (fun c1 => absurd c1 (by omega)) (fun c1 => ?_)
  refine sr_aload_n hA si_100_11 rfl ?_
  refine sr_getR (r := 1) hA si_100_12 sf_100_14 (by decide) (by decide) rfl rfl rfl ?_
  refine sr_iload_n hA si_100_15 rfl ?_
  refine sr_VFi (c := 1) (ci := 5) (as := [.int (nI t)]) (st := []) hA si_100_16 sv_11 sk_100_72 (xc_numR1 X g (by omega)) (by omega) rfl (by decide) (by decide) rfl sq_c_11 rfl (Nat.le_of_ble_eq_true rfl) ?_
  refine sr_if_eqN (tgt := 31) hA si_100_19 (by decide) (by omega) (fun c2 => absurd c2 (by omega)) (fun c2 => ?_)
  refine sr_iload_n hA si_100_22 rfl ?_
  refine sr_if_ltN (tgt := 31) hA si_100_23 (by decide) (by omega) ?_
  refine sr_iload_n hA si_100_26 rfl ?_
  refine sr_iconst (v := nI 4) hA si_100_27 (by decide) ?_
  refine sr_icmp_leN (tgt := 33) hA si_100_28 (by decide) (by omega) (by omega) (fun c4 => ?_) (fun c4 => absurd c4 (by omega))
  refine sr_aload_n hA si_100_33 rfl ?_
  refine sr_getR (r := 18) hA si_100_34 sf_100_32 (by decide) (by decide) rfl rfl rfl ?_
  refine sr_getIv (v := nI 0) hA si_100_37 sf_100_145 (by decide) (by decide) rfl (by decide) hn ?_
  refine sr_if_neN (tgt := 46) hA si_100_40 (by decide) (by omega) (fun c5 => absurd c5 (by omega)) (fun c5 => ?_)
  refine sr_bipush (v := (-4)) hA si_100_43 (by decide) ?_
  exact sr_iretF hA si_100_45 sq_r_100 rfl rfl
set_option maxRecDepth 20000 in
theorem xc_back_r1 (X : sp_X) (g : sp_G) {r : Nat} (hr : r < 6) {q : Nat} (hq4 : q ≤ 4) {t : Nat} (ht : t < 6)  {n : Nat} (hn : g.1 18 3 = nI n) (hn0 : 0 < n) (hb : n ≤ 6) (hz : g.1 9 r = -1) : sp_Ct X 9 100 [.ref 0, .int (nI r), .int (nI q), .int (nI t)] g (sp_Fi (-3) (sp_rx g 1)) := by
  refine sp_walkN (n := 6) sq_p_100 sq_l_100 (Nat.le_of_ble_eq_true rfl) (fun a hA => ?_)
  show sp_Ev X a 100 0 [.ref 0, .int (nI r), .int (nI q), .int (nI t), .null, .null] [] g
  refine sr_aload_n hA si_100_0 rfl ?_
  refine sr_getR (r := 1) hA si_100_1 sf_100_14 (by decide) (by decide) rfl rfl rfl ?_
  refine sr_iload_n hA si_100_4 rfl ?_
  refine sr_VFi (c := 1) (ci := 5) (as := [.int (nI r)]) (st := []) hA si_100_5 sv_11 sk_100_72 (xc_numR1 X g (by omega)) (by omega) rfl (by decide) (by decide) rfl sq_c_11 rfl (Nat.le_of_ble_eq_true rfl) ?_
  refine sr_if_eqN (tgt := 31) hA si_100_8 (by decide) (by omega) (fun c1 => absurd c1 (by omega)) (fun c1 => ?_)
  refine sr_aload_n hA si_100_11 rfl ?_
  refine sr_getR (r := 1) hA si_100_12 sf_100_14 (by decide) (by decide) rfl rfl rfl ?_
  refine sr_iload_n hA si_100_15 rfl ?_
  refine sr_VFi (c := 1) (ci := 5) (as := [.int (nI t)]) (st := []) hA si_100_16 sv_11 sk_100_72 (xc_numR1 X g (by omega)) (by omega) rfl (by decide) (by decide) rfl sq_c_11 rfl (Nat.le_of_ble_eq_true rfl) ?_
  refine sr_if_eqN (tgt := 31) hA si_100_19 (by decide) (by omega) (fun c2 => absurd c2 (by omega)) (fun c2 => ?_)
  refine sr_iload_n hA si_100_22 rfl ?_
  refine sr_if_ltN (tgt := 31) hA si_100_23 (by decide) (by omega) ?_
  refine sr_iload_n hA si_100_26 rfl ?_
  refine sr_iconst (v := nI 4) hA si_100_27 (by decide) ?_
  refine sr_icmp_leN (tgt := 33) hA si_100_28 (by decide) (by omega) (by omega) (fun c4 => ?_) (fun c4 => absurd c4 (by omega))
  refine sr_aload_n hA si_100_33 rfl ?_
  refine sr_getR (r := 18) hA si_100_34 sf_100_32 (by decide) (by decide) rfl rfl rfl ?_
  refine sr_getIv (v := nI n) hA si_100_37 sf_100_145 (by decide) (by decide) rfl (by decide) hn ?_
  refine sr_if_neN (tgt := 46) hA si_100_40 (by decide) (by omega) (fun c5 => ?_) (fun c5 => absurd c5 (by omega))
  refine sr_aload_n hA si_100_46 rfl ?_
  refine sr_iload_n hA si_100_47 rfl ?_
  refine sr_VFi (c := 0) (ci := 7) (as := [.int (nI r)]) (st := []) hA si_100_48 sv_101 sk_100_255 (xc_sdw1 X g hr hz) (by omega) rfl (by decide) (by decide) rfl sq_c_101 rfl (Nat.le_of_ble_eq_true rfl) ?_
  refine sr_istore (ls1 := [.ref 0, .int (nI r), .int (nI q), .int (nI t), .int (nI 1), .null]) hA si_100_51 (by rw [sq_l_100]; decide) rfl ?_
  refine sr_iload hA si_100_53 rfl ?_
  refine sr_if_eqN (tgt := 65) hA si_100_55 (by decide) (by omega) (fun c6 => absurd c6 (by omega)) (fun c6 => ?_)
  refine sr_aload_n hA si_100_58 rfl ?_
  refine sr_iload hA si_100_59 rfl ?_
  refine sr_VFi (c := 0) (ci := 7) (as := [.int (nI 1)]) (st := []) hA si_100_61 sv_12 sk_100_76 (xc_refuse X g (by omega)) (by omega) rfl (by decide) (by decide) rfl sq_c_12 rfl (Nat.le_of_ble_eq_true rfl) ?_
  exact sr_iretF hA si_100_64 sq_r_100 rfl rfl
set_option maxRecDepth 20000 in
theorem xc_back_r5 (X : sp_X) (g : sp_G) {r : Nat} (hr : r < 6) {q : Nat} (hq4 : q ≤ 4) {t : Nat} (ht : t < 6)  {n : Nat} (hn : g.1 18 3 = nI n) (hn0 : 0 < n) (hb : n ≤ 6) {z : Nat} (hz : g.1 9 r = nI z) (hzb : z ≤ 40) (hzn : z ≠ n) : sp_Ct X 9 100 [.ref 0, .int (nI r), .int (nI q), .int (nI t)] g (sp_Fi (-3) (sp_rx g 5)) := by
  refine sp_walkN (n := 6) sq_p_100 sq_l_100 (Nat.le_of_ble_eq_true rfl) (fun a hA => ?_)
  show sp_Ev X a 100 0 [.ref 0, .int (nI r), .int (nI q), .int (nI t), .null, .null] [] g
  refine sr_aload_n hA si_100_0 rfl ?_
  refine sr_getR (r := 1) hA si_100_1 sf_100_14 (by decide) (by decide) rfl rfl rfl ?_
  refine sr_iload_n hA si_100_4 rfl ?_
  refine sr_VFi (c := 1) (ci := 5) (as := [.int (nI r)]) (st := []) hA si_100_5 sv_11 sk_100_72 (xc_numR1 X g (by omega)) (by omega) rfl (by decide) (by decide) rfl sq_c_11 rfl (Nat.le_of_ble_eq_true rfl) ?_
  refine sr_if_eqN (tgt := 31) hA si_100_8 (by decide) (by omega) (fun c1 => absurd c1 (by omega)) (fun c1 => ?_)
  refine sr_aload_n hA si_100_11 rfl ?_
  refine sr_getR (r := 1) hA si_100_12 sf_100_14 (by decide) (by decide) rfl rfl rfl ?_
  refine sr_iload_n hA si_100_15 rfl ?_
  refine sr_VFi (c := 1) (ci := 5) (as := [.int (nI t)]) (st := []) hA si_100_16 sv_11 sk_100_72 (xc_numR1 X g (by omega)) (by omega) rfl (by decide) (by decide) rfl sq_c_11 rfl (Nat.le_of_ble_eq_true rfl) ?_
  refine sr_if_eqN (tgt := 31) hA si_100_19 (by decide) (by omega) (fun c2 => absurd c2 (by omega)) (fun c2 => ?_)
  refine sr_iload_n hA si_100_22 rfl ?_
  refine sr_if_ltN (tgt := 31) hA si_100_23 (by decide) (by omega) ?_
  refine sr_iload_n hA si_100_26 rfl ?_
  refine sr_iconst (v := nI 4) hA si_100_27 (by decide) ?_
  refine sr_icmp_leN (tgt := 33) hA si_100_28 (by decide) (by omega) (by omega) (fun c4 => ?_) (fun c4 => absurd c4 (by omega))
  refine sr_aload_n hA si_100_33 rfl ?_
  refine sr_getR (r := 18) hA si_100_34 sf_100_32 (by decide) (by decide) rfl rfl rfl ?_
  refine sr_getIv (v := nI n) hA si_100_37 sf_100_145 (by decide) (by decide) rfl (by decide) hn ?_
  refine sr_if_neN (tgt := 46) hA si_100_40 (by decide) (by omega) (fun c5 => ?_) (fun c5 => absurd c5 (by omega))
  refine sr_aload_n hA si_100_46 rfl ?_
  refine sr_iload_n hA si_100_47 rfl ?_
  refine sr_VFi (c := 0) (ci := 7) (as := [.int (nI r)]) (st := []) hA si_100_48 sv_101 sk_100_255 (xc_sdw5 X g hr hz hzb hn hb hzn) (by omega) rfl (by decide) (by decide) rfl sq_c_101 rfl (Nat.le_of_ble_eq_true rfl) ?_
  refine sr_istore (ls1 := [.ref 0, .int (nI r), .int (nI q), .int (nI t), .int (nI 5), .null]) hA si_100_51 (by rw [sq_l_100]; decide) rfl ?_
  refine sr_iload hA si_100_53 rfl ?_
  refine sr_if_eqN (tgt := 65) hA si_100_55 (by decide) (by omega) (fun c6 => absurd c6 (by omega)) (fun c6 => ?_)
  refine sr_aload_n hA si_100_58 rfl ?_
  refine sr_iload hA si_100_59 rfl ?_
  refine sr_VFi (c := 0) (ci := 7) (as := [.int (nI 5)]) (st := []) hA si_100_61 sv_12 sk_100_76 (xc_refuse X g (by omega)) (by omega) rfl (by decide) (by decide) rfl sq_c_12 rfl (Nat.le_of_ble_eq_true rfl) ?_
  exact sr_iretF hA si_100_64 sq_r_100 rfl rfl
set_option maxRecDepth 20000 in
theorem xc_back_r3 (X : sp_X) (g : sp_G) {r : Nat} (hr : r < 6) {q : Nat} (hq4 : q ≤ 4) {t : Nat} (ht : t < 6)  {n : Nat} (hn : g.1 18 3 = nI n) (hn0 : 0 < n) (hb : n ≤ 6) (hz : g.1 9 r = nI n) {b : Nat} (hbz : b < n) (hks : sp_ks (fun i => g.1 (3 + r) i) 1000 b) (hbk : sp_bk (g.1 (3 + r) b) 1000) : sp_Ct X 9 100 [.ref 0, .int (nI r), .int (nI q), .int (nI t)] g (sp_Fi (-3) (sp_rx g 3)) := by
  refine sp_walkN (n := 6) sq_p_100 sq_l_100 (Nat.le_of_ble_eq_true rfl) (fun a hA => ?_)
  show sp_Ev X a 100 0 [.ref 0, .int (nI r), .int (nI q), .int (nI t), .null, .null] [] g
  refine sr_aload_n hA si_100_0 rfl ?_
  refine sr_getR (r := 1) hA si_100_1 sf_100_14 (by decide) (by decide) rfl rfl rfl ?_
  refine sr_iload_n hA si_100_4 rfl ?_
  refine sr_VFi (c := 1) (ci := 5) (as := [.int (nI r)]) (st := []) hA si_100_5 sv_11 sk_100_72 (xc_numR1 X g (by omega)) (by omega) rfl (by decide) (by decide) rfl sq_c_11 rfl (Nat.le_of_ble_eq_true rfl) ?_
  refine sr_if_eqN (tgt := 31) hA si_100_8 (by decide) (by omega) (fun c1 => absurd c1 (by omega)) (fun c1 => ?_)
  refine sr_aload_n hA si_100_11 rfl ?_
  refine sr_getR (r := 1) hA si_100_12 sf_100_14 (by decide) (by decide) rfl rfl rfl ?_
  refine sr_iload_n hA si_100_15 rfl ?_
  refine sr_VFi (c := 1) (ci := 5) (as := [.int (nI t)]) (st := []) hA si_100_16 sv_11 sk_100_72 (xc_numR1 X g (by omega)) (by omega) rfl (by decide) (by decide) rfl sq_c_11 rfl (Nat.le_of_ble_eq_true rfl) ?_
  refine sr_if_eqN (tgt := 31) hA si_100_19 (by decide) (by omega) (fun c2 => absurd c2 (by omega)) (fun c2 => ?_)
  refine sr_iload_n hA si_100_22 rfl ?_
  refine sr_if_ltN (tgt := 31) hA si_100_23 (by decide) (by omega) ?_
  refine sr_iload_n hA si_100_26 rfl ?_
  refine sr_iconst (v := nI 4) hA si_100_27 (by decide) ?_
  refine sr_icmp_leN (tgt := 33) hA si_100_28 (by decide) (by omega) (by omega) (fun c4 => ?_) (fun c4 => absurd c4 (by omega))
  refine sr_aload_n hA si_100_33 rfl ?_
  refine sr_getR (r := 18) hA si_100_34 sf_100_32 (by decide) (by decide) rfl rfl rfl ?_
  refine sr_getIv (v := nI n) hA si_100_37 sf_100_145 (by decide) (by decide) rfl (by decide) hn ?_
  refine sr_if_neN (tgt := 46) hA si_100_40 (by decide) (by omega) (fun c5 => ?_) (fun c5 => absurd c5 (by omega))
  refine sr_aload_n hA si_100_46 rfl ?_
  refine sr_iload_n hA si_100_47 rfl ?_
  refine sr_VFi (c := 0) (ci := 7) (as := [.int (nI r)]) (st := []) hA si_100_48 sv_101 sk_100_255 (xc_sdw3 X g hr hz hn hb hbz hks hbk) (by omega) rfl (by decide) (by decide) rfl sq_c_101 rfl (Nat.le_of_ble_eq_true rfl) ?_
  refine sr_istore (ls1 := [.ref 0, .int (nI r), .int (nI q), .int (nI t), .int (nI 3), .null]) hA si_100_51 (by rw [sq_l_100]; decide) rfl ?_
  refine sr_iload hA si_100_53 rfl ?_
  refine sr_if_eqN (tgt := 65) hA si_100_55 (by decide) (by omega) (fun c6 => absurd c6 (by omega)) (fun c6 => ?_)
  refine sr_aload_n hA si_100_58 rfl ?_
  refine sr_iload hA si_100_59 rfl ?_
  refine sr_VFi (c := 0) (ci := 7) (as := [.int (nI 3)]) (st := []) hA si_100_61 sv_12 sk_100_76 (xc_refuse X g (by omega)) (by omega) rfl (by decide) (by decide) rfl sq_c_12 rfl (Nat.le_of_ble_eq_true rfl) ?_
  exact sr_iretF hA si_100_64 sq_r_100 rfl rfl
set_option maxRecDepth 20000 in
theorem xl_bka {X : sp_X} {dd : Nat} {ac : sp_Ac} {g : sp_G} {r q t n : Nat} {Rt : sp_Rt} (hr : r < 6) (hn : g.1 18 3 = nI n) (hb : n ≤ 6) {f : Nat → Int32} (hf : ∀ i, i < n → g.1 (3 + r) i = f i) (hdd : 2 ≤ dd) (kk : ∀ gg, sp_abx g gg f n → sp_Ev X ac 100 113 [.ref 0, .int (nI r), .int (nI q), .int (nI t), .null, .null] [] gg) (hA : sp_Act X 100 dd Rt ac) : ∀ (m : Nat) (i : Nat) (gg : sp_G), i + m = n → sp_abx g gg f i → sp_Ev X ac 100 75 [.ref 0, .int (nI r), .int (nI q), .int (nI t), .null, .int (nI i)] [] gg := by
  intro m
  induction m with
  | zero =>
    intro i gg h0_ h1_
    refine sr_iload hA si_100_75 rfl ?_
    refine sr_aload_n hA si_100_77 rfl ?_
    refine sr_getR (r := 18) hA si_100_78 sf_100_32 (by decide) (by decide) rfl rfl rfl ?_
    refine sr_getIv (v := nI n) hA si_100_81 sf_100_145 (by decide) (by decide) rfl (by decide) ((congrFun (h1_.1.1 18 (by decide) (by decide)) 3).trans hn) ?_
    refine sr_icmp_geN (tgt := 113) hA si_100_84 (by decide) (by omega) (by omega) (fun c1 => ?_) (fun c1 => absurd c1 (by omega))
    refine sr_fg (ls1 := [.ref 0, .int (nI r), .int (nI q), .int (nI t), .null, .null]) ⟨Or.inr rfl, Or.inr rfl, Or.inr rfl, Or.inr rfl, Or.inl rfl, Or.inl rfl, trivial⟩ ?_
    exact kk gg (by rw [show n = i by omega]; exact h1_)
  | succ m ih =>
    intro i gg h0_ h1_
    refine sr_iload hA si_100_75 rfl ?_
    refine sr_aload_n hA si_100_77 rfl ?_
    refine sr_getR (r := 18) hA si_100_78 sf_100_32 (by decide) (by decide) rfl rfl rfl ?_
    refine sr_getIv (v := nI n) hA si_100_81 sf_100_145 (by decide) (by decide) rfl (by decide) ((congrFun (h1_.1.1 18 (by decide) (by decide)) 3).trans hn) ?_
    refine sr_icmp_geN (tgt := 113) hA si_100_84 (by decide) (by omega) (by omega) (fun c1 => absurd c1 (by omega)) (fun c1 => ?_)
    refine sr_aload_n hA si_100_87 rfl ?_
    refine sr_getR (r := 43) hA si_100_88 sf_100_40 (by decide) (by decide) rfl rfl rfl ?_
    refine sr_getR (r := 44) hA si_100_91 sf_100_158 (by decide) (by decide) rfl rfl rfl ?_
    refine sr_iload hA si_100_94 rfl ?_
    refine sr_aload_n hA si_100_96 rfl ?_
    refine sr_getR (r := 1) hA si_100_97 sf_100_14 (by decide) (by decide) rfl rfl rfl ?_
    refine sr_iload_n hA si_100_100 rfl ?_
    refine sr_iload hA si_100_101 rfl ?_
    refine sr_VFi (c := 1) (ci := 5) (as := [.int (nI r), .int (nI i)]) (st := [.int (nI i), .ref 44]) hA si_100_103 sv_18 sk_100_88 (xc_getR X gg (v := f i) (by omega) (by omega) ((congrFun (h1_.1.1 (3 + r) (by omega) (by omega)) i).trans (hf i (by omega)))) (by omega) rfl (by decide) (by decide) rfl sq_c_18 rfl (Nat.le_of_ble_eq_true rfl) ?_
    refine sr_iastN (n := 6) hA si_100_106 (by decide) rfl rfl (by omega) (by decide) ?_
    refine sr_iincN (x := i) (y := 1) (ls1 := [.ref 0, .int (nI r), .int (nI q), .int (nI t), .null, .int (nI (i + 1))]) hA si_100_107 rfl rfl (by rw [sq_l_100]; decide) rfl ?_
    refine sr_goto (tgt := 75) hA si_100_110 (by decide) ?_
    exact ih (i + 1) _ (by omega) (h1_.step (by omega))
set_option maxRecDepth 20000 in
theorem xc_back_go (X : sp_X) (g : sp_G) {r : Nat} (hr : r < 6) {q : Nat} (hq4 : q ≤ 4) {t : Nat} (ht : t < 6)  {n : Nat} (hn : g.1 18 3 = nI n) (hn0 : 0 < n) (hb : n ≤ 6) (hz : g.1 9 r = nI n) (hks : sp_ks (fun i => g.1 (3 + r) i) 1000 n) {K T P u f : Nat → Int32} (hf : ∀ i, i < n → g.1 (3 + r) i = f i) (hks2 : sp_ks f 1000 n) (hK : sp_KX n K T P g) (hu : sp_h8 g 41 42 u) : sp_Ct X (q + 8) 100 [.ref 0, .int (nI r), .int (nI q), .int (nI t)] g (sp_Ri (fun x g' => x = nI (sp_go n K T P (sp_lb n u) q 0 (sp_fn n f) (fun _ => 0) (0, none)).1 ∧ sp_bqX q t g g' (sp_go n K T P (sp_lb n u) q 0 (sp_fn n f) (fun _ => 0) (0, none)).2)) := by
  refine sp_walkN (n := 6) sq_p_100 sq_l_100 (Nat.le_of_ble_eq_true rfl) (fun ac hA => ?_)
  show sp_Ev X ac 100 0 [.ref 0, .int (nI r), .int (nI q), .int (nI t), .null, .null] [] g
  refine sr_aload_n hA si_100_0 rfl ?_
  refine sr_getR (r := 1) hA si_100_1 sf_100_14 (by decide) (by decide) rfl rfl rfl ?_
  refine sr_iload_n hA si_100_4 rfl ?_
  refine sr_VFi (c := 1) (ci := 5) (as := [.int (nI r)]) (st := []) hA si_100_5 sv_11 sk_100_72 (xc_numR1 X g (by omega)) (by omega) rfl (by decide) (by decide) rfl sq_c_11 rfl (Nat.le_of_ble_eq_true rfl) ?_
  refine sr_if_eqN (tgt := 31) hA si_100_8 (by decide) (by omega) (fun c1 => absurd c1 (by omega)) (fun c1 => ?_)
  refine sr_aload_n hA si_100_11 rfl ?_
  refine sr_getR (r := 1) hA si_100_12 sf_100_14 (by decide) (by decide) rfl rfl rfl ?_
  refine sr_iload_n hA si_100_15 rfl ?_
  refine sr_VFi (c := 1) (ci := 5) (as := [.int (nI t)]) (st := []) hA si_100_16 sv_11 sk_100_72 (xc_numR1 X g (by omega)) (by omega) rfl (by decide) (by decide) rfl sq_c_11 rfl (Nat.le_of_ble_eq_true rfl) ?_
  refine sr_if_eqN (tgt := 31) hA si_100_19 (by decide) (by omega) (fun c2 => absurd c2 (by omega)) (fun c2 => ?_)
  refine sr_iload_n hA si_100_22 rfl ?_
  refine sr_if_ltN (tgt := 31) hA si_100_23 (by decide) (by omega) ?_
  refine sr_iload_n hA si_100_26 rfl ?_
  refine sr_iconst (v := nI 4) hA si_100_27 (by decide) ?_
  refine sr_icmp_leN (tgt := 33) hA si_100_28 (by decide) (by omega) (by omega) (fun c4 => ?_) (fun c4 => absurd c4 (by omega))
  refine sr_aload_n hA si_100_33 rfl ?_
  refine sr_getR (r := 18) hA si_100_34 sf_100_32 (by decide) (by decide) rfl rfl rfl ?_
  refine sr_getIv (v := nI n) hA si_100_37 sf_100_145 (by decide) (by decide) rfl (by decide) hn ?_
  refine sr_if_neN (tgt := 46) hA si_100_40 (by decide) (by omega) (fun c5 => ?_) (fun c5 => absurd c5 (by omega))
  refine sr_aload_n hA si_100_46 rfl ?_
  refine sr_iload_n hA si_100_47 rfl ?_
  refine sr_VFi (c := 0) (ci := 7) (as := [.int (nI r)]) (st := []) hA si_100_48 sv_101 sk_100_255 (xc_sdw0 X g hr hz hn hb hks) (by omega) rfl (by decide) (by decide) rfl sq_c_101 rfl (Nat.le_of_ble_eq_true rfl) ?_
  refine sr_istore (ls1 := [.ref 0, .int (nI r), .int (nI q), .int (nI t), .int (nI 0), .null]) hA si_100_51 (by rw [sq_l_100]; decide) rfl ?_
  refine sr_iload hA si_100_53 rfl ?_
  refine sr_if_eqN (tgt := 65) hA si_100_55 (by decide) (by omega) (fun c6 => ?_) (fun c6 => absurd c6 (by omega))
  refine sr_aload_n hA si_100_65 rfl ?_
  refine sr_getR (r := 43) hA si_100_66 sf_100_40 (by decide) (by decide) rfl rfl rfl ?_
  refine sr_VFv (c := 43) (ci := 2) (as := []) (st := []) hA si_100_69 sv_31 sk_100_258 (xc_clear X g sp_sd43) (by omega) rfl (by decide) (by decide) rfl sq_c_31 rfl (Nat.le_of_ble_eq_true rfl) ?_
  refine sr_iconst (v := nI 0) hA si_100_72 (by decide) ?_
  refine sr_istore (ls1 := [.ref 0, .int (nI r), .int (nI q), .int (nI t), .int (nI 0), .int (nI 0)]) hA si_100_73 (by rw [sq_l_100]; decide) rfl ?_
  refine sr_fg (ls1 := [.ref 0, .int (nI r), .int (nI q), .int (nI t), .null, .int (nI 0)]) ⟨Or.inr rfl, Or.inr rfl, Or.inr rfl, Or.inr rfl, Or.inl rfl, Or.inr rfl, trivial⟩ ?_
  refine xl_bka hr hn hb hf (by omega) (fun gg hgg => ?_) hA n 0 _ (by omega) sp_abx.z
  refine sr_aload_n hA si_100_113 rfl ?_
  refine sr_getR (r := 17) hA si_100_114 sf_100_24 (by decide) (by decide) rfl rfl rfl ?_
  refine sr_aload_n hA si_100_117 rfl ?_
  refine sr_getR (r := 43) hA si_100_118 sf_100_40 (by decide) (by decide) rfl rfl rfl ?_
  refine sr_aload_n hA si_100_121 rfl ?_
  refine sr_getR (r := 41) hA si_100_122 sf_100_36 (by decide) (by decide) rfl rfl rfl ?_
  refine sr_iload_n hA si_100_125 rfl ?_
  have ax := sp_xa.rf.sx hgg.1 (by unfold sp_xs; omega) (by unfold sp_xs; omega)
  refine sr_VRi (c := 17) (ci := 4) (as := [.ref 43, .ref 41, .int (nI q)]) (st := []) hA si_100_126 sv_102 sk_100_261 (xb_cwt X gg (q := q) (v := sp_fn n f) hq4 (hK.xa ax) hgg.2 (sp_fnB hb hks2) (by omega) (by omega) (hu.xa ax (by unfold sp_xs; omega) (by unfold sp_xs; omega))) (by omega) rfl (by decide) (by decide) rfl sq_c_102 rfl (Nat.le_of_ble_eq_true rfl) (fun xv g2 q2 => ?_)
  obtain ⟨S, eS⟩ : ∃ z, z = (sp_go n K T P (sp_lb n u) q 0 (sp_fn n f) (fun _ => 0) (0, none)) := ⟨_, rfl⟩
  rw [← eS] at q2
  obtain ⟨exv, ax2, hq2⟩ := q2
  subst exv
  have ax3 := ax.tr ax2
  refine sr_istore (ls1 := [.ref 0, .int (nI r), .int (nI q), .int (nI t), .null, .int (nI S.1)]) hA si_100_129 (by rw [sq_l_100]; decide) rfl ?_
  refine sr_aload_n hA si_100_131 rfl ?_
  refine sr_getR (r := 17) hA si_100_132 sf_100_24 (by decide) (by decide) rfl rfl rfl ?_
  refine sr_aload_n hA si_100_135 rfl ?_
  refine sr_getR (r := 1) hA si_100_136 sf_100_14 (by decide) (by decide) rfl rfl rfl ?_
  refine sr_iload_n hA si_100_139 rfl ?_
  rcases hs : S.2 with _ | w1
  · rw [hs] at hq2
    refine sr_VFv (c := 17) (ci := 4) (as := [.ref 1, .int (nI t)]) (st := []) hA si_100_140 sv_81 sk_100_237 (xb_lay0 X g2 (nI t) hq2) (by omega) rfl (by decide) (by decide) rfl sq_c_81 rfl (Nat.le_of_ble_eq_true rfl) ?_
    refine sr_iload hA si_100_143 rfl ?_
    exact sr_iretR hA si_100_145 sq_r_100 ⟨by rw [← eS], by rw [← eS]; exact ⟨fun _ => ax3, fun w hw => by rw [hs] at hw; cases hw⟩⟩
  · rw [hs] at hq2
    refine sr_VRv (c := 17) (ci := 4) (as := [.ref 1, .int (nI t)]) (st := []) hA si_100_140 sv_81 sk_100_237 (xb_lay1 X g2 (r := t) (q := q) ht (by omega) hq2.1) (by omega) rfl (by decide) (by decide) rfl sq_c_81 rfl (Nat.le_of_ble_eq_true rfl) (fun g4 q4 => ?_)
    refine sr_iload hA si_100_143 rfl ?_
    exact sr_iretR hA si_100_145 sq_r_100 ⟨by rw [← eS], by rw [← eS]; exact ⟨fun hw => (by rw [hs] at hw; cases hw), fun w hw => (by rw [hs] at hw; cases hw; exact ⟨g2, ax3, q4, hq2.2⟩)⟩⟩
set_option maxRecDepth 20000 in
theorem mc_back_a (X : sp_X) (g : sp_G) {r : Int32} (hr : r < 0) (q : Int32) (t : Int32) : sp_Ct X 9 209 [.ref 64, .int r, .int q, .int t] g (sp_Fi (-1) g) := by
  refine sp_walkN (n := 6) sq_p_209 sq_l_209 (Nat.le_of_ble_eq_true rfl) (fun a hA => ?_)
  show sp_Ev X a 209 0 [.ref 64, .int r, .int q, .int t, .null, .null] [] g
  refine sr_iload_n hA si_209_0 rfl ?_
  refine sr_SFi (as := [.int r]) (st := []) hA si_209_1 ss_140 sk_209_93 (mc_isRowM X g hr) (by omega) rfl rfl (Nat.le_of_ble_eq_true rfl) ?_
  refine sr_if_eqN (tgt := 23) hA si_209_4 (by decide) (by omega) (fun c1 => ?_) (fun c1 => absurd c1 (by omega))
  refine sr_iconst (v := (-1)) hA si_209_23 (by decide) ?_
  exact sr_iretF hA si_209_24 sq_r_209 rfl rfl
set_option maxRecDepth 20000 in
theorem mc_back_b (X : sp_X) (g : sp_G) {r : Nat} (hr : 6 ≤ r) (hrb : r < 2 ^ 31) (q : Int32) (t : Int32) : sp_Ct X 9 209 [.ref 64, .int (nI r), .int q, .int t] g (sp_Fi (-1) g) := by
  refine sp_walkN (n := 6) sq_p_209 sq_l_209 (Nat.le_of_ble_eq_true rfl) (fun a hA => ?_)
  show sp_Ev X a 209 0 [.ref 64, .int (nI r), .int q, .int t, .null, .null] [] g
  refine sr_iload_n hA si_209_0 rfl ?_
  refine sr_SFi (as := [.int (nI r)]) (st := []) hA si_209_1 ss_140 sk_209_93 (mc_isRowH X g (by omega) (by omega)) (by omega) rfl rfl (Nat.le_of_ble_eq_true rfl) ?_
  refine sr_if_eqN (tgt := 23) hA si_209_4 (by decide) (by omega) (fun c1 => ?_) (fun c1 => absurd c1 (by omega))
  refine sr_iconst (v := (-1)) hA si_209_23 (by decide) ?_
  exact sr_iretF hA si_209_24 sq_r_209 rfl rfl
set_option maxRecDepth 20000 in
theorem mc_back_c (X : sp_X) (g : sp_G) {r : Nat} (hr : r < 6) {q : Int32} (hq : q < 0) (t : Int32) : sp_Ct X 9 209 [.ref 64, .int (nI r), .int q, .int t] g (sp_Fi (-1) g) := by
  refine sp_walkN (n := 6) sq_p_209 sq_l_209 (Nat.le_of_ble_eq_true rfl) (fun a hA => ?_)
  show sp_Ev X a 209 0 [.ref 64, .int (nI r), .int q, .int t, .null, .null] [] g
  refine sr_iload_n hA si_209_0 rfl ?_
  refine sr_SFi (as := [.int (nI r)]) (st := []) hA si_209_1 ss_140 sk_209_93 (mc_isRow1 X g (by omega)) (by omega) rfl rfl (Nat.le_of_ble_eq_true rfl) ?_
  refine sr_if_eqN (tgt := 23) hA si_209_4 (by decide) (by omega) (fun c1 => absurd c1 (by omega)) (fun c1 => ?_)
  refine sr_iload_n hA si_209_7 rfl ?_
  refine sr_iconst (v := nI 0) hA si_209_8 (by decide) ?_
  refine sr_iconst (v := nI 4) hA si_209_9 (by decide) ?_
  refine sr_SFi (as := [.int q, .int (nI 0), .int (nI 4)]) (st := []) hA si_209_10 ss_135 sk_209_83 (mc_inM X g hq (by omega)) (by omega) rfl rfl (Nat.le_of_ble_eq_true rfl) ?_
  refine sr_if_eqN (tgt := 23) hA si_209_13 (by decide) (by omega) (fun c2 => ?_) (fun c2 => absurd c2 (by omega))
  refine sr_iconst (v := (-1)) hA si_209_23 (by decide) ?_
  exact sr_iretF hA si_209_24 sq_r_209 rfl rfl
set_option maxRecDepth 20000 in
theorem mc_back_d (X : sp_X) (g : sp_G) {r : Nat} (hr : r < 6) {q : Nat} (hq : 5 ≤ q) (hqb : q < 2 ^ 31) (t : Int32) : sp_Ct X 9 209 [.ref 64, .int (nI r), .int (nI q), .int t] g (sp_Fi (-1) g) := by
  refine sp_walkN (n := 6) sq_p_209 sq_l_209 (Nat.le_of_ble_eq_true rfl) (fun a hA => ?_)
  show sp_Ev X a 209 0 [.ref 64, .int (nI r), .int (nI q), .int t, .null, .null] [] g
  refine sr_iload_n hA si_209_0 rfl ?_
  refine sr_SFi (as := [.int (nI r)]) (st := []) hA si_209_1 ss_140 sk_209_93 (mc_isRow1 X g (by omega)) (by omega) rfl rfl (Nat.le_of_ble_eq_true rfl) ?_
  refine sr_if_eqN (tgt := 23) hA si_209_4 (by decide) (by omega) (fun c1 => absurd c1 (by omega)) (fun c1 => ?_)
  refine sr_iload_n hA si_209_7 rfl ?_
  refine sr_iconst (v := nI 0) hA si_209_8 (by decide) ?_
  refine sr_iconst (v := nI 4) hA si_209_9 (by decide) ?_
  refine sr_SFi (as := [.int (nI q), .int (nI 0), .int (nI 4)]) (st := []) hA si_209_10 ss_135 sk_209_83 (mc_inH X g (by omega) (by omega)) (by omega) rfl rfl (Nat.le_of_ble_eq_true rfl) ?_
  refine sr_if_eqN (tgt := 23) hA si_209_13 (by decide) (by omega) (fun c2 => ?_) (fun c2 => absurd c2 (by omega))
  refine sr_iconst (v := (-1)) hA si_209_23 (by decide) ?_
  exact sr_iretF hA si_209_24 sq_r_209 rfl rfl
set_option maxRecDepth 20000 in
theorem mc_back_e (X : sp_X) (g : sp_G) {r : Nat} (hr : r < 6) {q : Nat} (hq4 : q ≤ 4) {t : Int32} (ht : t < 0) : sp_Ct X 9 209 [.ref 64, .int (nI r), .int (nI q), .int t] g (sp_Fi (-1) g) := by
  refine sp_walkN (n := 6) sq_p_209 sq_l_209 (Nat.le_of_ble_eq_true rfl) (fun a hA => ?_)
  show sp_Ev X a 209 0 [.ref 64, .int (nI r), .int (nI q), .int t, .null, .null] [] g
  refine sr_iload_n hA si_209_0 rfl ?_
  refine sr_SFi (as := [.int (nI r)]) (st := []) hA si_209_1 ss_140 sk_209_93 (mc_isRow1 X g (by omega)) (by omega) rfl rfl (Nat.le_of_ble_eq_true rfl) ?_
  refine sr_if_eqN (tgt := 23) hA si_209_4 (by decide) (by omega) (fun c1 => absurd c1 (by omega)) (fun c1 => ?_)
  refine sr_iload_n hA si_209_7 rfl ?_
  refine sr_iconst (v := nI 0) hA si_209_8 (by decide) ?_
  refine sr_iconst (v := nI 4) hA si_209_9 (by decide) ?_
  refine sr_SFi (as := [.int (nI q), .int (nI 0), .int (nI 4)]) (st := []) hA si_209_10 ss_135 sk_209_83 (mc_inN X g (by omega) (by omega) (by omega)) (by omega) rfl rfl (Nat.le_of_ble_eq_true rfl) ?_
  refine sr_if_eqN (tgt := 23) hA si_209_13 (by decide) (by omega) (fun c2 => absurd c2 (by omega)) (fun c2 => ?_)
  refine sr_iload_n hA si_209_16 rfl ?_
  refine sr_SFi (as := [.int t]) (st := []) hA si_209_17 ss_140 sk_209_93 (mc_isRowM X g ht) (by omega) rfl rfl (Nat.le_of_ble_eq_true rfl) ?_
  refine sr_if_neN (tgt := 25) hA si_209_20 (by decide) (by omega) (fun c3 => absurd c3 (by omega)) (fun c3 => ?_)
  refine sr_iconst (v := (-1)) hA si_209_23 (by decide) ?_
  exact sr_iretF hA si_209_24 sq_r_209 rfl rfl
set_option maxRecDepth 20000 in
theorem mc_back_f (X : sp_X) (g : sp_G) {r : Nat} (hr : r < 6) {q : Nat} (hq4 : q ≤ 4) {t : Nat} (ht : 6 ≤ t) (htb : t < 2 ^ 31) : sp_Ct X 9 209 [.ref 64, .int (nI r), .int (nI q), .int (nI t)] g (sp_Fi (-1) g) := by
  refine sp_walkN (n := 6) sq_p_209 sq_l_209 (Nat.le_of_ble_eq_true rfl) (fun a hA => ?_)
  show sp_Ev X a 209 0 [.ref 64, .int (nI r), .int (nI q), .int (nI t), .null, .null] [] g
  refine sr_iload_n hA si_209_0 rfl ?_
  refine sr_SFi (as := [.int (nI r)]) (st := []) hA si_209_1 ss_140 sk_209_93 (mc_isRow1 X g (by omega)) (by omega) rfl rfl (Nat.le_of_ble_eq_true rfl) ?_
  refine sr_if_eqN (tgt := 23) hA si_209_4 (by decide) (by omega) (fun c1 => absurd c1 (by omega)) (fun c1 => ?_)
  refine sr_iload_n hA si_209_7 rfl ?_
  refine sr_iconst (v := nI 0) hA si_209_8 (by decide) ?_
  refine sr_iconst (v := nI 4) hA si_209_9 (by decide) ?_
  refine sr_SFi (as := [.int (nI q), .int (nI 0), .int (nI 4)]) (st := []) hA si_209_10 ss_135 sk_209_83 (mc_inN X g (by omega) (by omega) (by omega)) (by omega) rfl rfl (Nat.le_of_ble_eq_true rfl) ?_
  refine sr_if_eqN (tgt := 23) hA si_209_13 (by decide) (by omega) (fun c2 => absurd c2 (by omega)) (fun c2 => ?_)
  refine sr_iload_n hA si_209_16 rfl ?_
  refine sr_SFi (as := [.int (nI t)]) (st := []) hA si_209_17 ss_140 sk_209_93 (mc_isRowH X g (by omega) (by omega)) (by omega) rfl rfl (Nat.le_of_ble_eq_true rfl) ?_
  refine sr_if_neN (tgt := 25) hA si_209_20 (by decide) (by omega) (fun c3 => absurd c3 (by omega)) (fun c3 => ?_)
  refine sr_iconst (v := (-1)) hA si_209_23 (by decide) ?_
  exact sr_iretF hA si_209_24 sq_r_209 rfl rfl
set_option maxRecDepth 20000 in
theorem mc_back_s (X : sp_X) (g : sp_G) {r : Nat} (hr : r < 6) {q : Nat} (hq4 : q ≤ 4) {t : Nat} (ht : t < 6) (hn : g.1 64 11 = nI 0) : sp_Ct X 9 209 [.ref 64, .int (nI r), .int (nI q), .int (nI t)] g (sp_Fi (-4) g) := by
  refine sp_walkN (n := 6) sq_p_209 sq_l_209 (Nat.le_of_ble_eq_true rfl) (fun a hA => ?_)
  show sp_Ev X a 209 0 [.ref 64, .int (nI r), .int (nI q), .int (nI t), .null, .null] [] g
  refine sr_iload_n hA si_209_0 rfl ?_
  refine sr_SFi (as := [.int (nI r)]) (st := []) hA si_209_1 ss_140 sk_209_93 (mc_isRow1 X g (by omega)) (by omega) rfl rfl (Nat.le_of_ble_eq_true rfl) ?_
  refine sr_if_eqN (tgt := 23) hA si_209_4 (by decide) (by omega) (fun c1 => absurd c1 (by omega)) (fun c1 => ?_)
  refine sr_iload_n hA si_209_7 rfl ?_
  refine sr_iconst (v := nI 0) hA si_209_8 (by decide) ?_
  refine sr_iconst (v := nI 4) hA si_209_9 (by decide) ?_
  refine sr_SFi (as := [.int (nI q), .int (nI 0), .int (nI 4)]) (st := []) hA si_209_10 ss_135 sk_209_83 (mc_inN X g (by omega) (by omega) (by omega)) (by omega) rfl rfl (Nat.le_of_ble_eq_true rfl) ?_
  refine sr_if_eqN (tgt := 23) hA si_209_13 (by decide) (by omega) (fun c2 => absurd c2 (by omega)) (fun c2 => ?_)
  refine sr_iload_n hA si_209_16 rfl ?_
  refine sr_SFi (as := [.int (nI t)]) (st := []) hA si_209_17 ss_140 sk_209_93 (mc_isRow1 X g (by omega)) (by omega) rfl rfl (Nat.le_of_ble_eq_true rfl) ?_
  refine sr_if_neN (tgt := 25) hA si_209_20 (by decide) (by omega) (fun c3 => ?_) (fun c3 => absurd c3 (by omega))
  refine sr_aload_n hA si_209_25 rfl ?_
  refine sr_getIv (v := nI 0) hA si_209_26 sf_209_142 (by decide) (by decide) rfl (by decide) hn ?_
  refine sr_if_neN (tgt := 35) hA si_209_29 (by decide) (by omega) (fun c4 => absurd c4 (by omega)) (fun c4 => ?_)
  refine sr_bipush (v := (-4)) hA si_209_32 (by decide) ?_
  exact sr_iretF hA si_209_34 sq_r_209 rfl rfl
set_option maxRecDepth 20000 in
theorem mc_back_r1 (X : sp_X) (g : sp_G) {r : Nat} (hr : r < 6) {q : Nat} (hq4 : q ≤ 4) {t : Nat} (ht : t < 6)  {n : Nat} (hn : g.1 64 11 = nI n) (hn0 : 0 < n) (hb : n ≤ 6) (hz : g.1 66 r = -1) : sp_Ct X 9 209 [.ref 64, .int (nI r), .int (nI q), .int (nI t)] g (sp_Fi (-3) (sp_rm6 g 1)) := by
  refine sp_walkN (n := 6) sq_p_209 sq_l_209 (Nat.le_of_ble_eq_true rfl) (fun a hA => ?_)
  show sp_Ev X a 209 0 [.ref 64, .int (nI r), .int (nI q), .int (nI t), .null, .null] [] g
  refine sr_iload_n hA si_209_0 rfl ?_
  refine sr_SFi (as := [.int (nI r)]) (st := []) hA si_209_1 ss_140 sk_209_93 (mc_isRow1 X g (by omega)) (by omega) rfl rfl (Nat.le_of_ble_eq_true rfl) ?_
  refine sr_if_eqN (tgt := 23) hA si_209_4 (by decide) (by omega) (fun c1 => absurd c1 (by omega)) (fun c1 => ?_)
  refine sr_iload_n hA si_209_7 rfl ?_
  refine sr_iconst (v := nI 0) hA si_209_8 (by decide) ?_
  refine sr_iconst (v := nI 4) hA si_209_9 (by decide) ?_
  refine sr_SFi (as := [.int (nI q), .int (nI 0), .int (nI 4)]) (st := []) hA si_209_10 ss_135 sk_209_83 (mc_inN X g (by omega) (by omega) (by omega)) (by omega) rfl rfl (Nat.le_of_ble_eq_true rfl) ?_
  refine sr_if_eqN (tgt := 23) hA si_209_13 (by decide) (by omega) (fun c2 => absurd c2 (by omega)) (fun c2 => ?_)
  refine sr_iload_n hA si_209_16 rfl ?_
  refine sr_SFi (as := [.int (nI t)]) (st := []) hA si_209_17 ss_140 sk_209_93 (mc_isRow1 X g (by omega)) (by omega) rfl rfl (Nat.le_of_ble_eq_true rfl) ?_
  refine sr_if_neN (tgt := 25) hA si_209_20 (by decide) (by omega) (fun c3 => ?_) (fun c3 => absurd c3 (by omega))
  refine sr_aload_n hA si_209_25 rfl ?_
  refine sr_getIv (v := nI n) hA si_209_26 sf_209_142 (by decide) (by decide) rfl (by decide) hn ?_
  refine sr_if_neN (tgt := 35) hA si_209_29 (by decide) (by omega) (fun c4 => ?_) (fun c4 => absurd c4 (by omega))
  refine sr_aload_n hA si_209_35 rfl ?_
  refine sr_getR (r := 66) hA si_209_36 sf_209_17 (by decide) (by decide) rfl rfl rfl ?_
  refine sr_iload_n hA si_209_39 rfl ?_
  refine sr_ialdNv (v := (-1)) (n := 6) hA si_209_40 (by decide) rfl rfl (by omega) (by decide) hz ?_
  refine sr_if_ge (tgt := 50) hA si_209_41 (by decide) (fun c5 => absurd c5 (sp_m4 (by decide))) (fun c5 => ?_)
  refine sr_aload_n hA si_209_44 rfl ?_
  refine sr_iconst (v := nI 1) hA si_209_45 (by decide) ?_
  refine sr_VFi (c := 64) (ci := 8) (as := [.int (nI 1)]) (st := []) hA si_209_46 sv_141 sk_209_97 (mc_meets X g (by omega)) (by omega) rfl (by decide) (by decide) rfl sq_c_141 rfl (Nat.le_of_ble_eq_true rfl) ?_
  exact sr_iretF hA si_209_49 sq_r_209 rfl rfl
set_option maxRecDepth 20000 in
theorem mc_back_r5 (X : sp_X) (g : sp_G) {r : Nat} (hr : r < 6) {q : Nat} (hq4 : q ≤ 4) {t : Nat} (ht : t < 6)  {n : Nat} (hn : g.1 64 11 = nI n) (hn0 : 0 < n) (hb : n ≤ 6) {z : Nat} (hz : g.1 66 r = nI z) (hzb : z ≤ 40) (hzn : z ≠ n) : sp_Ct X 9 209 [.ref 64, .int (nI r), .int (nI q), .int (nI t)] g (sp_Fi (-3) (sp_rm6 g 5)) := by
  refine sp_walkN (n := 6) sq_p_209 sq_l_209 (Nat.le_of_ble_eq_true rfl) (fun a hA => ?_)
  show sp_Ev X a 209 0 [.ref 64, .int (nI r), .int (nI q), .int (nI t), .null, .null] [] g
  refine sr_iload_n hA si_209_0 rfl ?_
  refine sr_SFi (as := [.int (nI r)]) (st := []) hA si_209_1 ss_140 sk_209_93 (mc_isRow1 X g (by omega)) (by omega) rfl rfl (Nat.le_of_ble_eq_true rfl) ?_
  refine sr_if_eqN (tgt := 23) hA si_209_4 (by decide) (by omega) (fun c1 => absurd c1 (by omega)) (fun c1 => ?_)
  refine sr_iload_n hA si_209_7 rfl ?_
  refine sr_iconst (v := nI 0) hA si_209_8 (by decide) ?_
  refine sr_iconst (v := nI 4) hA si_209_9 (by decide) ?_
  refine sr_SFi (as := [.int (nI q), .int (nI 0), .int (nI 4)]) (st := []) hA si_209_10 ss_135 sk_209_83 (mc_inN X g (by omega) (by omega) (by omega)) (by omega) rfl rfl (Nat.le_of_ble_eq_true rfl) ?_
  refine sr_if_eqN (tgt := 23) hA si_209_13 (by decide) (by omega) (fun c2 => absurd c2 (by omega)) (fun c2 => ?_)
  refine sr_iload_n hA si_209_16 rfl ?_
  refine sr_SFi (as := [.int (nI t)]) (st := []) hA si_209_17 ss_140 sk_209_93 (mc_isRow1 X g (by omega)) (by omega) rfl rfl (Nat.le_of_ble_eq_true rfl) ?_
  refine sr_if_neN (tgt := 25) hA si_209_20 (by decide) (by omega) (fun c3 => ?_) (fun c3 => absurd c3 (by omega))
  refine sr_aload_n hA si_209_25 rfl ?_
  refine sr_getIv (v := nI n) hA si_209_26 sf_209_142 (by decide) (by decide) rfl (by decide) hn ?_
  refine sr_if_neN (tgt := 35) hA si_209_29 (by decide) (by omega) (fun c4 => ?_) (fun c4 => absurd c4 (by omega))
  refine sr_aload_n hA si_209_35 rfl ?_
  refine sr_getR (r := 66) hA si_209_36 sf_209_17 (by decide) (by decide) rfl rfl rfl ?_
  refine sr_iload_n hA si_209_39 rfl ?_
  refine sr_ialdNv (v := nI z) (n := 6) hA si_209_40 (by decide) rfl rfl (by omega) (by decide) hz ?_
  refine sr_if_geN (tgt := 50) hA si_209_41 (by decide) (by omega) ?_
  refine sr_aload_n hA si_209_50 rfl ?_
  refine sr_getR (r := 66) hA si_209_51 sf_209_17 (by decide) (by decide) rfl rfl rfl ?_
  refine sr_iload_n hA si_209_54 rfl ?_
  refine sr_ialdNv (v := nI z) (n := 6) hA si_209_55 (by decide) rfl rfl (by omega) (by decide) hz ?_
  refine sr_aload_n hA si_209_56 rfl ?_
  refine sr_getIv (v := nI n) hA si_209_57 sf_209_142 (by decide) (by decide) rfl (by decide) hn ?_
  refine sr_icmp_eqN (tgt := 69) hA si_209_60 (by decide) (by omega) (by omega) (fun c6 => absurd c6 (by omega)) (fun c6 => ?_)
  refine sr_aload_n hA si_209_63 rfl ?_
  refine sr_iconst (v := nI 5) hA si_209_64 (by decide) ?_
  refine sr_VFi (c := 64) (ci := 8) (as := [.int (nI 5)]) (st := []) hA si_209_65 sv_141 sk_209_97 (mc_meets X g (by omega)) (by omega) rfl (by decide) (by decide) rfl sq_c_141 rfl (Nat.le_of_ble_eq_true rfl) ?_
  exact sr_iretF hA si_209_68 sq_r_209 rfl rfl
set_option maxRecDepth 20000 in
theorem ml_bkB {X : sp_X} {ac : sp_Ac} {g : sp_G} {r q t n : Nat} (hr : r < 6) (hn : g.1 64 11 = nI n) (hb : n ≤ 6) (hA : sp_Act X 209 9 (sp_Fi (-3) (sp_rm6 g 3)) ac) : ∀ (m : Nat) (i : Nat), i + m = n → sp_Ev X ac 209 75 [.ref 64, .int (nI r), .int (nI q), .int (nI t), .int (nI 0), .int (nI i)] [] g := by
  intro m
  induction m with
  | zero =>
    intro i h0_
    refine sr_iload hA si_209_75 rfl ?_
    refine sr_aload_n hA si_209_77 rfl ?_
    refine sr_getIv (v := nI n) hA si_209_78 sf_209_142 (by decide) (by decide) rfl (by decide) hn ?_
    refine sr_icmp_geN (tgt := 119) hA si_209_81 (by decide) (by omega) (by omega) (fun c1 => ?_) (fun c1 => absurd c1 (by omega))
    refine sr_iload hA si_209_119 rfl ?_
    refine sr_if_neN (tgt := 130) hA si_209_121 (by decide) (by omega) (fun c2 => absurd c2 (by omega)) (fun c2 => ?_)
    refine sr_aload_n hA si_209_124 rfl ?_
    refine sr_iconst (v := nI 3) hA si_209_125 (by decide) ?_
    refine sr_VFi (c := 64) (ci := 8) (as := [.int (nI 3)]) (st := []) hA si_209_126 sv_141 sk_209_97 (mc_meets X g (by omega)) (by omega) rfl (by decide) (by decide) rfl sq_c_141 rfl (Nat.le_of_ble_eq_true rfl) ?_
    exact sr_iretF hA si_209_129 sq_r_209 rfl rfl
  | succ m ih =>
    intro i h0_
    refine sr_iload hA si_209_75 rfl ?_
    refine sr_aload_n hA si_209_77 rfl ?_
    refine sr_getIv (v := nI n) hA si_209_78 sf_209_142 (by decide) (by decide) rfl (by decide) hn ?_
    refine sr_icmp_geN (tgt := 119) hA si_209_81 (by decide) (by omega) (by omega) (fun c1 => absurd c1 (by omega)) (fun c1 => ?_)
    refine sr_iload hA si_209_84 rfl ?_
    refine sr_if_eqN (tgt := 110) hA si_209_86 (by decide) (by omega) (fun c2 => ?_) (fun c2 => absurd c2 (by omega))
    refine sr_iconst (v := nI 0) hA si_209_110 (by decide) ?_
    refine sr_istore (ls1 := [.ref 64, .int (nI r), .int (nI q), .int (nI t), .int (nI 0), .int (nI i)]) hA si_209_111 (by rw [sq_l_209]; decide) rfl ?_
    refine sr_iincN (x := i) (y := 1) (ls1 := [.ref 64, .int (nI r), .int (nI q), .int (nI t), .int (nI 0), .int (nI (i + 1))]) hA si_209_113 rfl rfl (by rw [sq_l_209]; decide) rfl ?_
    refine sr_goto (tgt := 75) hA si_209_116 (by decide) ?_
    exact ih (i + 1) (by omega)
set_option maxRecDepth 20000 in
theorem ml_bk3M {X : sp_X} {ac : sp_Ac} {g : sp_G} {r q t n : Nat} (hr : r < 6) (hn : g.1 64 11 = nI n) (hb : n ≤ 6) {b : Nat} (hbz : b < n) (hks : sp_ks (fun i => g.1 67 (40 * r + i)) 1000 b) {x : Int32} (hx : x < 0) (ex : g.1 67 (40 * r + b) = x) (hA : sp_Act X 209 9 (sp_Fi (-3) (sp_rm6 g 3)) ac) : ∀ (m : Nat) (i : Nat), i + m = b → sp_Ev X ac 209 75 [.ref 64, .int (nI r), .int (nI q), .int (nI t), .int (nI 1), .int (nI i)] [] g := by
  intro m
  induction m with
  | zero =>
    intro i h0_
    refine sr_iload hA si_209_75 rfl ?_
    refine sr_aload_n hA si_209_77 rfl ?_
    refine sr_getIv (v := nI n) hA si_209_78 sf_209_142 (by decide) (by decide) rfl (by decide) hn ?_
    refine sr_icmp_geN (tgt := 119) hA si_209_81 (by decide) (by omega) (by omega) (fun c1 => absurd c1 (by omega)) (fun c1 => ?_)
    refine sr_iload hA si_209_84 rfl ?_
    refine sr_if_eqN (tgt := 110) hA si_209_86 (by decide) (by omega) (fun c2 => absurd c2 (by omega)) (fun c2 => ?_)
    refine sr_aload_n hA si_209_89 rfl ?_
    refine sr_iload_n hA si_209_90 rfl ?_
    refine sr_iload hA si_209_91 rfl ?_
    refine sr_VFi (c := 64) (ci := 8) (as := [.int (nI r), .int (nI i)]) (st := []) hA si_209_93 sv_143 sk_209_101 (by have h := mc_rowAt X g (r := r) (i := i) (by omega); rw [show g.1 67 (40 * r + i) = x from (by rw [show i = b by omega]; exact ex)] at h; exact h) (by omega) rfl (by decide) (by decide) rfl sq_c_143 rfl (Nat.le_of_ble_eq_true rfl) ?_
    refine sr_iconst (v := nI 0) hA si_209_96 (by decide) ?_
    refine sr_sipush (v := nI 999) hA si_209_97 (by decide) ?_
    refine sr_SFi (as := [.int x, .int (nI 0), .int (nI 999)]) (st := []) hA si_209_100 ss_135 sk_209_83 (mc_inM X g hx (by omega)) (by omega) rfl rfl (Nat.le_of_ble_eq_true rfl) ?_
    refine sr_if_eqN (tgt := 110) hA si_209_103 (by decide) (by omega) (fun c3 => ?_) (fun c3 => absurd c3 (by omega))
    refine sr_iconst (v := nI 0) hA si_209_110 (by decide) ?_
    refine sr_istore (ls1 := [.ref 64, .int (nI r), .int (nI q), .int (nI t), .int (nI 0), .int (nI i)]) hA si_209_111 (by rw [sq_l_209]; decide) rfl ?_
    refine sr_iincN (x := i) (y := 1) (ls1 := [.ref 64, .int (nI r), .int (nI q), .int (nI t), .int (nI 0), .int (nI (i + 1))]) hA si_209_113 rfl rfl (by rw [sq_l_209]; decide) rfl ?_
    refine sr_goto (tgt := 75) hA si_209_116 (by decide) ?_
    exact ml_bkB hr hn hb hA (n - (i + 1)) (i + 1) (by omega)
  | succ m ih =>
    intro i h0_
    obtain ⟨a, ha, ea⟩ := hks i (by omega)
    refine sr_iload hA si_209_75 rfl ?_
    refine sr_aload_n hA si_209_77 rfl ?_
    refine sr_getIv (v := nI n) hA si_209_78 sf_209_142 (by decide) (by decide) rfl (by decide) hn ?_
    refine sr_icmp_geN (tgt := 119) hA si_209_81 (by decide) (by omega) (by omega) (fun c1 => absurd c1 (by omega)) (fun c1 => ?_)
    refine sr_iload hA si_209_84 rfl ?_
    refine sr_if_eqN (tgt := 110) hA si_209_86 (by decide) (by omega) (fun c2 => absurd c2 (by omega)) (fun c2 => ?_)
    refine sr_aload_n hA si_209_89 rfl ?_
    refine sr_iload_n hA si_209_90 rfl ?_
    refine sr_iload hA si_209_91 rfl ?_
    refine sr_VFi (c := 64) (ci := 8) (as := [.int (nI r), .int (nI i)]) (st := []) hA si_209_93 sv_143 sk_209_101 (by have h := mc_rowAt X g (r := r) (i := i) (by omega); rw [show g.1 67 (40 * r + i) = nI a from ea] at h; exact h) (by omega) rfl (by decide) (by decide) rfl sq_c_143 rfl (Nat.le_of_ble_eq_true rfl) ?_
    refine sr_iconst (v := nI 0) hA si_209_96 (by decide) ?_
    refine sr_sipush (v := nI 999) hA si_209_97 (by decide) ?_
    refine sr_SFi (as := [.int (nI a), .int (nI 0), .int (nI 999)]) (st := []) hA si_209_100 ss_135 sk_209_83 (mc_inN X g (by omega) (by omega) (by omega)) (by omega) rfl rfl (Nat.le_of_ble_eq_true rfl) ?_
    refine sr_if_eqN (tgt := 110) hA si_209_103 (by decide) (by omega) (fun c3 => absurd c3 (by omega)) (fun c3 => ?_)
    refine sr_iconst (v := nI 1) hA si_209_106 (by decide) ?_
    refine sr_goto (tgt := 111) hA si_209_107 (by decide) ?_
    refine sr_istore (ls1 := [.ref 64, .int (nI r), .int (nI q), .int (nI t), .int (nI 1), .int (nI i)]) hA si_209_111 (by rw [sq_l_209]; decide) rfl ?_
    refine sr_iincN (x := i) (y := 1) (ls1 := [.ref 64, .int (nI r), .int (nI q), .int (nI t), .int (nI 1), .int (nI (i + 1))]) hA si_209_113 rfl rfl (by rw [sq_l_209]; decide) rfl ?_
    refine sr_goto (tgt := 75) hA si_209_116 (by decide) ?_
    exact ih (i + 1) (by omega)
set_option maxRecDepth 20000 in
theorem mc_back_r3M (X : sp_X) (g : sp_G) {r : Nat} (hr : r < 6) {q : Nat} (hq4 : q ≤ 4) {t : Nat} (ht : t < 6)  {n : Nat} (hn : g.1 64 11 = nI n) (hn0 : 0 < n) (hb : n ≤ 6) (hz : g.1 66 r = nI n) {b : Nat} (hbz : b < n) (hks : sp_ks (fun i => g.1 67 (40 * r + i)) 1000 b) {x : Int32} (hx : x < 0) (ex : g.1 67 (40 * r + b) = x) : sp_Ct X 9 209 [.ref 64, .int (nI r), .int (nI q), .int (nI t)] g (sp_Fi (-3) (sp_rm6 g 3)) := by
  refine sp_walkN (n := 6) sq_p_209 sq_l_209 (Nat.le_of_ble_eq_true rfl) (fun ac hA => ?_)
  show sp_Ev X ac 209 0 [.ref 64, .int (nI r), .int (nI q), .int (nI t), .null, .null] [] g
  refine sr_iload_n hA si_209_0 rfl ?_
  refine sr_SFi (as := [.int (nI r)]) (st := []) hA si_209_1 ss_140 sk_209_93 (mc_isRow1 X g (by omega)) (by omega) rfl rfl (Nat.le_of_ble_eq_true rfl) ?_
  refine sr_if_eqN (tgt := 23) hA si_209_4 (by decide) (by omega) (fun c1 => absurd c1 (by omega)) (fun c1 => ?_)
  refine sr_iload_n hA si_209_7 rfl ?_
  refine sr_iconst (v := nI 0) hA si_209_8 (by decide) ?_
  refine sr_iconst (v := nI 4) hA si_209_9 (by decide) ?_
  refine sr_SFi (as := [.int (nI q), .int (nI 0), .int (nI 4)]) (st := []) hA si_209_10 ss_135 sk_209_83 (mc_inN X g (by omega) (by omega) (by omega)) (by omega) rfl rfl (Nat.le_of_ble_eq_true rfl) ?_
  refine sr_if_eqN (tgt := 23) hA si_209_13 (by decide) (by omega) (fun c2 => absurd c2 (by omega)) (fun c2 => ?_)
  refine sr_iload_n hA si_209_16 rfl ?_
  refine sr_SFi (as := [.int (nI t)]) (st := []) hA si_209_17 ss_140 sk_209_93 (mc_isRow1 X g (by omega)) (by omega) rfl rfl (Nat.le_of_ble_eq_true rfl) ?_
  refine sr_if_neN (tgt := 25) hA si_209_20 (by decide) (by omega) (fun c3 => ?_) (fun c3 => absurd c3 (by omega))
  refine sr_aload_n hA si_209_25 rfl ?_
  refine sr_getIv (v := nI n) hA si_209_26 sf_209_142 (by decide) (by decide) rfl (by decide) hn ?_
  refine sr_if_neN (tgt := 35) hA si_209_29 (by decide) (by omega) (fun c4 => ?_) (fun c4 => absurd c4 (by omega))
  refine sr_aload_n hA si_209_35 rfl ?_
  refine sr_getR (r := 66) hA si_209_36 sf_209_17 (by decide) (by decide) rfl rfl rfl ?_
  refine sr_iload_n hA si_209_39 rfl ?_
  refine sr_ialdNv (v := nI n) (n := 6) hA si_209_40 (by decide) rfl rfl (by omega) (by decide) hz ?_
  refine sr_if_geN (tgt := 50) hA si_209_41 (by decide) (by omega) ?_
  refine sr_aload_n hA si_209_50 rfl ?_
  refine sr_getR (r := 66) hA si_209_51 sf_209_17 (by decide) (by decide) rfl rfl rfl ?_
  refine sr_iload_n hA si_209_54 rfl ?_
  refine sr_ialdNv (v := nI n) (n := 6) hA si_209_55 (by decide) rfl rfl (by omega) (by decide) hz ?_
  refine sr_aload_n hA si_209_56 rfl ?_
  refine sr_getIv (v := nI n) hA si_209_57 sf_209_142 (by decide) (by decide) rfl (by decide) hn ?_
  refine sr_icmp_eqN (tgt := 69) hA si_209_60 (by decide) (by omega) (by omega) (fun c6 => ?_) (fun c6 => absurd c6 (by omega))
  refine sr_iconst (v := nI 1) hA si_209_69 (by decide) ?_
  refine sr_istore (ls1 := [.ref 64, .int (nI r), .int (nI q), .int (nI t), .int (nI 1), .null]) hA si_209_70 (by rw [sq_l_209]; decide) rfl ?_
  refine sr_iconst (v := nI 0) hA si_209_72 (by decide) ?_
  refine sr_istore (ls1 := [.ref 64, .int (nI r), .int (nI q), .int (nI t), .int (nI 1), .int (nI 0)]) hA si_209_73 (by rw [sq_l_209]; decide) rfl ?_
  exact ml_bk3M hr hn hb hbz hks hx ex hA b 0 (by omega)
set_option maxRecDepth 20000 in
theorem ml_bk3H {X : sp_X} {ac : sp_Ac} {g : sp_G} {r q t n : Nat} (hr : r < 6) (hn : g.1 64 11 = nI n) (hb : n ≤ 6) {b : Nat} (hbz : b < n) (hks : sp_ks (fun i => g.1 67 (40 * r + i)) 1000 b) {e : Nat} (hen : 1000 ≤ e) (heb : e < 2 ^ 31) (ex : g.1 67 (40 * r + b) = nI e) (hA : sp_Act X 209 9 (sp_Fi (-3) (sp_rm6 g 3)) ac) : ∀ (m : Nat) (i : Nat), i + m = b → sp_Ev X ac 209 75 [.ref 64, .int (nI r), .int (nI q), .int (nI t), .int (nI 1), .int (nI i)] [] g := by
  intro m
  induction m with
  | zero =>
    intro i h0_
    refine sr_iload hA si_209_75 rfl ?_
    refine sr_aload_n hA si_209_77 rfl ?_
    refine sr_getIv (v := nI n) hA si_209_78 sf_209_142 (by decide) (by decide) rfl (by decide) hn ?_
    refine sr_icmp_geN (tgt := 119) hA si_209_81 (by decide) (by omega) (by omega) (fun c1 => absurd c1 (by omega)) (fun c1 => ?_)
    refine sr_iload hA si_209_84 rfl ?_
    refine sr_if_eqN (tgt := 110) hA si_209_86 (by decide) (by omega) (fun c2 => absurd c2 (by omega)) (fun c2 => ?_)
    refine sr_aload_n hA si_209_89 rfl ?_
    refine sr_iload_n hA si_209_90 rfl ?_
    refine sr_iload hA si_209_91 rfl ?_
    refine sr_VFi (c := 64) (ci := 8) (as := [.int (nI r), .int (nI i)]) (st := []) hA si_209_93 sv_143 sk_209_101 (by have h := mc_rowAt X g (r := r) (i := i) (by omega); rw [show g.1 67 (40 * r + i) = nI e from (by rw [show i = b by omega]; exact ex)] at h; exact h) (by omega) rfl (by decide) (by decide) rfl sq_c_143 rfl (Nat.le_of_ble_eq_true rfl) ?_
    refine sr_iconst (v := nI 0) hA si_209_96 (by decide) ?_
    refine sr_sipush (v := nI 999) hA si_209_97 (by decide) ?_
    refine sr_SFi (as := [.int (nI e), .int (nI 0), .int (nI 999)]) (st := []) hA si_209_100 ss_135 sk_209_83 (mc_inH X g (by omega) (by omega)) (by omega) rfl rfl (Nat.le_of_ble_eq_true rfl) ?_
    refine sr_if_eqN (tgt := 110) hA si_209_103 (by decide) (by omega) (fun c3 => ?_) (fun c3 => absurd c3 (by omega))
    refine sr_iconst (v := nI 0) hA si_209_110 (by decide) ?_
    refine sr_istore (ls1 := [.ref 64, .int (nI r), .int (nI q), .int (nI t), .int (nI 0), .int (nI i)]) hA si_209_111 (by rw [sq_l_209]; decide) rfl ?_
    refine sr_iincN (x := i) (y := 1) (ls1 := [.ref 64, .int (nI r), .int (nI q), .int (nI t), .int (nI 0), .int (nI (i + 1))]) hA si_209_113 rfl rfl (by rw [sq_l_209]; decide) rfl ?_
    refine sr_goto (tgt := 75) hA si_209_116 (by decide) ?_
    exact ml_bkB hr hn hb hA (n - (i + 1)) (i + 1) (by omega)
  | succ m ih =>
    intro i h0_
    obtain ⟨a, ha, ea⟩ := hks i (by omega)
    refine sr_iload hA si_209_75 rfl ?_
    refine sr_aload_n hA si_209_77 rfl ?_
    refine sr_getIv (v := nI n) hA si_209_78 sf_209_142 (by decide) (by decide) rfl (by decide) hn ?_
    refine sr_icmp_geN (tgt := 119) hA si_209_81 (by decide) (by omega) (by omega) (fun c1 => absurd c1 (by omega)) (fun c1 => ?_)
    refine sr_iload hA si_209_84 rfl ?_
    refine sr_if_eqN (tgt := 110) hA si_209_86 (by decide) (by omega) (fun c2 => absurd c2 (by omega)) (fun c2 => ?_)
    refine sr_aload_n hA si_209_89 rfl ?_
    refine sr_iload_n hA si_209_90 rfl ?_
    refine sr_iload hA si_209_91 rfl ?_
    refine sr_VFi (c := 64) (ci := 8) (as := [.int (nI r), .int (nI i)]) (st := []) hA si_209_93 sv_143 sk_209_101 (by have h := mc_rowAt X g (r := r) (i := i) (by omega); rw [show g.1 67 (40 * r + i) = nI a from ea] at h; exact h) (by omega) rfl (by decide) (by decide) rfl sq_c_143 rfl (Nat.le_of_ble_eq_true rfl) ?_
    refine sr_iconst (v := nI 0) hA si_209_96 (by decide) ?_
    refine sr_sipush (v := nI 999) hA si_209_97 (by decide) ?_
    refine sr_SFi (as := [.int (nI a), .int (nI 0), .int (nI 999)]) (st := []) hA si_209_100 ss_135 sk_209_83 (mc_inN X g (by omega) (by omega) (by omega)) (by omega) rfl rfl (Nat.le_of_ble_eq_true rfl) ?_
    refine sr_if_eqN (tgt := 110) hA si_209_103 (by decide) (by omega) (fun c3 => absurd c3 (by omega)) (fun c3 => ?_)
    refine sr_iconst (v := nI 1) hA si_209_106 (by decide) ?_
    refine sr_goto (tgt := 111) hA si_209_107 (by decide) ?_
    refine sr_istore (ls1 := [.ref 64, .int (nI r), .int (nI q), .int (nI t), .int (nI 1), .int (nI i)]) hA si_209_111 (by rw [sq_l_209]; decide) rfl ?_
    refine sr_iincN (x := i) (y := 1) (ls1 := [.ref 64, .int (nI r), .int (nI q), .int (nI t), .int (nI 1), .int (nI (i + 1))]) hA si_209_113 rfl rfl (by rw [sq_l_209]; decide) rfl ?_
    refine sr_goto (tgt := 75) hA si_209_116 (by decide) ?_
    exact ih (i + 1) (by omega)
set_option maxRecDepth 20000 in
theorem mc_back_r3H (X : sp_X) (g : sp_G) {r : Nat} (hr : r < 6) {q : Nat} (hq4 : q ≤ 4) {t : Nat} (ht : t < 6)  {n : Nat} (hn : g.1 64 11 = nI n) (hn0 : 0 < n) (hb : n ≤ 6) (hz : g.1 66 r = nI n) {b : Nat} (hbz : b < n) (hks : sp_ks (fun i => g.1 67 (40 * r + i)) 1000 b) {e : Nat} (hen : 1000 ≤ e) (heb : e < 2 ^ 31) (ex : g.1 67 (40 * r + b) = nI e) : sp_Ct X 9 209 [.ref 64, .int (nI r), .int (nI q), .int (nI t)] g (sp_Fi (-3) (sp_rm6 g 3)) := by
  refine sp_walkN (n := 6) sq_p_209 sq_l_209 (Nat.le_of_ble_eq_true rfl) (fun ac hA => ?_)
  show sp_Ev X ac 209 0 [.ref 64, .int (nI r), .int (nI q), .int (nI t), .null, .null] [] g
  refine sr_iload_n hA si_209_0 rfl ?_
  refine sr_SFi (as := [.int (nI r)]) (st := []) hA si_209_1 ss_140 sk_209_93 (mc_isRow1 X g (by omega)) (by omega) rfl rfl (Nat.le_of_ble_eq_true rfl) ?_
  refine sr_if_eqN (tgt := 23) hA si_209_4 (by decide) (by omega) (fun c1 => absurd c1 (by omega)) (fun c1 => ?_)
  refine sr_iload_n hA si_209_7 rfl ?_
  refine sr_iconst (v := nI 0) hA si_209_8 (by decide) ?_
  refine sr_iconst (v := nI 4) hA si_209_9 (by decide) ?_
  refine sr_SFi (as := [.int (nI q), .int (nI 0), .int (nI 4)]) (st := []) hA si_209_10 ss_135 sk_209_83 (mc_inN X g (by omega) (by omega) (by omega)) (by omega) rfl rfl (Nat.le_of_ble_eq_true rfl) ?_
  refine sr_if_eqN (tgt := 23) hA si_209_13 (by decide) (by omega) (fun c2 => absurd c2 (by omega)) (fun c2 => ?_)
  refine sr_iload_n hA si_209_16 rfl ?_
  refine sr_SFi (as := [.int (nI t)]) (st := []) hA si_209_17 ss_140 sk_209_93 (mc_isRow1 X g (by omega)) (by omega) rfl rfl (Nat.le_of_ble_eq_true rfl) ?_
  refine sr_if_neN (tgt := 25) hA si_209_20 (by decide) (by omega) (fun c3 => ?_) (fun c3 => absurd c3 (by omega))
  refine sr_aload_n hA si_209_25 rfl ?_
  refine sr_getIv (v := nI n) hA si_209_26 sf_209_142 (by decide) (by decide) rfl (by decide) hn ?_
  refine sr_if_neN (tgt := 35) hA si_209_29 (by decide) (by omega) (fun c4 => ?_) (fun c4 => absurd c4 (by omega))
  refine sr_aload_n hA si_209_35 rfl ?_
  refine sr_getR (r := 66) hA si_209_36 sf_209_17 (by decide) (by decide) rfl rfl rfl ?_
  refine sr_iload_n hA si_209_39 rfl ?_
  refine sr_ialdNv (v := nI n) (n := 6) hA si_209_40 (by decide) rfl rfl (by omega) (by decide) hz ?_
  refine sr_if_geN (tgt := 50) hA si_209_41 (by decide) (by omega) ?_
  refine sr_aload_n hA si_209_50 rfl ?_
  refine sr_getR (r := 66) hA si_209_51 sf_209_17 (by decide) (by decide) rfl rfl rfl ?_
  refine sr_iload_n hA si_209_54 rfl ?_
  refine sr_ialdNv (v := nI n) (n := 6) hA si_209_55 (by decide) rfl rfl (by omega) (by decide) hz ?_
  refine sr_aload_n hA si_209_56 rfl ?_
  refine sr_getIv (v := nI n) hA si_209_57 sf_209_142 (by decide) (by decide) rfl (by decide) hn ?_
  refine sr_icmp_eqN (tgt := 69) hA si_209_60 (by decide) (by omega) (by omega) (fun c6 => ?_) (fun c6 => absurd c6 (by omega))
  refine sr_iconst (v := nI 1) hA si_209_69 (by decide) ?_
  refine sr_istore (ls1 := [.ref 64, .int (nI r), .int (nI q), .int (nI t), .int (nI 1), .null]) hA si_209_70 (by rw [sq_l_209]; decide) rfl ?_
  refine sr_iconst (v := nI 0) hA si_209_72 (by decide) ?_
  refine sr_istore (ls1 := [.ref 64, .int (nI r), .int (nI q), .int (nI t), .int (nI 1), .int (nI 0)]) hA si_209_73 (by rw [sq_l_209]; decide) rfl ?_
  exact ml_bk3H hr hn hb hbz hks hen heb ex hA b 0 (by omega)
theorem mc_back_r3 (X : sp_X) (g : sp_G) {r q t n b : Nat} (hr : r < 6) (hq4 : q ≤ 4) (ht : t < 6) (hn : g.1 64 11 = nI n) (hn0 : 0 < n) (hb : n ≤ 6) (hz : g.1 66 r = nI n) (hbz : b < n) (hks : sp_ks (fun i => g.1 67 (40 * r + i)) 1000 b) (hbk : sp_bk (g.1 67 (40 * r + b)) 1000) : sp_Ct X 9 209 [.ref 64, .int (nI r), .int (nI q), .int (nI t)] g (sp_Fi (-3) (sp_rm6 g 3)) := by
  rcases hbk with hx | ⟨e, h1, h2, h3⟩
  · exact mc_back_r3M X g hr hq4 ht hn hn0 hb hz hbz hks hx rfl
  · exact mc_back_r3H X g hr hq4 ht hn hn0 hb hz hbz hks h1 h2 h3
set_option maxRecDepth 20000 in
theorem ml_bkg {X : sp_X} {dd : Nat} {ac : sp_Ac} {g : sp_G} {r q t n : Nat} (hr : r < 6) (hn : g.1 64 11 = nI n) (hb : n ≤ 6) {Rt : sp_Rt} (hks : sp_ks (fun i => g.1 67 (40 * r + i)) 1000 n) (hdd : 2 ≤ dd) (kk : sp_Ev X ac 209 119 [.ref 64, .int (nI r), .int (nI q), .int (nI t), .int (nI 1), .null] [] g) (hA : sp_Act X 209 dd Rt ac) : ∀ (m : Nat) (i : Nat), i + m = n → sp_Ev X ac 209 75 [.ref 64, .int (nI r), .int (nI q), .int (nI t), .int (nI 1), .int (nI i)] [] g := by
  intro m
  induction m with
  | zero =>
    intro i h0_
    refine sr_iload hA si_209_75 rfl ?_
    refine sr_aload_n hA si_209_77 rfl ?_
    refine sr_getIv (v := nI n) hA si_209_78 sf_209_142 (by decide) (by decide) rfl (by decide) hn ?_
    refine sr_icmp_geN (tgt := 119) hA si_209_81 (by decide) (by omega) (by omega) (fun c1 => ?_) (fun c1 => absurd c1 (by omega))
    refine sr_fg (ls1 := [.ref 64, .int (nI r), .int (nI q), .int (nI t), .int (nI 1), .null]) ⟨Or.inr rfl, Or.inr rfl, Or.inr rfl, Or.inr rfl, Or.inr rfl, Or.inl rfl, trivial⟩ ?_
    exact kk
  | succ m ih =>
    intro i h0_
    obtain ⟨a, ha, ea⟩ := hks i (by omega)
    refine sr_iload hA si_209_75 rfl ?_
    refine sr_aload_n hA si_209_77 rfl ?_
    refine sr_getIv (v := nI n) hA si_209_78 sf_209_142 (by decide) (by decide) rfl (by decide) hn ?_
    refine sr_icmp_geN (tgt := 119) hA si_209_81 (by decide) (by omega) (by omega) (fun c1 => absurd c1 (by omega)) (fun c1 => ?_)
    refine sr_iload hA si_209_84 rfl ?_
    refine sr_if_eqN (tgt := 110) hA si_209_86 (by decide) (by omega) (fun c2 => absurd c2 (by omega)) (fun c2 => ?_)
    refine sr_aload_n hA si_209_89 rfl ?_
    refine sr_iload_n hA si_209_90 rfl ?_
    refine sr_iload hA si_209_91 rfl ?_
    refine sr_VFi (c := 64) (ci := 8) (as := [.int (nI r), .int (nI i)]) (st := []) hA si_209_93 sv_143 sk_209_101 (by have h := mc_rowAt X g (r := r) (i := i) (by omega); rw [show g.1 67 (40 * r + i) = nI a from ea] at h; exact h) (by omega) rfl (by decide) (by decide) rfl sq_c_143 rfl (Nat.le_of_ble_eq_true rfl) ?_
    refine sr_iconst (v := nI 0) hA si_209_96 (by decide) ?_
    refine sr_sipush (v := nI 999) hA si_209_97 (by decide) ?_
    refine sr_SFi (as := [.int (nI a), .int (nI 0), .int (nI 999)]) (st := []) hA si_209_100 ss_135 sk_209_83 (mc_inN X g (by omega) (by omega) (by omega)) (by omega) rfl rfl (Nat.le_of_ble_eq_true rfl) ?_
    refine sr_if_eqN (tgt := 110) hA si_209_103 (by decide) (by omega) (fun c3 => absurd c3 (by omega)) (fun c3 => ?_)
    refine sr_iconst (v := nI 1) hA si_209_106 (by decide) ?_
    refine sr_goto (tgt := 111) hA si_209_107 (by decide) ?_
    refine sr_istore (ls1 := [.ref 64, .int (nI r), .int (nI q), .int (nI t), .int (nI 1), .int (nI i)]) hA si_209_111 (by rw [sq_l_209]; decide) rfl ?_
    refine sr_iincN (x := i) (y := 1) (ls1 := [.ref 64, .int (nI r), .int (nI q), .int (nI t), .int (nI 1), .int (nI (i + 1))]) hA si_209_113 rfl rfl (by rw [sq_l_209]; decide) rfl ?_
    refine sr_goto (tgt := 75) hA si_209_116 (by decide) ?_
    exact ih (i + 1) (by omega)
set_option maxRecDepth 20000 in
theorem ml_bkp {X : sp_X} {dd : Nat} {ac : sp_Ac} {g : sp_G} {r q t n : Nat} (hr : r < 6) (hn : g.1 64 11 = nI n) (hb : n ≤ 6) {Rt : sp_Rt} {f : Nat → Int32} (hf : ∀ i, i < n → g.1 67 (40 * r + i) = f i) (hdd : 2 ≤ dd) (kk : ∀ gg, sp_abm g gg n f 9 → sp_Ev X ac 209 173 [.ref 64, .int (nI r), .int (nI q), .int (nI t), .null, .null] [] gg) (hA : sp_Act X 209 dd Rt ac) : ∀ (m : Nat) (i : Nat) (gg : sp_G), i + m = 9 → sp_abm g gg n f i → sp_Ev X ac 209 133 [.ref 64, .int (nI r), .int (nI q), .int (nI t), .null, .int (nI i)] [] gg := by
  intro m
  induction m with
  | zero =>
    intro i gg h0_ h1_
    refine sr_iload hA si_209_133 rfl ?_
    refine sr_bipush (v := nI 9) hA si_209_135 (by decide) ?_
    refine sr_icmp_geN (tgt := 173) hA si_209_137 (by decide) (by omega) (by omega) (fun c1 => ?_) (fun c1 => absurd c1 (by omega))
    refine sr_fg (ls1 := [.ref 64, .int (nI r), .int (nI q), .int (nI t), .null, .null]) ⟨Or.inr rfl, Or.inr rfl, Or.inr rfl, Or.inr rfl, Or.inl rfl, Or.inl rfl, trivial⟩ ?_
    exact kk gg (by rw [show i = 9 by omega] at h1_; exact h1_)
  | succ m ih =>
    intro i gg h0_ h1_
    by_cases hin : i < n
    · refine sr_iload hA si_209_133 rfl ?_
      refine sr_bipush (v := nI 9) hA si_209_135 (by decide) ?_
      refine sr_icmp_geN (tgt := 173) hA si_209_137 (by decide) (by omega) (by omega) (fun c1 => absurd c1 (by omega)) (fun c1 => ?_)
      refine sr_aload_n hA si_209_140 rfl ?_
      refine sr_iconst (v := nI 1) hA si_209_141 (by decide) ?_
      refine sr_iload hA si_209_142 rfl ?_
      refine sr_iload hA si_209_144 rfl ?_
      refine sr_aload_n hA si_209_146 rfl ?_
      refine sr_getIv (v := nI n) hA si_209_147 sf_209_142 (by decide) (by decide) rfl (by decide) ((h1_.1.1 64 11 (by omega)).trans hn) ?_
      refine sr_icmp_geN (tgt := 163) hA si_209_150 (by decide) (by omega) (by omega) (fun c2 => absurd c2 (by omega)) (fun c2 => ?_)
      refine sr_aload_n hA si_209_153 rfl ?_
      refine sr_iload_n hA si_209_154 rfl ?_
      refine sr_iload hA si_209_155 rfl ?_
      refine sr_VFi (c := 64) (ci := 8) (as := [.int (nI r), .int (nI i)]) (st := [.int (nI i), .int (nI 1), .ref 64]) hA si_209_157 sv_143 sk_209_101 (by have h := mc_rowAt X gg (r := r) (i := i) (by omega); rw [show gg.1 67 (40 * r + i) = f i from (h1_.1.1 67 _ (by omega)).trans (hf i (by omega))] at h; exact h) (by omega) rfl (by decide) (by decide) rfl sq_c_143 rfl (Nat.le_of_ble_eq_true rfl) ?_
      refine sr_goto (tgt := 164) hA si_209_160 (by decide) ?_
      refine sr_VFv (c := 64) (ci := 8) (as := [.int (nI 1), .int (nI i), .int (f i)]) (st := []) hA si_209_164 sv_160 sk_209_145 (mc_place X gg (f := 1) (i := i) (by omega) (f i)) (by omega) rfl (by decide) (by decide) rfl sq_c_160 rfl (Nat.le_of_ble_eq_true rfl) ?_
      refine sr_iincN (x := i) (y := 1) (ls1 := [.ref 64, .int (nI r), .int (nI q), .int (nI t), .null, .int (nI (i + 1))]) hA si_209_167 rfl rfl (by rw [sq_l_209]; decide) rfl ?_
      refine sr_goto (tgt := 133) hA si_209_170 (by decide) ?_
      exact ih (i + 1) _ (by omega) (h1_.step (by omega) (by unfold sp_fn; rw [if_pos hin]))
    · refine sr_iload hA si_209_133 rfl ?_
      refine sr_bipush (v := nI 9) hA si_209_135 (by decide) ?_
      refine sr_icmp_geN (tgt := 173) hA si_209_137 (by decide) (by omega) (by omega) (fun c1 => absurd c1 (by omega)) (fun c1 => ?_)
      refine sr_aload_n hA si_209_140 rfl ?_
      refine sr_iconst (v := nI 1) hA si_209_141 (by decide) ?_
      refine sr_iload hA si_209_142 rfl ?_
      refine sr_iload hA si_209_144 rfl ?_
      refine sr_aload_n hA si_209_146 rfl ?_
      refine sr_getIv (v := nI n) hA si_209_147 sf_209_142 (by decide) (by decide) rfl (by decide) ((h1_.1.1 64 11 (by omega)).trans hn) ?_
      refine sr_icmp_geN (tgt := 163) hA si_209_150 (by decide) (by omega) (by omega) (fun c2 => ?_) (fun c2 => absurd c2 (by omega))
      refine sr_iconst (v := nI 0) hA si_209_163 (by decide) ?_
      refine sr_VFv (c := 64) (ci := 8) (as := [.int (nI 1), .int (nI i), .int (nI 0)]) (st := []) hA si_209_164 sv_160 sk_209_145 (mc_place X gg (f := 1) (i := i) (by omega) (nI 0)) (by omega) rfl (by decide) (by decide) rfl sq_c_160 rfl (Nat.le_of_ble_eq_true rfl) ?_
      refine sr_iincN (x := i) (y := 1) (ls1 := [.ref 64, .int (nI r), .int (nI q), .int (nI t), .null, .int (nI (i + 1))]) hA si_209_167 rfl rfl (by rw [sq_l_209]; decide) rfl ?_
      refine sr_goto (tgt := 133) hA si_209_170 (by decide) ?_
      exact ih (i + 1) _ (by omega) (h1_.step (by omega) (by unfold sp_fn; rw [if_neg hin]; rfl))
set_option maxRecDepth 20000 in
theorem mc_back_go (X : sp_X) (g : sp_G) {r : Nat} (hr : r < 6) {q : Nat} (hq4 : q ≤ 4) {t : Nat} (ht : t < 6)  {n : Nat} (hn : g.1 64 11 = nI n) (hn0 : 0 < n) (hb : n ≤ 6) (hz : g.1 66 r = nI n) (hks : sp_ks (fun i => g.1 67 (40 * r + i)) 1000 n) {K T P u f : Nat → Int32} (hf : ∀ i, i < n → g.1 67 (40 * r + i) = f i) (hK : sp_KM n K T P g) (hu : sp_f8 g 0 u) : sp_Ct X (q + 7) 209 [.ref 64, .int (nI r), .int (nI q), .int (nI t)] g (sp_Ri (fun x g' => x = nI (sp_go n K T P (sp_lb n u) q 0 (sp_fn n f) (fun _ => 0) (0, none)).1 ∧ sp_bqM 83 q t g g' (sp_go n K T P (sp_lb n u) q 0 (sp_fn n f) (fun _ => 0) (0, none)).2)) := by
  have hq6 : 0 + 6 ^ q ≤ 2000 := by
    have := Nat.pow_le_pow_right (n := 6) (by omega) hq4
    omega
  refine sp_walkN (n := 6) sq_p_209 sq_l_209 (Nat.le_of_ble_eq_true rfl) (fun ac hA => ?_)
  show sp_Ev X ac 209 0 [.ref 64, .int (nI r), .int (nI q), .int (nI t), .null, .null] [] g
  refine sr_iload_n hA si_209_0 rfl ?_
  refine sr_SFi (as := [.int (nI r)]) (st := []) hA si_209_1 ss_140 sk_209_93 (mc_isRow1 X g (by omega)) (by omega) rfl rfl (Nat.le_of_ble_eq_true rfl) ?_
  refine sr_if_eqN (tgt := 23) hA si_209_4 (by decide) (by omega) (fun c1 => absurd c1 (by omega)) (fun c1 => ?_)
  refine sr_iload_n hA si_209_7 rfl ?_
  refine sr_iconst (v := nI 0) hA si_209_8 (by decide) ?_
  refine sr_iconst (v := nI 4) hA si_209_9 (by decide) ?_
  refine sr_SFi (as := [.int (nI q), .int (nI 0), .int (nI 4)]) (st := []) hA si_209_10 ss_135 sk_209_83 (mc_inN X g (by omega) (by omega) (by omega)) (by omega) rfl rfl (Nat.le_of_ble_eq_true rfl) ?_
  refine sr_if_eqN (tgt := 23) hA si_209_13 (by decide) (by omega) (fun c2 => absurd c2 (by omega)) (fun c2 => ?_)
  refine sr_iload_n hA si_209_16 rfl ?_
  refine sr_SFi (as := [.int (nI t)]) (st := []) hA si_209_17 ss_140 sk_209_93 (mc_isRow1 X g (by omega)) (by omega) rfl rfl (Nat.le_of_ble_eq_true rfl) ?_
  refine sr_if_neN (tgt := 25) hA si_209_20 (by decide) (by omega) (fun c3 => ?_) (fun c3 => absurd c3 (by omega))
  refine sr_aload_n hA si_209_25 rfl ?_
  refine sr_getIv (v := nI n) hA si_209_26 sf_209_142 (by decide) (by decide) rfl (by decide) hn ?_
  refine sr_if_neN (tgt := 35) hA si_209_29 (by decide) (by omega) (fun c4 => ?_) (fun c4 => absurd c4 (by omega))
  refine sr_aload_n hA si_209_35 rfl ?_
  refine sr_getR (r := 66) hA si_209_36 sf_209_17 (by decide) (by decide) rfl rfl rfl ?_
  refine sr_iload_n hA si_209_39 rfl ?_
  refine sr_ialdNv (v := nI n) (n := 6) hA si_209_40 (by decide) rfl rfl (by omega) (by decide) hz ?_
  refine sr_if_geN (tgt := 50) hA si_209_41 (by decide) (by omega) ?_
  refine sr_aload_n hA si_209_50 rfl ?_
  refine sr_getR (r := 66) hA si_209_51 sf_209_17 (by decide) (by decide) rfl rfl rfl ?_
  refine sr_iload_n hA si_209_54 rfl ?_
  refine sr_ialdNv (v := nI n) (n := 6) hA si_209_55 (by decide) rfl rfl (by omega) (by decide) hz ?_
  refine sr_aload_n hA si_209_56 rfl ?_
  refine sr_getIv (v := nI n) hA si_209_57 sf_209_142 (by decide) (by decide) rfl (by decide) hn ?_
  refine sr_icmp_eqN (tgt := 69) hA si_209_60 (by decide) (by omega) (by omega) (fun c6 => ?_) (fun c6 => absurd c6 (by omega))
  refine sr_iconst (v := nI 1) hA si_209_69 (by decide) ?_
  refine sr_istore (ls1 := [.ref 64, .int (nI r), .int (nI q), .int (nI t), .int (nI 1), .null]) hA si_209_70 (by rw [sq_l_209]; decide) rfl ?_
  refine sr_iconst (v := nI 0) hA si_209_72 (by decide) ?_
  refine sr_istore (ls1 := [.ref 64, .int (nI r), .int (nI q), .int (nI t), .int (nI 1), .int (nI 0)]) hA si_209_73 (by rw [sq_l_209]; decide) rfl ?_
  refine ml_bkg hr hn hb hks (by omega) ?_ hA n 0 (by omega)
  refine sr_iload hA si_209_119 rfl ?_
  refine sr_if_neN (tgt := 130) hA si_209_121 (by decide) (by omega) (fun c7 => ?_) (fun c7 => absurd c7 (by omega))
  refine sr_iconst (v := nI 0) hA si_209_130 (by decide) ?_
  refine sr_istore (ls1 := [.ref 64, .int (nI r), .int (nI q), .int (nI t), .int (nI 1), .int (nI 0)]) hA si_209_131 (by rw [sq_l_209]; decide) rfl ?_
  refine sr_fg (ls1 := [.ref 64, .int (nI r), .int (nI q), .int (nI t), .null, .int (nI 0)]) ⟨Or.inr rfl, Or.inr rfl, Or.inr rfl, Or.inr rfl, Or.inl rfl, Or.inr rfl, trivial⟩ ?_
  refine ml_bkp hr hn hb hf (by omega) (fun gg hgg => ?_) hA 9 0 _ (by omega) ⟨⟨fun _ _ _ => rfl, rfl⟩, fun j hj => absurd hj (by omega)⟩
  refine sr_aload_n hA si_209_173 rfl ?_
  refine sr_iconst (v := nI 0) hA si_209_174 (by decide) ?_
  refine sr_putI hA si_209_175 sf_209_247 rfl rfl (by decide) (by decide) rfl rfl ?_
  refine sr_aload_n hA si_209_178 rfl ?_
  refine sr_iconst (v := nI 0) hA si_209_179 (by decide) ?_
  refine sr_iload_n hA si_209_180 rfl ?_
  have am : sp_ma g (sp_wI gg 64 32 (nI 0)) := (sp_ma.rf.fx hgg.1 (by omega)).wI (by omega)
  have hu2 : sp_f8 (sp_wI gg 64 32 (nI 0)) 0 u := fun j hj => by
    rw [← hu j hj]
    show gg.1 75 (9 * 0 + j) = g.1 75 (9 * 0 + j)
    exact hgg.1.1 75 _ (by omega)
  refine sr_VRv (c := 64) (ci := 8) (as := [.int (nI 0), .int (nI q)]) (st := []) hA si_209_181 sv_210 sk_209_259 (mb_bk X (u := u) hq4 q 0 (sp_fn n f) (fun _ => 0) (sp_wI gg 64 32 (nI 0)) (0, none) (by omega) (hK.ma am) hgg.f8 (fun j hj => absurd hj (by omega)) hu2 ⟨rfl, ⟨fun _ => rfl, fun _ => rfl⟩, fun w hw => by cases hw⟩ hq6) (by omega) rfl (by decide) (by decide) rfl sq_c_210 rfl (Nat.le_of_ble_eq_true rfl) (fun g3 q3 => ?_)
  obtain ⟨S, eS⟩ : ∃ z, z = (sp_go n K T P (sp_lb n u) q 0 (sp_fn n f) (fun _ => 0) (0, none)) := ⟨_, rfl⟩
  have hSb : S.1 ≤ 0 + 6 ^ q := by rw [eS]; exact sp_go_le (c := fun s : sp_Bs => s.1) hb sp_lb_le q 0 _ _ (0, none)
  rw [← eS] at q3
  have am3 := am.tr q3.1.ma
  refine sr_aload_n hA si_209_184 rfl ?_
  refine sr_getIv (v := nI S.1) hA si_209_185 sf_209_247 (by decide) (by decide) rfl (by decide) q3.2.1 ?_
  refine sr_if_leN (tgt := 201) hA si_209_188 (by decide) (by omega) (fun c8 => ?_) (fun c8 => ?_)
  · refine sr_aload_n hA si_209_201 rfl ?_
    refine sr_getIv (v := nI S.1) hA si_209_202 sf_209_247 (by decide) (by decide) rfl (by decide) q3.2.1 ?_
    have hs := q3.2.2.1.mp (by omega)
    exact sr_iretR hA si_209_205 sq_r_209 ⟨by rw [← eS], by rw [← eS]; exact ⟨fun _ => am3, fun w hw => by rw [hs] at hw; cases hw⟩⟩
  · refine sr_aload_n hA si_209_191 rfl ?_
    refine sr_iload_n hA si_209_192 rfl ?_
    refine sr_aload_n hA si_209_193 rfl ?_
    refine sr_getR (r := 83) hA si_209_194 sf_209_70 (by decide) (by decide) rfl rfl rfl ?_
    refine sr_iload_n hA si_209_197 rfl ?_
    refine sr_VRv (c := 64) (ci := 8) (as := [.int (nI t), .ref 83, .int (nI q)]) (st := []) hA si_209_198 sv_197 sk_209_221 (mb_lay83 X g3 (r := t) (q := q) ht (by omega)) (by omega) rfl (by decide) (by decide) rfl sq_c_197 rfl (Nat.le_of_ble_eq_true rfl) (fun g4 q4 => ?_)
    refine sr_aload_n hA si_209_201 rfl ?_
    refine sr_getIv (v := nI S.1) hA si_209_202 sf_209_247 (by decide) (by decide) rfl (by decide) ((congrFun (q4.1 64 (by decide) (by decide)) 32).trans q3.2.1) ?_
    have hs : S.2 ≠ none := fun e => absurd (q3.2.2.1.mpr e) (by omega)
    exact sr_iretR hA si_209_205 sq_r_209 ⟨by rw [← eS], by rw [← eS]; exact ⟨fun hw => absurd hw hs, fun w hw => ⟨g3, am3, q4, q3.2.2.2 w hw⟩⟩⟩
theorem pr_back {X : sp_X} {g : sp_G} (h : sp_Rel g) (r q t : Int32) : sp_Pi X 100 209 [.int r, .int q, .int t] g := by
  obtain ⟨hF, hR, hT, n, dm, hK, hS, hP⟩ := id h
  obtain ⟨k1, k2, k3, k4⟩ := id hK
  rcases sp_cls r with hr | ⟨r, hrb, rfl⟩
  · exact sp_pF (xc_back_a X g hr q t) (mc_back_a X g hr q t) (by omega) (by omega) h
  by_cases hr : r < 6
  rotate_left
  · exact sp_pF (xc_back_b X g (by omega) hrb q t) (mc_back_b X g (by omega) hrb q t) (by omega) (by omega) h
  have hbad : (∃ d, d ≤ 40 ∧ sp_Ct X d 209 [.ref 64, .int (nI r), .int q, .int t] g (sp_Fi (-1) g)) ∧ (∃ d, d ≤ 40 ∧ sp_Ct X d 100 [.ref 0, .int (nI r), .int q, .int t] g (sp_Fi (-1) g)) ∨ ∃ q' t', q' ≤ 4 ∧ t' < 6 ∧ q = nI q' ∧ t = nI t' := by
    rcases sp_cls q with hq | ⟨q, hqb, rfl⟩
    · rcases sp_cls t with ht | ⟨t, htb, rfl⟩
      · exact Or.inl ⟨⟨9, by omega, mc_back_c X g hr hq t⟩, 9, by omega, xc_back_c X g hr q ht⟩
      · by_cases ht : t < 6
        · exact Or.inl ⟨⟨9, by omega, mc_back_c X g hr hq _⟩, 9, by omega, xc_back_e X g hr hq ht⟩
        · exact Or.inl ⟨⟨9, by omega, mc_back_c X g hr hq _⟩, 9, by omega, xc_back_d X g hr q (by omega) htb⟩
    · by_cases hq : q ≤ 4
      · rcases sp_cls t with ht | ⟨t, htb, rfl⟩
        · exact Or.inl ⟨⟨9, by omega, mc_back_e X g hr hq ht⟩, 9, by omega, xc_back_c X g hr _ ht⟩
        · by_cases ht : t < 6
          · exact Or.inr ⟨q, t, hq, ht, rfl, rfl⟩
          · exact Or.inl ⟨⟨9, by omega, mc_back_f X g hr hq (by omega) htb⟩, 9, by omega, xc_back_d X g hr _ (by omega) htb⟩
      · rcases sp_cls t with ht | ⟨t, htb, rfl⟩
        · exact Or.inl ⟨⟨9, by omega, mc_back_d X g hr (by omega) hqb t⟩, 9, by omega, xc_back_c X g hr _ ht⟩
        · by_cases ht : t < 6
          · exact Or.inl ⟨⟨9, by omega, mc_back_d X g hr (by omega) hqb _⟩, 9, by omega, xc_back_f X g hr (by omega) hqb ht⟩
          · exact Or.inl ⟨⟨9, by omega, mc_back_d X g hr (by omega) hqb _⟩, 9, by omega, xc_back_d X g hr _ (by omega) htb⟩
  rcases hbad with ⟨⟨d2, h2, hm⟩, d1, h1, hx⟩ | ⟨q, t, hq, ht, rfl, rfl⟩
  · exact sp_pF hx hm h1 h2 h
  rcases sp_n0 hK with ⟨z1, z2⟩ | ⟨hn0, -, -⟩
  · exact sp_pF (xc_back_s X g hr hq ht z1) (mc_back_s X g hr hq ht z2) (by omega) (by omega) h
  rcases sp_rowsz h hr with ⟨z1, z2⟩ | ⟨z, zb, z1, z2⟩
  · exact sp_pF (xc_back_r1 X g hr hq ht k2 hn0 k1 z1) (mc_back_r1 X (sp_rx g 1) hr hq ht k3 hn0 k1 z2) (by omega) (by omega) (h.ref (by omega))
  by_cases hzn : z = n
  rotate_left
  · exact sp_pF (xc_back_r5 X g hr hq ht k2 hn0 k1 z1 zb hzn) (mc_back_r5 X (sp_rx g 5) hr hq ht k3 hn0 k1 z2 zb hzn) (by omega) (by omega) (h.ref (by omega))
  subst hzn
  have e := sp_rowF h hr
  rcases sp_ks_or (fun i => g.1 (3 + r) i) 1000 z with k | ⟨b, b1, b2, b3⟩
  rotate_left
  · exact sp_pF (xc_back_r3 X g hr hq ht k2 hn0 k1 z1 b1 b2 b3) (mc_back_r3 X (sp_rx g 3) hr hq ht k3 hn0 k1 z2 b1 (sp_ks_c b2 (fun i hi => e i (by omega))) (by show sp_bk (g.1 67 (40 * r + b)) 1000; rw [← e b (by omega)]; exact b3)) (by omega) (by omega) (h.ref (by omega))
  have k' := sp_ks_c k (fun i hi => e i (by omega))
  refine ⟨q + 8, _, by omega, xc_back_go X g hr hq ht k2 hn0 k1 z1 k (f := fun i => g.1 67 (40 * r + i)) (fun i hi => e i (by omega)) k' (sp_Rel.KX hK) hS.hS.d8, fun v g1 q1 => ?_⟩
  obtain ⟨rfl, hbx⟩ := q1
  obtain ⟨S, eS⟩ : ∃ z', z' = sp_go z (g.1 71) (g.1 72) (g.1 73) (sp_lb z (g.1 75)) q 0 (sp_fn z (fun i => g.1 67 (40 * r + i))) (fun _ => 0) (0, none) := ⟨_, rfl⟩
  rw [← eS] at hbx
  have o : ∀ c, 63 < c → g1.1 c = g.1 c := fun c hc => by
    cases hs : S.2 with
    | none => exact (hbx.1 hs).i c (by unfold sp_xs; omega)
    | some w =>
      obtain ⟨g3, a1, a2, -⟩ := hbx.2 w hs
      rw [a2.1 c (by omega) (by omega)]
      exact a1.i c (by unfold sp_xs; omega)
  have hKM : sp_KM z (g.1 71) (g.1 72) (g.1 73) g1 := by
    have := sp_Rel.KM hK
    unfold sp_KM at this ⊢
    rw [o 64 (by omega), o 71 (by omega), o 72 (by omega), o 73 (by omega)]
    exact this
  have hu1 : sp_f8 g1 0 (g.1 75) := fun j hj => by
    show g1.1 75 (9 * 0 + j) = _
    rw [o 75 (by omega), show 9 * 0 + j = j by omega]
  refine ⟨q + 7, _, by omega, mc_back_go X g1 hr hq ht hKM.1 hn0 k1 (by rw [o 66 (by omega)]; exact z2) (by rw [o 67 (by omega)]; exact k') (f := fun i => g.1 67 (40 * r + i)) (fun i hi => by rw [o 67 (by omega)]) hKM hu1, fun v g2 q2 => ?_⟩
  obtain ⟨rfl, hbm⟩ := q2
  rw [← eS] at hbm
  exact ⟨rfl, h.bq ht (by omega) hbx hbm⟩
