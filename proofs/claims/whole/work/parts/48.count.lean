/-- how many of the first k are p -/
def sp_ct (p : Nat → Bool) : Nat → Nat
  | 0 => 0
  | k + 1 => sp_ct p k + (if p k = true then 1 else 0)
theorem sp_ct_le (p : Nat → Bool) : ∀ k, sp_ct p k ≤ k
  | 0 => Nat.le_refl 0
  | k + 1 => by
    have := sp_ct_le p k
    show sp_ct p k + (if p k = true then 1 else 0) ≤ k + 1
    split <;> omega
theorem sp_ct1 {p : Nat → Bool} {k q : Nat} (h : q = sp_ct p k) (hp : p k = true) : q + 1 = sp_ct p (k + 1) := by
  show _ = sp_ct p k + (if p k = true then 1 else 0)
  rw [if_pos hp, h]
theorem sp_ct0 {p : Nat → Bool} {k q : Nat} (h : q = sp_ct p k) (hp : ¬ p k = true) : q = sp_ct p (k + 1) := by
  show _ = sp_ct p k + (if p k = true then 1 else 0)
  rw [if_neg hp, h, Nat.add_zero]
theorem sp_ct_c {p p' : Nat → Bool} : ∀ {k : Nat}, (∀ i, i < k → p i = p' i) → sp_ct p k = sp_ct p' k
  | 0, _ => rfl
  | k + 1, h => by
    show sp_ct p k + _ = sp_ct p' k + _
    rw [sp_ct_c (fun i hi => h i (by omega)), h k (by omega)]
theorem sp_z0 {z : Nat} (hz : z < 2 ^ 31) : (0 : Int32) ≤ nI z := Int32.le_iff_toInt_le.mpr (by rw [nI_toInt hz]; show (0 : Int) ≤ _; omega)
def sp_p5 (K : Nat → Int32) (i : Nat) : Bool := decide (K i = nI 1) || decide (K i = nI 4)
def sp_p6 (S : Nat → Int32) (i : Nat) : Bool := decide (0 ≤ S i)
def sp_p8 (S : Nat → Int32) (i : Nat) : Bool := decide (S i = nI 1)
theorem sp_p6M {S : Nat → Int32} {i : Nat} (h : S i = -1) : ¬ sp_p6 S i = true := by unfold sp_p6; rw [h]; decide
theorem sp_p6P {S : Nat → Int32} {i z : Nat} (h : S i = nI z) (hz : z < 2 ^ 31) : sp_p6 S i = true := by
  unfold sp_p6; rw [h]; exact decide_eq_true (sp_z0 hz)
theorem sp_p80 {S : Nat → Int32} {i : Nat} (h : S i = nI 0) : ¬ sp_p8 S i = true := by unfold sp_p8; rw [h]; decide
theorem sp_p81 {S : Nat → Int32} {i : Nat} (h : S i = nI 1) : sp_p8 S i = true := by unfold sp_p8; rw [h]; decide
/-- what is counted -/
def sp_cv (g : sp_G) (n : Nat) : Nat → Int32
  | 0 => nI n
  | 1 => g.1 64 21
  | 2 => g.1 75 6
  | 3 => g.1 75 7
  | 4 => g.1 75 8
  | 5 => nI (sp_ct (sp_p5 (g.1 71)) n)
  | 6 => nI (sp_ct (sp_p6 (g.1 66)) 6)
  | 7 => nI (sp_ct (sp_p6 (g.1 69)) 4)
  | _ => nI (sp_ct (sp_p8 (g.1 77)) 3)
set_option maxRecDepth 20000 in
theorem xl_c5 {X : sp_X} {ac : sp_Ac} {g : sp_G} {n : Nat} (hn : g.1 18 3 = nI n) (hb : n ≤ 6) (hK : sp_kk g 19 n) (hA : sp_Act X 125 1 (sp_Fi (nI (sp_ct (sp_p5 (g.1 19)) n)) g) ac) : ∀ (m : Nat) (i : Nat) (q : Nat), i + m = n → q = sp_ct (sp_p5 (g.1 19)) i → sp_Ev X ac 125 4 [.ref 18, .int (nI 1), .int (nI q), .int (nI i)] [] g := by
  intro m
  induction m with
  | zero =>
    intro i q h0_ h1_
    refine sr_iload_n hA si_125_4 rfl ?_
    refine sr_aload_n hA si_125_5 rfl ?_
    refine sr_getIv (v := nI n) hA si_125_6 sf_125_21 (by decide) (by decide) rfl (by decide) hn ?_
    refine sr_icmp_geN (tgt := 30) hA si_125_9 (by decide) (by omega) (by omega) (fun c1 => ?_) (fun c1 => absurd c1 (by omega))
    refine sr_iload_n hA si_125_30 rfl ?_
    exact sr_iretF hA si_125_31 sq_r_125 (by rw [h1_, show i = n by omega]) rfl
  | succ m ih =>
    intro i q h0_ h1_
    obtain ⟨k, hk5, ee⟩ := hK i (by omega)
    have hk6 : k = 0 ∨ k = 1 ∨ k = 2 ∨ k = 3 ∨ k = 4 ∨ k = 5 := by omega
    rcases hk6 with rfl | rfl | rfl | rfl | rfl | rfl
    · refine sr_iload_n hA si_125_4 rfl ?_
      refine sr_aload_n hA si_125_5 rfl ?_
      refine sr_getIv (v := nI n) hA si_125_6 sf_125_21 (by decide) (by decide) rfl (by decide) hn ?_
      refine sr_icmp_geN (tgt := 30) hA si_125_9 (by decide) (by omega) (by omega) (fun c1 => absurd c1 (by omega)) (fun c1 => ?_)
      refine sr_aload_n hA si_125_12 rfl ?_
      refine sr_iload_n hA si_125_13 rfl ?_
      refine sr_iload_n hA si_125_14 rfl ?_
      refine sr_VFi (c := 18) (ci := 0) (as := [.int (nI i), .int (nI 1)]) (st := []) hA si_125_15 sv_47 sk_125_34 (xc_isOf01 X g (i := i) (by omega) ee) (by omega) rfl (by decide) (by decide) rfl sq_c_47 rfl (Nat.le_of_ble_eq_true rfl) ?_
      refine sr_if_eqN (tgt := 24) hA si_125_18 (by decide) (by omega) (fun c2 => ?_) (fun c2 => absurd c2 (by omega))
      refine sr_iincN (x := i) (y := 1) (ls1 := [.ref 18, .int (nI 1), .int (nI q), .int (nI (i + 1))]) hA si_125_24 rfl rfl (by rw [sq_l_125]; decide) rfl ?_
      refine sr_goto (tgt := 4) hA si_125_27 (by decide) ?_
      exact ih (i + 1) q (by omega) (sp_ct0 h1_ (by first | exact sp_p6M ee | exact sp_p6P ee (by omega) | (unfold sp_p5; rw [ee]; decide) | exact sp_p80 ee | exact sp_p81 ee))
    · refine sr_iload_n hA si_125_4 rfl ?_
      refine sr_aload_n hA si_125_5 rfl ?_
      refine sr_getIv (v := nI n) hA si_125_6 sf_125_21 (by decide) (by decide) rfl (by decide) hn ?_
      refine sr_icmp_geN (tgt := 30) hA si_125_9 (by decide) (by omega) (by omega) (fun c1 => absurd c1 (by omega)) (fun c1 => ?_)
      refine sr_aload_n hA si_125_12 rfl ?_
      refine sr_iload_n hA si_125_13 rfl ?_
      refine sr_iload_n hA si_125_14 rfl ?_
      refine sr_VFi (c := 18) (ci := 0) (as := [.int (nI i), .int (nI 1)]) (st := []) hA si_125_15 sv_47 sk_125_34 (xc_isOf11 X g (i := i) (by omega) ee) (by omega) rfl (by decide) (by decide) rfl sq_c_47 rfl (Nat.le_of_ble_eq_true rfl) ?_
      refine sr_if_eqN (tgt := 24) hA si_125_18 (by decide) (by omega) (fun c2 => absurd c2 (by omega)) (fun c2 => ?_)
      refine sr_iincN (x := q) (y := 1) (ls1 := [.ref 18, .int (nI 1), .int (nI (q + 1)), .int (nI i)]) hA si_125_21 rfl rfl (by rw [sq_l_125]; decide) rfl ?_
      refine sr_iincN (x := i) (y := 1) (ls1 := [.ref 18, .int (nI 1), .int (nI (q + 1)), .int (nI (i + 1))]) hA si_125_24 rfl rfl (by rw [sq_l_125]; decide) rfl ?_
      refine sr_goto (tgt := 4) hA si_125_27 (by decide) ?_
      exact ih (i + 1) (q + 1) (by omega) (sp_ct1 h1_ (by first | exact sp_p6M ee | exact sp_p6P ee (by omega) | (unfold sp_p5; rw [ee]; decide) | exact sp_p80 ee | exact sp_p81 ee))
    · refine sr_iload_n hA si_125_4 rfl ?_
      refine sr_aload_n hA si_125_5 rfl ?_
      refine sr_getIv (v := nI n) hA si_125_6 sf_125_21 (by decide) (by decide) rfl (by decide) hn ?_
      refine sr_icmp_geN (tgt := 30) hA si_125_9 (by decide) (by omega) (by omega) (fun c1 => absurd c1 (by omega)) (fun c1 => ?_)
      refine sr_aload_n hA si_125_12 rfl ?_
      refine sr_iload_n hA si_125_13 rfl ?_
      refine sr_iload_n hA si_125_14 rfl ?_
      refine sr_VFi (c := 18) (ci := 0) (as := [.int (nI i), .int (nI 1)]) (st := []) hA si_125_15 sv_47 sk_125_34 (xc_isOf21 X g (i := i) (by omega) ee) (by omega) rfl (by decide) (by decide) rfl sq_c_47 rfl (Nat.le_of_ble_eq_true rfl) ?_
      refine sr_if_eqN (tgt := 24) hA si_125_18 (by decide) (by omega) (fun c2 => ?_) (fun c2 => absurd c2 (by omega))
      refine sr_iincN (x := i) (y := 1) (ls1 := [.ref 18, .int (nI 1), .int (nI q), .int (nI (i + 1))]) hA si_125_24 rfl rfl (by rw [sq_l_125]; decide) rfl ?_
      refine sr_goto (tgt := 4) hA si_125_27 (by decide) ?_
      exact ih (i + 1) q (by omega) (sp_ct0 h1_ (by first | exact sp_p6M ee | exact sp_p6P ee (by omega) | (unfold sp_p5; rw [ee]; decide) | exact sp_p80 ee | exact sp_p81 ee))
    · refine sr_iload_n hA si_125_4 rfl ?_
      refine sr_aload_n hA si_125_5 rfl ?_
      refine sr_getIv (v := nI n) hA si_125_6 sf_125_21 (by decide) (by decide) rfl (by decide) hn ?_
      refine sr_icmp_geN (tgt := 30) hA si_125_9 (by decide) (by omega) (by omega) (fun c1 => absurd c1 (by omega)) (fun c1 => ?_)
      refine sr_aload_n hA si_125_12 rfl ?_
      refine sr_iload_n hA si_125_13 rfl ?_
      refine sr_iload_n hA si_125_14 rfl ?_
      refine sr_VFi (c := 18) (ci := 0) (as := [.int (nI i), .int (nI 1)]) (st := []) hA si_125_15 sv_47 sk_125_34 (xc_isOf31 X g (i := i) (by omega) ee) (by omega) rfl (by decide) (by decide) rfl sq_c_47 rfl (Nat.le_of_ble_eq_true rfl) ?_
      refine sr_if_eqN (tgt := 24) hA si_125_18 (by decide) (by omega) (fun c2 => ?_) (fun c2 => absurd c2 (by omega))
      refine sr_iincN (x := i) (y := 1) (ls1 := [.ref 18, .int (nI 1), .int (nI q), .int (nI (i + 1))]) hA si_125_24 rfl rfl (by rw [sq_l_125]; decide) rfl ?_
      refine sr_goto (tgt := 4) hA si_125_27 (by decide) ?_
      exact ih (i + 1) q (by omega) (sp_ct0 h1_ (by first | exact sp_p6M ee | exact sp_p6P ee (by omega) | (unfold sp_p5; rw [ee]; decide) | exact sp_p80 ee | exact sp_p81 ee))
    · refine sr_iload_n hA si_125_4 rfl ?_
      refine sr_aload_n hA si_125_5 rfl ?_
      refine sr_getIv (v := nI n) hA si_125_6 sf_125_21 (by decide) (by decide) rfl (by decide) hn ?_
      refine sr_icmp_geN (tgt := 30) hA si_125_9 (by decide) (by omega) (by omega) (fun c1 => absurd c1 (by omega)) (fun c1 => ?_)
      refine sr_aload_n hA si_125_12 rfl ?_
      refine sr_iload_n hA si_125_13 rfl ?_
      refine sr_iload_n hA si_125_14 rfl ?_
      refine sr_VFi (c := 18) (ci := 0) (as := [.int (nI i), .int (nI 1)]) (st := []) hA si_125_15 sv_47 sk_125_34 (xc_isOf41 X g (i := i) (by omega) ee) (by omega) rfl (by decide) (by decide) rfl sq_c_47 rfl (Nat.le_of_ble_eq_true rfl) ?_
      refine sr_if_eqN (tgt := 24) hA si_125_18 (by decide) (by omega) (fun c2 => absurd c2 (by omega)) (fun c2 => ?_)
      refine sr_iincN (x := q) (y := 1) (ls1 := [.ref 18, .int (nI 1), .int (nI (q + 1)), .int (nI i)]) hA si_125_21 rfl rfl (by rw [sq_l_125]; decide) rfl ?_
      refine sr_iincN (x := i) (y := 1) (ls1 := [.ref 18, .int (nI 1), .int (nI (q + 1)), .int (nI (i + 1))]) hA si_125_24 rfl rfl (by rw [sq_l_125]; decide) rfl ?_
      refine sr_goto (tgt := 4) hA si_125_27 (by decide) ?_
      exact ih (i + 1) (q + 1) (by omega) (sp_ct1 h1_ (by first | exact sp_p6M ee | exact sp_p6P ee (by omega) | (unfold sp_p5; rw [ee]; decide) | exact sp_p80 ee | exact sp_p81 ee))
    · refine sr_iload_n hA si_125_4 rfl ?_
      refine sr_aload_n hA si_125_5 rfl ?_
      refine sr_getIv (v := nI n) hA si_125_6 sf_125_21 (by decide) (by decide) rfl (by decide) hn ?_
      refine sr_icmp_geN (tgt := 30) hA si_125_9 (by decide) (by omega) (by omega) (fun c1 => absurd c1 (by omega)) (fun c1 => ?_)
      refine sr_aload_n hA si_125_12 rfl ?_
      refine sr_iload_n hA si_125_13 rfl ?_
      refine sr_iload_n hA si_125_14 rfl ?_
      refine sr_VFi (c := 18) (ci := 0) (as := [.int (nI i), .int (nI 1)]) (st := []) hA si_125_15 sv_47 sk_125_34 (xc_isOf51 X g (i := i) (by omega) ee) (by omega) rfl (by decide) (by decide) rfl sq_c_47 rfl (Nat.le_of_ble_eq_true rfl) ?_
      refine sr_if_eqN (tgt := 24) hA si_125_18 (by decide) (by omega) (fun c2 => ?_) (fun c2 => absurd c2 (by omega))
      refine sr_iincN (x := i) (y := 1) (ls1 := [.ref 18, .int (nI 1), .int (nI q), .int (nI (i + 1))]) hA si_125_24 rfl rfl (by rw [sq_l_125]; decide) rfl ?_
      refine sr_goto (tgt := 4) hA si_125_27 (by decide) ?_
      exact ih (i + 1) q (by omega) (sp_ct0 h1_ (by first | exact sp_p6M ee | exact sp_p6P ee (by omega) | (unfold sp_p5; rw [ee]; decide) | exact sp_p80 ee | exact sp_p81 ee))
set_option maxRecDepth 20000 in
theorem xc_c5 (X : sp_X) (g : sp_G) {n : Nat} (hn : g.1 18 3 = nI n) (hb : n ≤ 6) (hK : sp_kk g 19 n) : sp_Ct X 1 125 [.ref 18, .int (nI 1)] g (sp_Fi (nI (sp_ct (sp_p5 (g.1 19)) n)) g) := by
  refine sp_walkN (n := 4) sq_p_125 sq_l_125 (Nat.le_of_ble_eq_true rfl) (fun a hA => ?_)
  show sp_Ev X a 125 0 [.ref 18, .int (nI 1), .null, .null] [] g
  refine sr_iconst (v := nI 0) hA si_125_0 (by decide) ?_
  refine sr_istore_n (ls1 := [.ref 18, .int (nI 1), .int (nI 0), .null]) hA si_125_1 rfl (by rw [sq_l_125]; decide) rfl ?_
  refine sr_iconst (v := nI 0) hA si_125_2 (by decide) ?_
  refine sr_istore_n (ls1 := [.ref 18, .int (nI 1), .int (nI 0), .int (nI 0)]) hA si_125_3 rfl (by rw [sq_l_125]; decide) rfl ?_
  exact xl_c5 hn hb hK hA n 0 0 (by omega) rfl
set_option maxRecDepth 20000 in
theorem xl_c6 {X : sp_X} {ac : sp_Ac} {g : sp_G} (hz : ∀ r, r < 6 → sp_sz (g.1 9 r) 40) (hA : sp_Act X 126 1 (sp_Fi (nI (sp_ct (sp_p6 (g.1 9)) 6)) g) ac) : ∀ (m : Nat) (i : Nat) (q : Nat), i + m = 6 → q = sp_ct (sp_p6 (g.1 9)) i → sp_Ev X ac 126 4 [.ref 1, .int (nI q), .int (nI i)] [] g := by
  intro m
  induction m with
  | zero =>
    intro i q h0_ h1_
    refine sr_iload_n hA si_126_4 rfl ?_
    refine sr_aload_n hA si_126_5 rfl ?_
    refine sr_getR (r := 9) hA si_126_6 sf_126_14 (by decide) (by decide) rfl rfl rfl ?_
    refine sr_alen (v := nI 6) hA si_126_9 (by decide) (by decide) rfl ?_
    refine sr_icmp_geN (tgt := 31) hA si_126_10 (by decide) (by omega) (by omega) (fun c1 => ?_) (fun c1 => absurd c1 (by omega))
    refine sr_iload_n hA si_126_31 rfl ?_
    exact sr_iretF hA si_126_32 sq_r_126 (by rw [h1_, show i = 6 by omega]) rfl
  | succ m ih =>
    intro i q h0_ h1_
    rcases hz i (by omega) with ee | ⟨z, zb, ee⟩
    · refine sr_iload_n hA si_126_4 rfl ?_
      refine sr_aload_n hA si_126_5 rfl ?_
      refine sr_getR (r := 9) hA si_126_6 sf_126_14 (by decide) (by decide) rfl rfl rfl ?_
      refine sr_alen (v := nI 6) hA si_126_9 (by decide) (by decide) rfl ?_
      refine sr_icmp_geN (tgt := 31) hA si_126_10 (by decide) (by omega) (by omega) (fun c1 => absurd c1 (by omega)) (fun c1 => ?_)
      refine sr_aload_n hA si_126_13 rfl ?_
      refine sr_getR (r := 9) hA si_126_14 sf_126_14 (by decide) (by decide) rfl rfl rfl ?_
      refine sr_iload_n hA si_126_17 rfl ?_
      refine sr_ialdNv (v := (-1)) (n := 6) hA si_126_18 (by decide) rfl rfl (by omega) (by decide) ee ?_
      refine sr_if_lt (tgt := 25) hA si_126_19 (by decide) (fun c2 => ?_) (fun c2 => absurd (by decide) c2)
      refine sr_iincN (x := i) (y := 1) (ls1 := [.ref 1, .int (nI q), .int (nI (i + 1))]) hA si_126_25 rfl rfl (by rw [sq_l_126]; decide) rfl ?_
      refine sr_goto (tgt := 4) hA si_126_28 (by decide) ?_
      exact ih (i + 1) q (by omega) (sp_ct0 h1_ (by first | exact sp_p6M ee | exact sp_p6P ee (by omega) | (unfold sp_p5; rw [ee]; decide) | exact sp_p80 ee | exact sp_p81 ee))
    · refine sr_iload_n hA si_126_4 rfl ?_
      refine sr_aload_n hA si_126_5 rfl ?_
      refine sr_getR (r := 9) hA si_126_6 sf_126_14 (by decide) (by decide) rfl rfl rfl ?_
      refine sr_alen (v := nI 6) hA si_126_9 (by decide) (by decide) rfl ?_
      refine sr_icmp_geN (tgt := 31) hA si_126_10 (by decide) (by omega) (by omega) (fun c1 => absurd c1 (by omega)) (fun c1 => ?_)
      refine sr_aload_n hA si_126_13 rfl ?_
      refine sr_getR (r := 9) hA si_126_14 sf_126_14 (by decide) (by decide) rfl rfl rfl ?_
      refine sr_iload_n hA si_126_17 rfl ?_
      refine sr_ialdNv (v := nI z) (n := 6) hA si_126_18 (by decide) rfl rfl (by omega) (by decide) ee ?_
      refine sr_if_ltN (tgt := 25) hA si_126_19 (by decide) (by omega) ?_
      refine sr_iincN (x := q) (y := 1) (ls1 := [.ref 1, .int (nI (q + 1)), .int (nI i)]) hA si_126_22 rfl rfl (by rw [sq_l_126]; decide) rfl ?_
      refine sr_iincN (x := i) (y := 1) (ls1 := [.ref 1, .int (nI (q + 1)), .int (nI (i + 1))]) hA si_126_25 rfl rfl (by rw [sq_l_126]; decide) rfl ?_
      refine sr_goto (tgt := 4) hA si_126_28 (by decide) ?_
      exact ih (i + 1) (q + 1) (by omega) (sp_ct1 h1_ (by first | exact sp_p6M ee | exact sp_p6P ee (by omega) | (unfold sp_p5; rw [ee]; decide) | exact sp_p80 ee | exact sp_p81 ee))
set_option maxRecDepth 20000 in
theorem xc_c6 (X : sp_X) (g : sp_G) (hz : ∀ r, r < 6 → sp_sz (g.1 9 r) 40) : sp_Ct X 1 126 [.ref 1] g (sp_Fi (nI (sp_ct (sp_p6 (g.1 9)) 6)) g) := by
  refine sp_walkN (n := 3) sq_p_126 sq_l_126 (Nat.le_of_ble_eq_true rfl) (fun a hA => ?_)
  show sp_Ev X a 126 0 [.ref 1, .null, .null] [] g
  refine sr_iconst (v := nI 0) hA si_126_0 (by decide) ?_
  refine sr_istore_n (ls1 := [.ref 1, .int (nI 0), .null]) hA si_126_1 rfl (by rw [sq_l_126]; decide) rfl ?_
  refine sr_iconst (v := nI 0) hA si_126_2 (by decide) ?_
  refine sr_istore_n (ls1 := [.ref 1, .int (nI 0), .int (nI 0)]) hA si_126_3 rfl (by rw [sq_l_126]; decide) rfl ?_
  exact xl_c6 hz hA 6 0 0 rfl rfl
set_option maxRecDepth 20000 in
theorem xl_c7 {X : sp_X} {ac : sp_Ac} {g : sp_G} (hz : ∀ r, r < 4 → sp_sz (g.1 16 r) 60) (hA : sp_Act X 126 1 (sp_Fi (nI (sp_ct (sp_p6 (g.1 16)) 4)) g) ac) : ∀ (m : Nat) (i : Nat) (q : Nat), i + m = 4 → q = sp_ct (sp_p6 (g.1 16)) i → sp_Ev X ac 126 4 [.ref 10, .int (nI q), .int (nI i)] [] g := by
  intro m
  induction m with
  | zero =>
    intro i q h0_ h1_
    refine sr_iload_n hA si_126_4 rfl ?_
    refine sr_aload_n hA si_126_5 rfl ?_
    refine sr_getR (r := 16) hA si_126_6 sf_126_14 (by decide) (by decide) rfl rfl rfl ?_
    refine sr_alen (v := nI 4) hA si_126_9 (by decide) (by decide) rfl ?_
    refine sr_icmp_geN (tgt := 31) hA si_126_10 (by decide) (by omega) (by omega) (fun c1 => ?_) (fun c1 => absurd c1 (by omega))
    refine sr_iload_n hA si_126_31 rfl ?_
    exact sr_iretF hA si_126_32 sq_r_126 (by rw [h1_, show i = 4 by omega]) rfl
  | succ m ih =>
    intro i q h0_ h1_
    rcases hz i (by omega) with ee | ⟨z, zb, ee⟩
    · refine sr_iload_n hA si_126_4 rfl ?_
      refine sr_aload_n hA si_126_5 rfl ?_
      refine sr_getR (r := 16) hA si_126_6 sf_126_14 (by decide) (by decide) rfl rfl rfl ?_
      refine sr_alen (v := nI 4) hA si_126_9 (by decide) (by decide) rfl ?_
      refine sr_icmp_geN (tgt := 31) hA si_126_10 (by decide) (by omega) (by omega) (fun c1 => absurd c1 (by omega)) (fun c1 => ?_)
      refine sr_aload_n hA si_126_13 rfl ?_
      refine sr_getR (r := 16) hA si_126_14 sf_126_14 (by decide) (by decide) rfl rfl rfl ?_
      refine sr_iload_n hA si_126_17 rfl ?_
      refine sr_ialdNv (v := (-1)) (n := 4) hA si_126_18 (by decide) rfl rfl (by omega) (by decide) ee ?_
      refine sr_if_lt (tgt := 25) hA si_126_19 (by decide) (fun c2 => ?_) (fun c2 => absurd (by decide) c2)
      refine sr_iincN (x := i) (y := 1) (ls1 := [.ref 10, .int (nI q), .int (nI (i + 1))]) hA si_126_25 rfl rfl (by rw [sq_l_126]; decide) rfl ?_
      refine sr_goto (tgt := 4) hA si_126_28 (by decide) ?_
      exact ih (i + 1) q (by omega) (sp_ct0 h1_ (by first | exact sp_p6M ee | exact sp_p6P ee (by omega) | (unfold sp_p5; rw [ee]; decide) | exact sp_p80 ee | exact sp_p81 ee))
    · refine sr_iload_n hA si_126_4 rfl ?_
      refine sr_aload_n hA si_126_5 rfl ?_
      refine sr_getR (r := 16) hA si_126_6 sf_126_14 (by decide) (by decide) rfl rfl rfl ?_
      refine sr_alen (v := nI 4) hA si_126_9 (by decide) (by decide) rfl ?_
      refine sr_icmp_geN (tgt := 31) hA si_126_10 (by decide) (by omega) (by omega) (fun c1 => absurd c1 (by omega)) (fun c1 => ?_)
      refine sr_aload_n hA si_126_13 rfl ?_
      refine sr_getR (r := 16) hA si_126_14 sf_126_14 (by decide) (by decide) rfl rfl rfl ?_
      refine sr_iload_n hA si_126_17 rfl ?_
      refine sr_ialdNv (v := nI z) (n := 4) hA si_126_18 (by decide) rfl rfl (by omega) (by decide) ee ?_
      refine sr_if_ltN (tgt := 25) hA si_126_19 (by decide) (by omega) ?_
      refine sr_iincN (x := q) (y := 1) (ls1 := [.ref 10, .int (nI (q + 1)), .int (nI i)]) hA si_126_22 rfl rfl (by rw [sq_l_126]; decide) rfl ?_
      refine sr_iincN (x := i) (y := 1) (ls1 := [.ref 10, .int (nI (q + 1)), .int (nI (i + 1))]) hA si_126_25 rfl rfl (by rw [sq_l_126]; decide) rfl ?_
      refine sr_goto (tgt := 4) hA si_126_28 (by decide) ?_
      exact ih (i + 1) (q + 1) (by omega) (sp_ct1 h1_ (by first | exact sp_p6M ee | exact sp_p6P ee (by omega) | (unfold sp_p5; rw [ee]; decide) | exact sp_p80 ee | exact sp_p81 ee))
set_option maxRecDepth 20000 in
theorem xc_c7 (X : sp_X) (g : sp_G) (hz : ∀ r, r < 4 → sp_sz (g.1 16 r) 60) : sp_Ct X 1 126 [.ref 10] g (sp_Fi (nI (sp_ct (sp_p6 (g.1 16)) 4)) g) := by
  refine sp_walkN (n := 3) sq_p_126 sq_l_126 (Nat.le_of_ble_eq_true rfl) (fun a hA => ?_)
  show sp_Ev X a 126 0 [.ref 10, .null, .null] [] g
  refine sr_iconst (v := nI 0) hA si_126_0 (by decide) ?_
  refine sr_istore_n (ls1 := [.ref 10, .int (nI 0), .null]) hA si_126_1 rfl (by rw [sq_l_126]; decide) rfl ?_
  refine sr_iconst (v := nI 0) hA si_126_2 (by decide) ?_
  refine sr_istore_n (ls1 := [.ref 10, .int (nI 0), .int (nI 0)]) hA si_126_3 rfl (by rw [sq_l_126]; decide) rfl ?_
  exact xl_c7 hz hA 4 0 0 rfl rfl
set_option maxRecDepth 20000 in
theorem xl_c8 {X : sp_X} {ac : sp_Ac} {g : sp_G} (hz : ∀ k, k < 3 → g.1 (50 + k) 3 = nI 0 ∨ g.1 (50 + k) 3 = nI 1) (hA : sp_Act X 127 1 (sp_Fi (nI (sp_ct (sp_p8 (fun k => g.1 (50 + k) 3)) 3)) g) ac) : ∀ (m : Nat) (i : Nat) (q : Nat), i + m = 3 → q = sp_ct (sp_p8 (fun k => g.1 (50 + k) 3)) i → sp_Ev X ac 127 4 [.ref 0, .int (nI q), .int (nI i)] [] g := by
  intro m
  induction m with
  | zero =>
    intro i q h0_ h1_
    refine sr_iload_n hA si_127_4 rfl ?_
    refine sr_iconst (v := nI 3) hA si_127_5 (by decide) ?_
    refine sr_icmp_geN (tgt := 30) hA si_127_6 (by decide) (by omega) (by omega) (fun c1 => ?_) (fun c1 => absurd c1 (by omega))
    refine sr_iload_n hA si_127_30 rfl ?_
    exact sr_iretF hA si_127_31 sq_r_127 (by rw [h1_, show i = 3 by omega]) rfl
  | succ m ih =>
    intro i q h0_ h1_
    rcases hz i (by omega) with ee | ee
    · refine sr_iload_n hA si_127_4 rfl ?_
      refine sr_iconst (v := nI 3) hA si_127_5 (by decide) ?_
      refine sr_icmp_geN (tgt := 30) hA si_127_6 (by decide) (by omega) (by omega) (fun c1 => absurd c1 (by omega)) (fun c1 => ?_)
      refine sr_aload_n hA si_127_9 rfl ?_
      refine sr_getR (r := 49) hA si_127_10 sf_127_53 (by decide) (by decide) rfl rfl rfl ?_
      refine sr_iload_n hA si_127_13 rfl ?_
      refine sr_aaldN (r := (50 + i)) (n := 3) hA si_127_14 (by decide) (by decide) rfl (by omega) (by decide) (sp_kpr (by omega)) ?_
      refine sr_getIv (v := nI 0) hA si_127_15 sf_127_141 (by decide) (sp_kpK (by omega)) (sp_kpk (by omega)) (by decide) ee ?_
      refine sr_if_eqN (tgt := 24) hA si_127_18 (by decide) (by omega) (fun c2 => ?_) (fun c2 => absurd c2 (by omega))
      refine sr_iincN (x := i) (y := 1) (ls1 := [.ref 0, .int (nI q), .int (nI (i + 1))]) hA si_127_24 rfl rfl (by rw [sq_l_127]; decide) rfl ?_
      refine sr_goto (tgt := 4) hA si_127_27 (by decide) ?_
      exact ih (i + 1) q (by omega) (sp_ct0 h1_ (by first | exact sp_p6M ee | exact sp_p6P ee (by omega) | (unfold sp_p5; rw [ee]; decide) | exact sp_p80 ee | exact sp_p81 ee))
    · refine sr_iload_n hA si_127_4 rfl ?_
      refine sr_iconst (v := nI 3) hA si_127_5 (by decide) ?_
      refine sr_icmp_geN (tgt := 30) hA si_127_6 (by decide) (by omega) (by omega) (fun c1 => absurd c1 (by omega)) (fun c1 => ?_)
      refine sr_aload_n hA si_127_9 rfl ?_
      refine sr_getR (r := 49) hA si_127_10 sf_127_53 (by decide) (by decide) rfl rfl rfl ?_
      refine sr_iload_n hA si_127_13 rfl ?_
      refine sr_aaldN (r := (50 + i)) (n := 3) hA si_127_14 (by decide) (by decide) rfl (by omega) (by decide) (sp_kpr (by omega)) ?_
      refine sr_getIv (v := nI 1) hA si_127_15 sf_127_141 (by decide) (sp_kpK (by omega)) (sp_kpk (by omega)) (by decide) ee ?_
      refine sr_if_eqN (tgt := 24) hA si_127_18 (by decide) (by omega) (fun c2 => absurd c2 (by omega)) (fun c2 => ?_)
      refine sr_iincN (x := q) (y := 1) (ls1 := [.ref 0, .int (nI (q + 1)), .int (nI i)]) hA si_127_21 rfl rfl (by rw [sq_l_127]; decide) rfl ?_
      refine sr_iincN (x := i) (y := 1) (ls1 := [.ref 0, .int (nI (q + 1)), .int (nI (i + 1))]) hA si_127_24 rfl rfl (by rw [sq_l_127]; decide) rfl ?_
      refine sr_goto (tgt := 4) hA si_127_27 (by decide) ?_
      exact ih (i + 1) (q + 1) (by omega) (sp_ct1 h1_ (by first | exact sp_p6M ee | exact sp_p6P ee (by omega) | (unfold sp_p5; rw [ee]; decide) | exact sp_p80 ee | exact sp_p81 ee))
set_option maxRecDepth 20000 in
theorem xc_c8 (X : sp_X) (g : sp_G) (hz : ∀ k, k < 3 → g.1 (50 + k) 3 = nI 0 ∨ g.1 (50 + k) 3 = nI 1) : sp_Ct X 1 127 [.ref 0] g (sp_Fi (nI (sp_ct (sp_p8 (fun k => g.1 (50 + k) 3)) 3)) g) := by
  refine sp_walkN (n := 3) sq_p_127 sq_l_127 (Nat.le_of_ble_eq_true rfl) (fun a hA => ?_)
  show sp_Ev X a 127 0 [.ref 0, .null, .null] [] g
  refine sr_iconst (v := nI 0) hA si_127_0 (by decide) ?_
  refine sr_istore_n (ls1 := [.ref 0, .int (nI 0), .null]) hA si_127_1 rfl (by rw [sq_l_127]; decide) rfl ?_
  refine sr_iconst (v := nI 0) hA si_127_2 (by decide) ?_
  refine sr_istore_n (ls1 := [.ref 0, .int (nI 0), .int (nI 0)]) hA si_127_3 rfl (by rw [sq_l_127]; decide) rfl ?_
  exact xl_c8 hz hA 3 0 0 rfl rfl
set_option maxRecDepth 20000 in
theorem xc_co0 (X : sp_X) (g : sp_G) {n : Nat} (hn : g.1 18 3 = nI n) (hb : n ≤ 6) (hK : sp_kk g 19 n) (hz6 : ∀ r, r < 6 → sp_sz (g.1 9 r) 40) (hz7 : ∀ r, r < 4 → sp_sz (g.1 16 r) 60) (hz8 : ∀ k, k < 3 → g.1 (50 + k) 3 = nI 0 ∨ g.1 (50 + k) 3 = nI 1) : sp_Ct X 3 124 [.ref 0, .int (nI 0)] g (sp_Fi (nI n) g) := by
  refine sp_walkN (n := 2) sq_p_124 sq_l_124 (Nat.le_of_ble_eq_true rfl) (fun a hA => ?_)
  show sp_Ev X a 124 0 [.ref 0, .int (nI 0)] [] g
  refine sr_iload_n hA si_124_0 rfl ?_
  refine sr_tswI (c := nI 0) (tgt := 48) hA si_124_1 rfl (by decide) (by decide) rfl (by decide) ?_
  refine sr_aload_n hA si_124_48 rfl ?_
  refine sr_getR (r := 18) hA si_124_49 sf_124_32 (by decide) (by decide) rfl rfl rfl ?_
  refine sr_getIv (v := nI n) hA si_124_52 sf_124_145 (by decide) (by decide) rfl (by decide) hn ?_
  exact sr_iretF hA si_124_55 sq_r_124 rfl rfl
set_option maxRecDepth 20000 in
theorem xc_co1 (X : sp_X) (g : sp_G) {n : Nat} (hn : g.1 18 3 = nI n) (hb : n ≤ 6) (hK : sp_kk g 19 n) (hz6 : ∀ r, r < 6 → sp_sz (g.1 9 r) 40) (hz7 : ∀ r, r < 4 → sp_sz (g.1 16 r) 60) (hz8 : ∀ k, k < 3 → g.1 (50 + k) 3 = nI 0 ∨ g.1 (50 + k) 3 = nI 1) : sp_Ct X 3 124 [.ref 0, .int (nI 1)] g (sp_Fi (g.1 47 1) g) := by
  refine sp_walkN (n := 2) sq_p_124 sq_l_124 (Nat.le_of_ble_eq_true rfl) (fun a hA => ?_)
  show sp_Ev X a 124 0 [.ref 0, .int (nI 1)] [] g
  refine sr_iload_n hA si_124_0 rfl ?_
  refine sr_tswI (c := nI 1) (tgt := 56) hA si_124_1 rfl (by decide) (by decide) rfl (by decide) ?_
  refine sr_aload_n hA si_124_56 rfl ?_
  refine sr_getR (r := 47) hA si_124_57 sf_124_49 (by decide) (by decide) rfl rfl rfl ?_
  refine sr_getIv (v := g.1 47 1) hA si_124_60 sf_124_214 (by decide) (by decide) rfl (by decide) rfl ?_
  exact sr_iretF hA si_124_63 sq_r_124 rfl rfl
set_option maxRecDepth 20000 in
theorem xc_co2 (X : sp_X) (g : sp_G) {n : Nat} (hn : g.1 18 3 = nI n) (hb : n ≤ 6) (hK : sp_kk g 19 n) (hz6 : ∀ r, r < 6 → sp_sz (g.1 9 r) 40) (hz7 : ∀ r, r < 4 → sp_sz (g.1 16 r) 60) (hz8 : ∀ k, k < 3 → g.1 (50 + k) 3 = nI 0 ∨ g.1 (50 + k) 3 = nI 1) : sp_Ct X 3 124 [.ref 0, .int (nI 2)] g (sp_Fi (g.1 41 1) g) := by
  refine sp_walkN (n := 2) sq_p_124 sq_l_124 (Nat.le_of_ble_eq_true rfl) (fun a hA => ?_)
  show sp_Ev X a 124 0 [.ref 0, .int (nI 2)] [] g
  refine sr_iload_n hA si_124_0 rfl ?_
  refine sr_tswI (c := nI 2) (tgt := 64) hA si_124_1 rfl (by decide) (by decide) rfl (by decide) ?_
  refine sr_aload_n hA si_124_64 rfl ?_
  refine sr_getR (r := 41) hA si_124_65 sf_124_36 (by decide) (by decide) rfl rfl rfl ?_
  refine sr_getIv (v := g.1 41 1) hA si_124_68 sf_124_172 (by decide) (by decide) rfl (by decide) rfl ?_
  exact sr_iretF hA si_124_71 sq_r_124 rfl rfl
set_option maxRecDepth 20000 in
theorem xc_co3 (X : sp_X) (g : sp_G) {n : Nat} (hn : g.1 18 3 = nI n) (hb : n ≤ 6) (hK : sp_kk g 19 n) (hz6 : ∀ r, r < 6 → sp_sz (g.1 9 r) 40) (hz7 : ∀ r, r < 4 → sp_sz (g.1 16 r) 60) (hz8 : ∀ k, k < 3 → g.1 (50 + k) 3 = nI 0 ∨ g.1 (50 + k) 3 = nI 1) : sp_Ct X 3 124 [.ref 0, .int (nI 3)] g (sp_Fi (g.1 41 2) g) := by
  refine sp_walkN (n := 2) sq_p_124 sq_l_124 (Nat.le_of_ble_eq_true rfl) (fun a hA => ?_)
  show sp_Ev X a 124 0 [.ref 0, .int (nI 3)] [] g
  refine sr_iload_n hA si_124_0 rfl ?_
  refine sr_tswI (c := nI 3) (tgt := 72) hA si_124_1 rfl (by decide) (by decide) rfl (by decide) ?_
  refine sr_aload_n hA si_124_72 rfl ?_
  refine sr_getR (r := 41) hA si_124_73 sf_124_36 (by decide) (by decide) rfl rfl rfl ?_
  refine sr_getIv (v := g.1 41 2) hA si_124_76 sf_124_316 (by decide) (by decide) rfl (by decide) rfl ?_
  exact sr_iretF hA si_124_79 sq_r_124 rfl rfl
set_option maxRecDepth 20000 in
theorem xc_co4 (X : sp_X) (g : sp_G) {n : Nat} (hn : g.1 18 3 = nI n) (hb : n ≤ 6) (hK : sp_kk g 19 n) (hz6 : ∀ r, r < 6 → sp_sz (g.1 9 r) 40) (hz7 : ∀ r, r < 4 → sp_sz (g.1 16 r) 60) (hz8 : ∀ k, k < 3 → g.1 (50 + k) 3 = nI 0 ∨ g.1 (50 + k) 3 = nI 1) : sp_Ct X 3 124 [.ref 0, .int (nI 4)] g (sp_Fi (g.1 41 3) g) := by
  refine sp_walkN (n := 2) sq_p_124 sq_l_124 (Nat.le_of_ble_eq_true rfl) (fun a hA => ?_)
  show sp_Ev X a 124 0 [.ref 0, .int (nI 4)] [] g
  refine sr_iload_n hA si_124_0 rfl ?_
  refine sr_tswI (c := nI 4) (tgt := 80) hA si_124_1 rfl (by decide) (by decide) rfl (by decide) ?_
  refine sr_aload_n hA si_124_80 rfl ?_
  refine sr_getR (r := 41) hA si_124_81 sf_124_36 (by decide) (by decide) rfl rfl rfl ?_
  refine sr_getIv (v := g.1 41 3) hA si_124_84 sf_124_230 (by decide) (by decide) rfl (by decide) rfl ?_
  exact sr_iretF hA si_124_87 sq_r_124 rfl rfl
set_option maxRecDepth 20000 in
theorem xc_co5 (X : sp_X) (g : sp_G) {n : Nat} (hn : g.1 18 3 = nI n) (hb : n ≤ 6) (hK : sp_kk g 19 n) (hz6 : ∀ r, r < 6 → sp_sz (g.1 9 r) 40) (hz7 : ∀ r, r < 4 → sp_sz (g.1 16 r) 60) (hz8 : ∀ k, k < 3 → g.1 (50 + k) 3 = nI 0 ∨ g.1 (50 + k) 3 = nI 1) : sp_Ct X 3 124 [.ref 0, .int (nI 5)] g (sp_Fi (nI (sp_ct (sp_p5 (g.1 19)) n)) g) := by
  refine sp_walkN (n := 2) sq_p_124 sq_l_124 (Nat.le_of_ble_eq_true rfl) (fun a hA => ?_)
  show sp_Ev X a 124 0 [.ref 0, .int (nI 5)] [] g
  refine sr_iload_n hA si_124_0 rfl ?_
  refine sr_tswI (c := nI 5) (tgt := 88) hA si_124_1 rfl (by decide) (by decide) rfl (by decide) ?_
  refine sr_aload_n hA si_124_88 rfl ?_
  refine sr_getR (r := 18) hA si_124_89 sf_124_32 (by decide) (by decide) rfl rfl rfl ?_
  refine sr_iconst (v := nI 1) hA si_124_92 (by decide) ?_
  refine sr_VFi (c := 18) (ci := 0) (as := [.int (nI 1)]) (st := []) hA si_124_93 sv_125 sk_124_319 (xc_c5 X g hn hb hK) (by omega) rfl (by decide) (by decide) rfl sq_c_125 rfl (Nat.le_of_ble_eq_true rfl) ?_
  exact sr_iretF hA si_124_96 sq_r_124 rfl rfl
set_option maxRecDepth 20000 in
theorem xc_co6 (X : sp_X) (g : sp_G) {n : Nat} (hn : g.1 18 3 = nI n) (hb : n ≤ 6) (hK : sp_kk g 19 n) (hz6 : ∀ r, r < 6 → sp_sz (g.1 9 r) 40) (hz7 : ∀ r, r < 4 → sp_sz (g.1 16 r) 60) (hz8 : ∀ k, k < 3 → g.1 (50 + k) 3 = nI 0 ∨ g.1 (50 + k) 3 = nI 1) : sp_Ct X 3 124 [.ref 0, .int (nI 6)] g (sp_Fi (nI (sp_ct (sp_p6 (g.1 9)) 6)) g) := by
  refine sp_walkN (n := 2) sq_p_124 sq_l_124 (Nat.le_of_ble_eq_true rfl) (fun a hA => ?_)
  show sp_Ev X a 124 0 [.ref 0, .int (nI 6)] [] g
  refine sr_iload_n hA si_124_0 rfl ?_
  refine sr_tswI (c := nI 6) (tgt := 97) hA si_124_1 rfl (by decide) (by decide) rfl (by decide) ?_
  refine sr_aload_n hA si_124_97 rfl ?_
  refine sr_getR (r := 1) hA si_124_98 sf_124_14 (by decide) (by decide) rfl rfl rfl ?_
  refine sr_VFi (c := 1) (ci := 5) (as := []) (st := []) hA si_124_101 sv_126 sk_124_320 (xc_c6 X g hz6) (by omega) rfl (by decide) (by decide) rfl sq_c_126 rfl (Nat.le_of_ble_eq_true rfl) ?_
  exact sr_iretF hA si_124_104 sq_r_124 rfl rfl
set_option maxRecDepth 20000 in
theorem xc_co7 (X : sp_X) (g : sp_G) {n : Nat} (hn : g.1 18 3 = nI n) (hb : n ≤ 6) (hK : sp_kk g 19 n) (hz6 : ∀ r, r < 6 → sp_sz (g.1 9 r) 40) (hz7 : ∀ r, r < 4 → sp_sz (g.1 16 r) 60) (hz8 : ∀ k, k < 3 → g.1 (50 + k) 3 = nI 0 ∨ g.1 (50 + k) 3 = nI 1) : sp_Ct X 3 124 [.ref 0, .int (nI 7)] g (sp_Fi (nI (sp_ct (sp_p6 (g.1 16)) 4)) g) := by
  refine sp_walkN (n := 2) sq_p_124 sq_l_124 (Nat.le_of_ble_eq_true rfl) (fun a hA => ?_)
  show sp_Ev X a 124 0 [.ref 0, .int (nI 7)] [] g
  refine sr_iload_n hA si_124_0 rfl ?_
  refine sr_tswI (c := nI 7) (tgt := 105) hA si_124_1 rfl (by decide) (by decide) rfl (by decide) ?_
  refine sr_aload_n hA si_124_105 rfl ?_
  refine sr_getR (r := 10) hA si_124_106 sf_124_18 (by decide) (by decide) rfl rfl rfl ?_
  refine sr_VFi (c := 10) (ci := 5) (as := []) (st := []) hA si_124_109 sv_126 sk_124_320 (xc_c7 X g hz7) (by omega) rfl (by decide) (by decide) rfl sq_c_126 rfl (Nat.le_of_ble_eq_true rfl) ?_
  exact sr_iretF hA si_124_112 sq_r_124 rfl rfl
set_option maxRecDepth 20000 in
theorem xc_co8 (X : sp_X) (g : sp_G) {n : Nat} (hn : g.1 18 3 = nI n) (hb : n ≤ 6) (hK : sp_kk g 19 n) (hz6 : ∀ r, r < 6 → sp_sz (g.1 9 r) 40) (hz7 : ∀ r, r < 4 → sp_sz (g.1 16 r) 60) (hz8 : ∀ k, k < 3 → g.1 (50 + k) 3 = nI 0 ∨ g.1 (50 + k) 3 = nI 1) : sp_Ct X 3 124 [.ref 0, .int (nI 8)] g (sp_Fi (nI (sp_ct (sp_p8 (fun k => g.1 (50 + k) 3)) 3)) g) := by
  refine sp_walkN (n := 2) sq_p_124 sq_l_124 (Nat.le_of_ble_eq_true rfl) (fun a hA => ?_)
  show sp_Ev X a 124 0 [.ref 0, .int (nI 8)] [] g
  refine sr_iload_n hA si_124_0 rfl ?_
  refine sr_tswO (tgt := 113) hA si_124_1 (by decide) (by decide) ?_
  refine sr_aload_n hA si_124_113 rfl ?_
  refine sr_VFi (c := 0) (ci := 7) (as := []) (st := []) hA si_124_114 sv_127 sk_124_323 (xc_c8 X g hz8) (by omega) rfl (by decide) (by decide) rfl sq_c_127 rfl (Nat.le_of_ble_eq_true rfl) ?_
  exact sr_iretF hA si_124_117 sq_r_124 rfl rfl
set_option maxRecDepth 20000 in
theorem ml_cA {X : sp_X} {dd w : Nat} {ac : sp_Ac} {Rt : sp_Rt} {g : sp_G} {n : Nat} (hw : w = 5) (hn : g.1 64 11 = nI n) (hb : n ≤ 6) (hK : sp_kk g 71 n) {q0 : Nat} (kk : sp_Ev X ac 223 51 [.ref 64, .int (nI w), .int (nI (sp_ct (sp_p5 (g.1 71)) n)), .null] [] g) (hA : sp_Act X 223 dd Rt ac) : ∀ (m : Nat) (i : Nat) (q : Nat), i + m = n → q = sp_ct (sp_p5 (g.1 71)) i → sp_Ev X ac 223 4 [.ref 64, .int (nI w), .int (nI q), .int (nI i)] [] g := by
  intro m
  induction m with
  | zero =>
    intro i q h0_ h1_
    refine sr_iload_n hA si_223_4 rfl ?_
    refine sr_aload_n hA si_223_5 rfl ?_
    refine sr_getIv (v := nI n) hA si_223_6 sf_223_142 (by decide) (by decide) rfl (by decide) hn ?_
    refine sr_icmp_geN (tgt := 51) hA si_223_9 (by decide) (by omega) (by omega) (fun c1 => ?_) (fun c1 => absurd c1 (by omega))
    have e9 : i = n := by omega
    refine sr_fg (ls1 := [.ref 64, .int (nI w), .int (nI q), .null]) ⟨Or.inr rfl, Or.inr rfl, Or.inr rfl, Or.inl rfl, trivial⟩ ?_
    rw [h1_, e9]
    exact kk
  | succ m ih =>
    intro i q h0_ h1_
    obtain ⟨k, hk5, ee⟩ := hK i (by omega)
    have hk6 : k = 0 ∨ k = 1 ∨ k = 2 ∨ k = 3 ∨ k = 4 ∨ k = 5 := by omega
    rcases hk6 with rfl | rfl | rfl | rfl | rfl | rfl
    · refine sr_iload_n hA si_223_4 rfl ?_
      refine sr_aload_n hA si_223_5 rfl ?_
      refine sr_getIv (v := nI n) hA si_223_6 sf_223_142 (by decide) (by decide) rfl (by decide) hn ?_
      refine sr_icmp_geN (tgt := 51) hA si_223_9 (by decide) (by omega) (by omega) (fun c1 => absurd c1 (by omega)) (fun c1 => ?_)
      refine sr_iload_n hA si_223_12 rfl ?_
      refine sr_iload_n hA si_223_13 rfl ?_
      refine sr_iconst (v := nI 5) hA si_223_14 (by decide) ?_
      refine sr_icmp_neN (tgt := 42) hA si_223_15 (by decide) (by omega) (by omega) (fun c2 => absurd c2 (by omega)) (fun c2 => ?_)
      refine sr_aload_n hA si_223_18 rfl ?_
      refine sr_getR (r := 71) hA si_223_19 sf_223_33 (by decide) (by decide) rfl rfl rfl ?_
      refine sr_iload_n hA si_223_22 rfl ?_
      refine sr_ialdNv (v := nI 0) (n := 6) hA si_223_23 (by decide) rfl rfl (by omega) (by decide) ee ?_
      refine sr_iconst (v := nI 1) hA si_223_24 (by decide) ?_
      refine sr_icmp_eqN (tgt := 38) hA si_223_25 (by decide) (by omega) (by omega) (fun c3 => absurd c3 (by omega)) (fun c3 => ?_)
      refine sr_aload_n hA si_223_28 rfl ?_
      refine sr_getR (r := 71) hA si_223_29 sf_223_33 (by decide) (by decide) rfl rfl rfl ?_
      refine sr_iload_n hA si_223_32 rfl ?_
      refine sr_ialdNv (v := nI 0) (n := 6) hA si_223_33 (by decide) rfl rfl (by omega) (by decide) ee ?_
      refine sr_iconst (v := nI 4) hA si_223_34 (by decide) ?_
      refine sr_icmp_neN (tgt := 42) hA si_223_35 (by decide) (by omega) (by omega) (fun c4 => ?_) (fun c4 => absurd c4 (by omega))
      refine sr_iconst (v := nI 0) hA si_223_42 (by decide) ?_
      refine sr_iaddN hA si_223_43 ?_
      refine sr_istore_n (ls1 := [.ref 64, .int (nI w), .int (nI (q + 0)), .int (nI i)]) hA si_223_44 rfl (by rw [sq_l_223]; decide) rfl ?_
      refine sr_iincN (x := i) (y := 1) (ls1 := [.ref 64, .int (nI w), .int (nI (q + 0)), .int (nI (i + 1))]) hA si_223_45 rfl rfl (by rw [sq_l_223]; decide) rfl ?_
      refine sr_goto (tgt := 4) hA si_223_48 (by decide) ?_
      exact ih (i + 1) (q + 0) (by omega) (sp_ct0 h1_ (by first | exact sp_p6M ee | exact sp_p6P ee (by omega) | (unfold sp_p5; rw [ee]; decide) | exact sp_p80 ee | exact sp_p81 ee))
    · refine sr_iload_n hA si_223_4 rfl ?_
      refine sr_aload_n hA si_223_5 rfl ?_
      refine sr_getIv (v := nI n) hA si_223_6 sf_223_142 (by decide) (by decide) rfl (by decide) hn ?_
      refine sr_icmp_geN (tgt := 51) hA si_223_9 (by decide) (by omega) (by omega) (fun c1 => absurd c1 (by omega)) (fun c1 => ?_)
      refine sr_iload_n hA si_223_12 rfl ?_
      refine sr_iload_n hA si_223_13 rfl ?_
      refine sr_iconst (v := nI 5) hA si_223_14 (by decide) ?_
      refine sr_icmp_neN (tgt := 42) hA si_223_15 (by decide) (by omega) (by omega) (fun c2 => absurd c2 (by omega)) (fun c2 => ?_)
      refine sr_aload_n hA si_223_18 rfl ?_
      refine sr_getR (r := 71) hA si_223_19 sf_223_33 (by decide) (by decide) rfl rfl rfl ?_
      refine sr_iload_n hA si_223_22 rfl ?_
      refine sr_ialdNv (v := nI 1) (n := 6) hA si_223_23 (by decide) rfl rfl (by omega) (by decide) ee ?_
      refine sr_iconst (v := nI 1) hA si_223_24 (by decide) ?_
      refine sr_icmp_eqN (tgt := 38) hA si_223_25 (by decide) (by omega) (by omega) (fun c3 => ?_) (fun c3 => absurd c3 (by omega))
      refine sr_iconst (v := nI 1) hA si_223_38 (by decide) ?_
      refine sr_goto (tgt := 43) hA si_223_39 (by decide) ?_
      refine sr_iaddN hA si_223_43 ?_
      refine sr_istore_n (ls1 := [.ref 64, .int (nI w), .int (nI (q + 1)), .int (nI i)]) hA si_223_44 rfl (by rw [sq_l_223]; decide) rfl ?_
      refine sr_iincN (x := i) (y := 1) (ls1 := [.ref 64, .int (nI w), .int (nI (q + 1)), .int (nI (i + 1))]) hA si_223_45 rfl rfl (by rw [sq_l_223]; decide) rfl ?_
      refine sr_goto (tgt := 4) hA si_223_48 (by decide) ?_
      exact ih (i + 1) (q + 1) (by omega) (sp_ct1 h1_ (by first | exact sp_p6M ee | exact sp_p6P ee (by omega) | (unfold sp_p5; rw [ee]; decide) | exact sp_p80 ee | exact sp_p81 ee))
    · refine sr_iload_n hA si_223_4 rfl ?_
      refine sr_aload_n hA si_223_5 rfl ?_
      refine sr_getIv (v := nI n) hA si_223_6 sf_223_142 (by decide) (by decide) rfl (by decide) hn ?_
      refine sr_icmp_geN (tgt := 51) hA si_223_9 (by decide) (by omega) (by omega) (fun c1 => absurd c1 (by omega)) (fun c1 => ?_)
      refine sr_iload_n hA si_223_12 rfl ?_
      refine sr_iload_n hA si_223_13 rfl ?_
      refine sr_iconst (v := nI 5) hA si_223_14 (by decide) ?_
      refine sr_icmp_neN (tgt := 42) hA si_223_15 (by decide) (by omega) (by omega) (fun c2 => absurd c2 (by omega)) (fun c2 => ?_)
      refine sr_aload_n hA si_223_18 rfl ?_
      refine sr_getR (r := 71) hA si_223_19 sf_223_33 (by decide) (by decide) rfl rfl rfl ?_
      refine sr_iload_n hA si_223_22 rfl ?_
      refine sr_ialdNv (v := nI 2) (n := 6) hA si_223_23 (by decide) rfl rfl (by omega) (by decide) ee ?_
      refine sr_iconst (v := nI 1) hA si_223_24 (by decide) ?_
      refine sr_icmp_eqN (tgt := 38) hA si_223_25 (by decide) (by omega) (by omega) (fun c3 => absurd c3 (by omega)) (fun c3 => ?_)
      refine sr_aload_n hA si_223_28 rfl ?_
      refine sr_getR (r := 71) hA si_223_29 sf_223_33 (by decide) (by decide) rfl rfl rfl ?_
      refine sr_iload_n hA si_223_32 rfl ?_
      refine sr_ialdNv (v := nI 2) (n := 6) hA si_223_33 (by decide) rfl rfl (by omega) (by decide) ee ?_
      refine sr_iconst (v := nI 4) hA si_223_34 (by decide) ?_
      refine sr_icmp_neN (tgt := 42) hA si_223_35 (by decide) (by omega) (by omega) (fun c4 => ?_) (fun c4 => absurd c4 (by omega))
      refine sr_iconst (v := nI 0) hA si_223_42 (by decide) ?_
      refine sr_iaddN hA si_223_43 ?_
      refine sr_istore_n (ls1 := [.ref 64, .int (nI w), .int (nI (q + 0)), .int (nI i)]) hA si_223_44 rfl (by rw [sq_l_223]; decide) rfl ?_
      refine sr_iincN (x := i) (y := 1) (ls1 := [.ref 64, .int (nI w), .int (nI (q + 0)), .int (nI (i + 1))]) hA si_223_45 rfl rfl (by rw [sq_l_223]; decide) rfl ?_
      refine sr_goto (tgt := 4) hA si_223_48 (by decide) ?_
      exact ih (i + 1) (q + 0) (by omega) (sp_ct0 h1_ (by first | exact sp_p6M ee | exact sp_p6P ee (by omega) | (unfold sp_p5; rw [ee]; decide) | exact sp_p80 ee | exact sp_p81 ee))
    · refine sr_iload_n hA si_223_4 rfl ?_
      refine sr_aload_n hA si_223_5 rfl ?_
      refine sr_getIv (v := nI n) hA si_223_6 sf_223_142 (by decide) (by decide) rfl (by decide) hn ?_
      refine sr_icmp_geN (tgt := 51) hA si_223_9 (by decide) (by omega) (by omega) (fun c1 => absurd c1 (by omega)) (fun c1 => ?_)
      refine sr_iload_n hA si_223_12 rfl ?_
      refine sr_iload_n hA si_223_13 rfl ?_
      refine sr_iconst (v := nI 5) hA si_223_14 (by decide) ?_
      refine sr_icmp_neN (tgt := 42) hA si_223_15 (by decide) (by omega) (by omega) (fun c2 => absurd c2 (by omega)) (fun c2 => ?_)
      refine sr_aload_n hA si_223_18 rfl ?_
      refine sr_getR (r := 71) hA si_223_19 sf_223_33 (by decide) (by decide) rfl rfl rfl ?_
      refine sr_iload_n hA si_223_22 rfl ?_
      refine sr_ialdNv (v := nI 3) (n := 6) hA si_223_23 (by decide) rfl rfl (by omega) (by decide) ee ?_
      refine sr_iconst (v := nI 1) hA si_223_24 (by decide) ?_
      refine sr_icmp_eqN (tgt := 38) hA si_223_25 (by decide) (by omega) (by omega) (fun c3 => absurd c3 (by omega)) (fun c3 => ?_)
      refine sr_aload_n hA si_223_28 rfl ?_
      refine sr_getR (r := 71) hA si_223_29 sf_223_33 (by decide) (by decide) rfl rfl rfl ?_
      refine sr_iload_n hA si_223_32 rfl ?_
      refine sr_ialdNv (v := nI 3) (n := 6) hA si_223_33 (by decide) rfl rfl (by omega) (by decide) ee ?_
      refine sr_iconst (v := nI 4) hA si_223_34 (by decide) ?_
      refine sr_icmp_neN (tgt := 42) hA si_223_35 (by decide) (by omega) (by omega) (fun c4 => ?_) (fun c4 => absurd c4 (by omega))
      refine sr_iconst (v := nI 0) hA si_223_42 (by decide) ?_
      refine sr_iaddN hA si_223_43 ?_
      refine sr_istore_n (ls1 := [.ref 64, .int (nI w), .int (nI (q + 0)), .int (nI i)]) hA si_223_44 rfl (by rw [sq_l_223]; decide) rfl ?_
      refine sr_iincN (x := i) (y := 1) (ls1 := [.ref 64, .int (nI w), .int (nI (q + 0)), .int (nI (i + 1))]) hA si_223_45 rfl rfl (by rw [sq_l_223]; decide) rfl ?_
      refine sr_goto (tgt := 4) hA si_223_48 (by decide) ?_
      exact ih (i + 1) (q + 0) (by omega) (sp_ct0 h1_ (by first | exact sp_p6M ee | exact sp_p6P ee (by omega) | (unfold sp_p5; rw [ee]; decide) | exact sp_p80 ee | exact sp_p81 ee))
    · refine sr_iload_n hA si_223_4 rfl ?_
      refine sr_aload_n hA si_223_5 rfl ?_
      refine sr_getIv (v := nI n) hA si_223_6 sf_223_142 (by decide) (by decide) rfl (by decide) hn ?_
      refine sr_icmp_geN (tgt := 51) hA si_223_9 (by decide) (by omega) (by omega) (fun c1 => absurd c1 (by omega)) (fun c1 => ?_)
      refine sr_iload_n hA si_223_12 rfl ?_
      refine sr_iload_n hA si_223_13 rfl ?_
      refine sr_iconst (v := nI 5) hA si_223_14 (by decide) ?_
      refine sr_icmp_neN (tgt := 42) hA si_223_15 (by decide) (by omega) (by omega) (fun c2 => absurd c2 (by omega)) (fun c2 => ?_)
      refine sr_aload_n hA si_223_18 rfl ?_
      refine sr_getR (r := 71) hA si_223_19 sf_223_33 (by decide) (by decide) rfl rfl rfl ?_
      refine sr_iload_n hA si_223_22 rfl ?_
      refine sr_ialdNv (v := nI 4) (n := 6) hA si_223_23 (by decide) rfl rfl (by omega) (by decide) ee ?_
      refine sr_iconst (v := nI 1) hA si_223_24 (by decide) ?_
      refine sr_icmp_eqN (tgt := 38) hA si_223_25 (by decide) (by omega) (by omega) (fun c3 => absurd c3 (by omega)) (fun c3 => ?_)
      refine sr_aload_n hA si_223_28 rfl ?_
      refine sr_getR (r := 71) hA si_223_29 sf_223_33 (by decide) (by decide) rfl rfl rfl ?_
      refine sr_iload_n hA si_223_32 rfl ?_
      refine sr_ialdNv (v := nI 4) (n := 6) hA si_223_33 (by decide) rfl rfl (by omega) (by decide) ee ?_
      refine sr_iconst (v := nI 4) hA si_223_34 (by decide) ?_
      refine sr_icmp_neN (tgt := 42) hA si_223_35 (by decide) (by omega) (by omega) (fun c4 => absurd c4 (by omega)) (fun c4 => ?_)
      refine sr_iconst (v := nI 1) hA si_223_38 (by decide) ?_
      refine sr_goto (tgt := 43) hA si_223_39 (by decide) ?_
      refine sr_iaddN hA si_223_43 ?_
      refine sr_istore_n (ls1 := [.ref 64, .int (nI w), .int (nI (q + 1)), .int (nI i)]) hA si_223_44 rfl (by rw [sq_l_223]; decide) rfl ?_
      refine sr_iincN (x := i) (y := 1) (ls1 := [.ref 64, .int (nI w), .int (nI (q + 1)), .int (nI (i + 1))]) hA si_223_45 rfl rfl (by rw [sq_l_223]; decide) rfl ?_
      refine sr_goto (tgt := 4) hA si_223_48 (by decide) ?_
      exact ih (i + 1) (q + 1) (by omega) (sp_ct1 h1_ (by first | exact sp_p6M ee | exact sp_p6P ee (by omega) | (unfold sp_p5; rw [ee]; decide) | exact sp_p80 ee | exact sp_p81 ee))
    · refine sr_iload_n hA si_223_4 rfl ?_
      refine sr_aload_n hA si_223_5 rfl ?_
      refine sr_getIv (v := nI n) hA si_223_6 sf_223_142 (by decide) (by decide) rfl (by decide) hn ?_
      refine sr_icmp_geN (tgt := 51) hA si_223_9 (by decide) (by omega) (by omega) (fun c1 => absurd c1 (by omega)) (fun c1 => ?_)
      refine sr_iload_n hA si_223_12 rfl ?_
      refine sr_iload_n hA si_223_13 rfl ?_
      refine sr_iconst (v := nI 5) hA si_223_14 (by decide) ?_
      refine sr_icmp_neN (tgt := 42) hA si_223_15 (by decide) (by omega) (by omega) (fun c2 => absurd c2 (by omega)) (fun c2 => ?_)
      refine sr_aload_n hA si_223_18 rfl ?_
      refine sr_getR (r := 71) hA si_223_19 sf_223_33 (by decide) (by decide) rfl rfl rfl ?_
      refine sr_iload_n hA si_223_22 rfl ?_
      refine sr_ialdNv (v := nI 5) (n := 6) hA si_223_23 (by decide) rfl rfl (by omega) (by decide) ee ?_
      refine sr_iconst (v := nI 1) hA si_223_24 (by decide) ?_
      refine sr_icmp_eqN (tgt := 38) hA si_223_25 (by decide) (by omega) (by omega) (fun c3 => absurd c3 (by omega)) (fun c3 => ?_)
      refine sr_aload_n hA si_223_28 rfl ?_
      refine sr_getR (r := 71) hA si_223_29 sf_223_33 (by decide) (by decide) rfl rfl rfl ?_
      refine sr_iload_n hA si_223_32 rfl ?_
      refine sr_ialdNv (v := nI 5) (n := 6) hA si_223_33 (by decide) rfl rfl (by omega) (by decide) ee ?_
      refine sr_iconst (v := nI 4) hA si_223_34 (by decide) ?_
      refine sr_icmp_neN (tgt := 42) hA si_223_35 (by decide) (by omega) (by omega) (fun c4 => ?_) (fun c4 => absurd c4 (by omega))
      refine sr_iconst (v := nI 0) hA si_223_42 (by decide) ?_
      refine sr_iaddN hA si_223_43 ?_
      refine sr_istore_n (ls1 := [.ref 64, .int (nI w), .int (nI (q + 0)), .int (nI i)]) hA si_223_44 rfl (by rw [sq_l_223]; decide) rfl ?_
      refine sr_iincN (x := i) (y := 1) (ls1 := [.ref 64, .int (nI w), .int (nI (q + 0)), .int (nI (i + 1))]) hA si_223_45 rfl rfl (by rw [sq_l_223]; decide) rfl ?_
      refine sr_goto (tgt := 4) hA si_223_48 (by decide) ?_
      exact ih (i + 1) (q + 0) (by omega) (sp_ct0 h1_ (by first | exact sp_p6M ee | exact sp_p6P ee (by omega) | (unfold sp_p5; rw [ee]; decide) | exact sp_p80 ee | exact sp_p81 ee))
set_option maxRecDepth 20000 in
theorem ml_cAn {X : sp_X} {dd w : Nat} {ac : sp_Ac} {Rt : sp_Rt} {g : sp_G} {n : Nat} (hw : w ≠ 5) (hw9 : w < 9) (hn : g.1 64 11 = nI n) (hb : n ≤ 6) {q0 : Nat} (kk : sp_Ev X ac 223 51 [.ref 64, .int (nI w), .int (nI q0), .null] [] g) (hA : sp_Act X 223 dd Rt ac) : ∀ (m : Nat) (i : Nat) (q : Nat), i + m = n → q = q0 → sp_Ev X ac 223 4 [.ref 64, .int (nI w), .int (nI q), .int (nI i)] [] g := by
  intro m
  induction m with
  | zero =>
    intro i q h0_ h1_
    refine sr_iload_n hA si_223_4 rfl ?_
    refine sr_aload_n hA si_223_5 rfl ?_
    refine sr_getIv (v := nI n) hA si_223_6 sf_223_142 (by decide) (by decide) rfl (by decide) hn ?_
    refine sr_icmp_geN (tgt := 51) hA si_223_9 (by decide) (by omega) (by omega) (fun c1 => ?_) (fun c1 => absurd c1 (by omega))
    have e9 : i = n := by omega
    refine sr_fg (ls1 := [.ref 64, .int (nI w), .int (nI q), .null]) ⟨Or.inr rfl, Or.inr rfl, Or.inr rfl, Or.inl rfl, trivial⟩ ?_
    rw [h1_]
    exact kk
  | succ m ih =>
    intro i q h0_ h1_
    refine sr_iload_n hA si_223_4 rfl ?_
    refine sr_aload_n hA si_223_5 rfl ?_
    refine sr_getIv (v := nI n) hA si_223_6 sf_223_142 (by decide) (by decide) rfl (by decide) hn ?_
    refine sr_icmp_geN (tgt := 51) hA si_223_9 (by decide) (by omega) (by omega) (fun c1 => absurd c1 (by omega)) (fun c1 => ?_)
    refine sr_iload_n hA si_223_12 rfl ?_
    refine sr_iload_n hA si_223_13 rfl ?_
    refine sr_iconst (v := nI 5) hA si_223_14 (by decide) ?_
    refine sr_icmp_neN (tgt := 42) hA si_223_15 (by decide) (by omega) (by omega) (fun c2 => ?_) (fun c2 => absurd c2 (by omega))
    refine sr_iconst (v := nI 0) hA si_223_42 (by decide) ?_
    refine sr_iaddN hA si_223_43 ?_
    refine sr_istore_n (ls1 := [.ref 64, .int (nI w), .int (nI (q + 0)), .int (nI i)]) hA si_223_44 rfl (by rw [sq_l_223]; decide) rfl ?_
    refine sr_iincN (x := i) (y := 1) (ls1 := [.ref 64, .int (nI w), .int (nI (q + 0)), .int (nI (i + 1))]) hA si_223_45 rfl rfl (by rw [sq_l_223]; decide) rfl ?_
    refine sr_goto (tgt := 4) hA si_223_48 (by decide) ?_
    exact ih (i + 1) (q + 0) (by omega) h1_
set_option maxRecDepth 20000 in
theorem ml_cB {X : sp_X} {dd w : Nat} {ac : sp_Ac} {Rt : sp_Rt} {g : sp_G} (hw : w = 6) (hz : ∀ r, r < 6 → sp_sz (g.1 66 r) 40) {q0 : Nat} (kk : sp_Ev X ac 223 88 [.ref 64, .int (nI w), .int (nI (sp_ct (sp_p6 (g.1 66)) 6)), .null] [] g) (hA : sp_Act X 223 dd Rt ac) : ∀ (m : Nat) (i : Nat) (q : Nat), i + m = 6 → q = sp_ct (sp_p6 (g.1 66)) i → sp_Ev X ac 223 53 [.ref 64, .int (nI w), .int (nI q), .int (nI i)] [] g := by
  intro m
  induction m with
  | zero =>
    intro i q h0_ h1_
    refine sr_iload_n hA si_223_53 rfl ?_
    refine sr_bipush (v := nI 6) hA si_223_54 (by decide) ?_
    refine sr_icmp_geN (tgt := 88) hA si_223_56 (by decide) (by omega) (by omega) (fun c1 => ?_) (fun c1 => absurd c1 (by omega))
    have e9 : i = 6 := by omega
    refine sr_fg (ls1 := [.ref 64, .int (nI w), .int (nI q), .null]) ⟨Or.inr rfl, Or.inr rfl, Or.inr rfl, Or.inl rfl, trivial⟩ ?_
    rw [h1_, e9]
    exact kk
  | succ m ih =>
    intro i q h0_ h1_
    rcases hz i (by omega) with ee | ⟨z, zb, ee⟩
    · refine sr_iload_n hA si_223_53 rfl ?_
      refine sr_bipush (v := nI 6) hA si_223_54 (by decide) ?_
      refine sr_icmp_geN (tgt := 88) hA si_223_56 (by decide) (by omega) (by omega) (fun c1 => absurd c1 (by omega)) (fun c1 => ?_)
      refine sr_iload_n hA si_223_59 rfl ?_
      refine sr_iload_n hA si_223_60 rfl ?_
      refine sr_bipush (v := nI 6) hA si_223_61 (by decide) ?_
      refine sr_icmp_neN (tgt := 79) hA si_223_63 (by decide) (by omega) (by omega) (fun c2 => absurd c2 (by omega)) (fun c2 => ?_)
      refine sr_aload_n hA si_223_66 rfl ?_
      refine sr_getR (r := 66) hA si_223_67 sf_223_17 (by decide) (by decide) rfl rfl rfl ?_
      refine sr_iload_n hA si_223_70 rfl ?_
      refine sr_ialdNv (v := (-1)) (n := 6) hA si_223_71 (by decide) rfl rfl (by omega) (by decide) ee ?_
      refine sr_if_lt (tgt := 79) hA si_223_72 (by decide) (fun c3 => ?_) (fun c3 => absurd (by decide) c3)
      refine sr_iconst (v := nI 0) hA si_223_79 (by decide) ?_
      refine sr_iaddN hA si_223_80 ?_
      refine sr_istore_n (ls1 := [.ref 64, .int (nI w), .int (nI (q + 0)), .int (nI i)]) hA si_223_81 rfl (by rw [sq_l_223]; decide) rfl ?_
      refine sr_iincN (x := i) (y := 1) (ls1 := [.ref 64, .int (nI w), .int (nI (q + 0)), .int (nI (i + 1))]) hA si_223_82 rfl rfl (by rw [sq_l_223]; decide) rfl ?_
      refine sr_goto (tgt := 53) hA si_223_85 (by decide) ?_
      exact ih (i + 1) (q + 0) (by omega) (sp_ct0 h1_ (by first | exact sp_p6M ee | exact sp_p6P ee (by omega) | (unfold sp_p5; rw [ee]; decide) | exact sp_p80 ee | exact sp_p81 ee))
    · refine sr_iload_n hA si_223_53 rfl ?_
      refine sr_bipush (v := nI 6) hA si_223_54 (by decide) ?_
      refine sr_icmp_geN (tgt := 88) hA si_223_56 (by decide) (by omega) (by omega) (fun c1 => absurd c1 (by omega)) (fun c1 => ?_)
      refine sr_iload_n hA si_223_59 rfl ?_
      refine sr_iload_n hA si_223_60 rfl ?_
      refine sr_bipush (v := nI 6) hA si_223_61 (by decide) ?_
      refine sr_icmp_neN (tgt := 79) hA si_223_63 (by decide) (by omega) (by omega) (fun c2 => absurd c2 (by omega)) (fun c2 => ?_)
      refine sr_aload_n hA si_223_66 rfl ?_
      refine sr_getR (r := 66) hA si_223_67 sf_223_17 (by decide) (by decide) rfl rfl rfl ?_
      refine sr_iload_n hA si_223_70 rfl ?_
      refine sr_ialdNv (v := nI z) (n := 6) hA si_223_71 (by decide) rfl rfl (by omega) (by decide) ee ?_
      refine sr_if_ltN (tgt := 79) hA si_223_72 (by decide) (by omega) ?_
      refine sr_iconst (v := nI 1) hA si_223_75 (by decide) ?_
      refine sr_goto (tgt := 80) hA si_223_76 (by decide) ?_
      refine sr_iaddN hA si_223_80 ?_
      refine sr_istore_n (ls1 := [.ref 64, .int (nI w), .int (nI (q + 1)), .int (nI i)]) hA si_223_81 rfl (by rw [sq_l_223]; decide) rfl ?_
      refine sr_iincN (x := i) (y := 1) (ls1 := [.ref 64, .int (nI w), .int (nI (q + 1)), .int (nI (i + 1))]) hA si_223_82 rfl rfl (by rw [sq_l_223]; decide) rfl ?_
      refine sr_goto (tgt := 53) hA si_223_85 (by decide) ?_
      exact ih (i + 1) (q + 1) (by omega) (sp_ct1 h1_ (by first | exact sp_p6M ee | exact sp_p6P ee (by omega) | (unfold sp_p5; rw [ee]; decide) | exact sp_p80 ee | exact sp_p81 ee))
set_option maxRecDepth 20000 in
theorem ml_cBn {X : sp_X} {dd w : Nat} {ac : sp_Ac} {Rt : sp_Rt} {g : sp_G} (hw : w ≠ 6) (hw9 : w < 9) {q0 : Nat} (kk : sp_Ev X ac 223 88 [.ref 64, .int (nI w), .int (nI q0), .null] [] g) (hA : sp_Act X 223 dd Rt ac) : ∀ (m : Nat) (i : Nat) (q : Nat), i + m = 6 → q = q0 → sp_Ev X ac 223 53 [.ref 64, .int (nI w), .int (nI q), .int (nI i)] [] g := by
  intro m
  induction m with
  | zero =>
    intro i q h0_ h1_
    refine sr_iload_n hA si_223_53 rfl ?_
    refine sr_bipush (v := nI 6) hA si_223_54 (by decide) ?_
    refine sr_icmp_geN (tgt := 88) hA si_223_56 (by decide) (by omega) (by omega) (fun c1 => ?_) (fun c1 => absurd c1 (by omega))
    have e9 : i = 6 := by omega
    refine sr_fg (ls1 := [.ref 64, .int (nI w), .int (nI q), .null]) ⟨Or.inr rfl, Or.inr rfl, Or.inr rfl, Or.inl rfl, trivial⟩ ?_
    rw [h1_]
    exact kk
  | succ m ih =>
    intro i q h0_ h1_
    refine sr_iload_n hA si_223_53 rfl ?_
    refine sr_bipush (v := nI 6) hA si_223_54 (by decide) ?_
    refine sr_icmp_geN (tgt := 88) hA si_223_56 (by decide) (by omega) (by omega) (fun c1 => absurd c1 (by omega)) (fun c1 => ?_)
    refine sr_iload_n hA si_223_59 rfl ?_
    refine sr_iload_n hA si_223_60 rfl ?_
    refine sr_bipush (v := nI 6) hA si_223_61 (by decide) ?_
    refine sr_icmp_neN (tgt := 79) hA si_223_63 (by decide) (by omega) (by omega) (fun c2 => ?_) (fun c2 => absurd c2 (by omega))
    refine sr_iconst (v := nI 0) hA si_223_79 (by decide) ?_
    refine sr_iaddN hA si_223_80 ?_
    refine sr_istore_n (ls1 := [.ref 64, .int (nI w), .int (nI (q + 0)), .int (nI i)]) hA si_223_81 rfl (by rw [sq_l_223]; decide) rfl ?_
    refine sr_iincN (x := i) (y := 1) (ls1 := [.ref 64, .int (nI w), .int (nI (q + 0)), .int (nI (i + 1))]) hA si_223_82 rfl rfl (by rw [sq_l_223]; decide) rfl ?_
    refine sr_goto (tgt := 53) hA si_223_85 (by decide) ?_
    exact ih (i + 1) (q + 0) (by omega) h1_
set_option maxRecDepth 20000 in
theorem ml_cC {X : sp_X} {dd w : Nat} {ac : sp_Ac} {Rt : sp_Rt} {g : sp_G} (hw : w = 7) (hz : ∀ r, r < 4 → sp_sz (g.1 69 r) 60) {q0 : Nat} (kk : sp_Ev X ac 223 124 [.ref 64, .int (nI w), .int (nI (sp_ct (sp_p6 (g.1 69)) 4)), .null] [] g) (hA : sp_Act X 223 dd Rt ac) : ∀ (m : Nat) (i : Nat) (q : Nat), i + m = 4 → q = sp_ct (sp_p6 (g.1 69)) i → sp_Ev X ac 223 90 [.ref 64, .int (nI w), .int (nI q), .int (nI i)] [] g := by
  intro m
  induction m with
  | zero =>
    intro i q h0_ h1_
    refine sr_iload_n hA si_223_90 rfl ?_
    refine sr_iconst (v := nI 4) hA si_223_91 (by decide) ?_
    refine sr_icmp_geN (tgt := 124) hA si_223_92 (by decide) (by omega) (by omega) (fun c1 => ?_) (fun c1 => absurd c1 (by omega))
    have e9 : i = 4 := by omega
    refine sr_fg (ls1 := [.ref 64, .int (nI w), .int (nI q), .null]) ⟨Or.inr rfl, Or.inr rfl, Or.inr rfl, Or.inl rfl, trivial⟩ ?_
    rw [h1_, e9]
    exact kk
  | succ m ih =>
    intro i q h0_ h1_
    rcases hz i (by omega) with ee | ⟨z, zb, ee⟩
    · refine sr_iload_n hA si_223_90 rfl ?_
      refine sr_iconst (v := nI 4) hA si_223_91 (by decide) ?_
      refine sr_icmp_geN (tgt := 124) hA si_223_92 (by decide) (by omega) (by omega) (fun c1 => absurd c1 (by omega)) (fun c1 => ?_)
      refine sr_iload_n hA si_223_95 rfl ?_
      refine sr_iload_n hA si_223_96 rfl ?_
      refine sr_bipush (v := nI 7) hA si_223_97 (by decide) ?_
      refine sr_icmp_neN (tgt := 115) hA si_223_99 (by decide) (by omega) (by omega) (fun c2 => absurd c2 (by omega)) (fun c2 => ?_)
      refine sr_aload_n hA si_223_102 rfl ?_
      refine sr_getR (r := 69) hA si_223_103 sf_223_26 (by decide) (by decide) rfl rfl rfl ?_
      refine sr_iload_n hA si_223_106 rfl ?_
      refine sr_ialdNv (v := (-1)) (n := 4) hA si_223_107 (by decide) rfl rfl (by omega) (by decide) ee ?_
      refine sr_if_lt (tgt := 115) hA si_223_108 (by decide) (fun c3 => ?_) (fun c3 => absurd (by decide) c3)
      refine sr_iconst (v := nI 0) hA si_223_115 (by decide) ?_
      refine sr_iaddN hA si_223_116 ?_
      refine sr_istore_n (ls1 := [.ref 64, .int (nI w), .int (nI (q + 0)), .int (nI i)]) hA si_223_117 rfl (by rw [sq_l_223]; decide) rfl ?_
      refine sr_iincN (x := i) (y := 1) (ls1 := [.ref 64, .int (nI w), .int (nI (q + 0)), .int (nI (i + 1))]) hA si_223_118 rfl rfl (by rw [sq_l_223]; decide) rfl ?_
      refine sr_goto (tgt := 90) hA si_223_121 (by decide) ?_
      exact ih (i + 1) (q + 0) (by omega) (sp_ct0 h1_ (by first | exact sp_p6M ee | exact sp_p6P ee (by omega) | (unfold sp_p5; rw [ee]; decide) | exact sp_p80 ee | exact sp_p81 ee))
    · refine sr_iload_n hA si_223_90 rfl ?_
      refine sr_iconst (v := nI 4) hA si_223_91 (by decide) ?_
      refine sr_icmp_geN (tgt := 124) hA si_223_92 (by decide) (by omega) (by omega) (fun c1 => absurd c1 (by omega)) (fun c1 => ?_)
      refine sr_iload_n hA si_223_95 rfl ?_
      refine sr_iload_n hA si_223_96 rfl ?_
      refine sr_bipush (v := nI 7) hA si_223_97 (by decide) ?_
      refine sr_icmp_neN (tgt := 115) hA si_223_99 (by decide) (by omega) (by omega) (fun c2 => absurd c2 (by omega)) (fun c2 => ?_)
      refine sr_aload_n hA si_223_102 rfl ?_
      refine sr_getR (r := 69) hA si_223_103 sf_223_26 (by decide) (by decide) rfl rfl rfl ?_
      refine sr_iload_n hA si_223_106 rfl ?_
      refine sr_ialdNv (v := nI z) (n := 4) hA si_223_107 (by decide) rfl rfl (by omega) (by decide) ee ?_
      refine sr_if_ltN (tgt := 115) hA si_223_108 (by decide) (by omega) ?_
      refine sr_iconst (v := nI 1) hA si_223_111 (by decide) ?_
      refine sr_goto (tgt := 116) hA si_223_112 (by decide) ?_
      refine sr_iaddN hA si_223_116 ?_
      refine sr_istore_n (ls1 := [.ref 64, .int (nI w), .int (nI (q + 1)), .int (nI i)]) hA si_223_117 rfl (by rw [sq_l_223]; decide) rfl ?_
      refine sr_iincN (x := i) (y := 1) (ls1 := [.ref 64, .int (nI w), .int (nI (q + 1)), .int (nI (i + 1))]) hA si_223_118 rfl rfl (by rw [sq_l_223]; decide) rfl ?_
      refine sr_goto (tgt := 90) hA si_223_121 (by decide) ?_
      exact ih (i + 1) (q + 1) (by omega) (sp_ct1 h1_ (by first | exact sp_p6M ee | exact sp_p6P ee (by omega) | (unfold sp_p5; rw [ee]; decide) | exact sp_p80 ee | exact sp_p81 ee))
set_option maxRecDepth 20000 in
theorem ml_cCn {X : sp_X} {dd w : Nat} {ac : sp_Ac} {Rt : sp_Rt} {g : sp_G} (hw : w ≠ 7) (hw9 : w < 9) {q0 : Nat} (kk : sp_Ev X ac 223 124 [.ref 64, .int (nI w), .int (nI q0), .null] [] g) (hA : sp_Act X 223 dd Rt ac) : ∀ (m : Nat) (i : Nat) (q : Nat), i + m = 4 → q = q0 → sp_Ev X ac 223 90 [.ref 64, .int (nI w), .int (nI q), .int (nI i)] [] g := by
  intro m
  induction m with
  | zero =>
    intro i q h0_ h1_
    refine sr_iload_n hA si_223_90 rfl ?_
    refine sr_iconst (v := nI 4) hA si_223_91 (by decide) ?_
    refine sr_icmp_geN (tgt := 124) hA si_223_92 (by decide) (by omega) (by omega) (fun c1 => ?_) (fun c1 => absurd c1 (by omega))
    have e9 : i = 4 := by omega
    refine sr_fg (ls1 := [.ref 64, .int (nI w), .int (nI q), .null]) ⟨Or.inr rfl, Or.inr rfl, Or.inr rfl, Or.inl rfl, trivial⟩ ?_
    rw [h1_]
    exact kk
  | succ m ih =>
    intro i q h0_ h1_
    refine sr_iload_n hA si_223_90 rfl ?_
    refine sr_iconst (v := nI 4) hA si_223_91 (by decide) ?_
    refine sr_icmp_geN (tgt := 124) hA si_223_92 (by decide) (by omega) (by omega) (fun c1 => absurd c1 (by omega)) (fun c1 => ?_)
    refine sr_iload_n hA si_223_95 rfl ?_
    refine sr_iload_n hA si_223_96 rfl ?_
    refine sr_bipush (v := nI 7) hA si_223_97 (by decide) ?_
    refine sr_icmp_neN (tgt := 115) hA si_223_99 (by decide) (by omega) (by omega) (fun c2 => ?_) (fun c2 => absurd c2 (by omega))
    refine sr_iconst (v := nI 0) hA si_223_115 (by decide) ?_
    refine sr_iaddN hA si_223_116 ?_
    refine sr_istore_n (ls1 := [.ref 64, .int (nI w), .int (nI (q + 0)), .int (nI i)]) hA si_223_117 rfl (by rw [sq_l_223]; decide) rfl ?_
    refine sr_iincN (x := i) (y := 1) (ls1 := [.ref 64, .int (nI w), .int (nI (q + 0)), .int (nI (i + 1))]) hA si_223_118 rfl rfl (by rw [sq_l_223]; decide) rfl ?_
    refine sr_goto (tgt := 90) hA si_223_121 (by decide) ?_
    exact ih (i + 1) (q + 0) (by omega) h1_
set_option maxRecDepth 20000 in
theorem ml_cD {X : sp_X} {dd w : Nat} {ac : sp_Ac} {Rt : sp_Rt} {g : sp_G} (hw : w = 8) (hz : ∀ k, k < 3 → g.1 77 k = nI 0 ∨ g.1 77 k = nI 1) {q0 : Nat} (kk : sp_Ev X ac 223 160 [.ref 64, .int (nI w), .int (nI (sp_ct (sp_p8 (g.1 77)) 3)), .null] [] g) (hA : sp_Act X 223 dd Rt ac) : ∀ (m : Nat) (i : Nat) (q : Nat), i + m = 3 → q = sp_ct (sp_p8 (g.1 77)) i → sp_Ev X ac 223 126 [.ref 64, .int (nI w), .int (nI q), .int (nI i)] [] g := by
  intro m
  induction m with
  | zero =>
    intro i q h0_ h1_
    refine sr_iload_n hA si_223_126 rfl ?_
    refine sr_iconst (v := nI 3) hA si_223_127 (by decide) ?_
    refine sr_icmp_geN (tgt := 160) hA si_223_128 (by decide) (by omega) (by omega) (fun c1 => ?_) (fun c1 => absurd c1 (by omega))
    have e9 : i = 3 := by omega
    refine sr_fg (ls1 := [.ref 64, .int (nI w), .int (nI q), .null]) ⟨Or.inr rfl, Or.inr rfl, Or.inr rfl, Or.inl rfl, trivial⟩ ?_
    rw [h1_, e9]
    exact kk
  | succ m ih =>
    intro i q h0_ h1_
    rcases hz i (by omega) with ee | ee
    · refine sr_iload_n hA si_223_126 rfl ?_
      refine sr_iconst (v := nI 3) hA si_223_127 (by decide) ?_
      refine sr_icmp_geN (tgt := 160) hA si_223_128 (by decide) (by omega) (by omega) (fun c1 => absurd c1 (by omega)) (fun c1 => ?_)
      refine sr_iload_n hA si_223_131 rfl ?_
      refine sr_iload_n hA si_223_132 rfl ?_
      refine sr_bipush (v := nI 8) hA si_223_133 (by decide) ?_
      refine sr_icmp_neN (tgt := 151) hA si_223_135 (by decide) (by omega) (by omega) (fun c2 => absurd c2 (by omega)) (fun c2 => ?_)
      refine sr_aload_n hA si_223_138 rfl ?_
      refine sr_getR (r := 77) hA si_223_139 sf_223_51 (by decide) (by decide) rfl rfl rfl ?_
      refine sr_iload_n hA si_223_142 rfl ?_
      refine sr_zaldNv (v := nI 0) (n := 3) hA si_223_143 (by decide) rfl rfl (by omega) (by decide) ee ?_
      refine sr_if_eqN (tgt := 151) hA si_223_144 (by decide) (by omega) (fun c3 => ?_) (fun c3 => absurd c3 (by omega))
      refine sr_iconst (v := nI 0) hA si_223_151 (by decide) ?_
      refine sr_iaddN hA si_223_152 ?_
      refine sr_istore_n (ls1 := [.ref 64, .int (nI w), .int (nI (q + 0)), .int (nI i)]) hA si_223_153 rfl (by rw [sq_l_223]; decide) rfl ?_
      refine sr_iincN (x := i) (y := 1) (ls1 := [.ref 64, .int (nI w), .int (nI (q + 0)), .int (nI (i + 1))]) hA si_223_154 rfl rfl (by rw [sq_l_223]; decide) rfl ?_
      refine sr_goto (tgt := 126) hA si_223_157 (by decide) ?_
      exact ih (i + 1) (q + 0) (by omega) (sp_ct0 h1_ (by first | exact sp_p6M ee | exact sp_p6P ee (by omega) | (unfold sp_p5; rw [ee]; decide) | exact sp_p80 ee | exact sp_p81 ee))
    · refine sr_iload_n hA si_223_126 rfl ?_
      refine sr_iconst (v := nI 3) hA si_223_127 (by decide) ?_
      refine sr_icmp_geN (tgt := 160) hA si_223_128 (by decide) (by omega) (by omega) (fun c1 => absurd c1 (by omega)) (fun c1 => ?_)
      refine sr_iload_n hA si_223_131 rfl ?_
      refine sr_iload_n hA si_223_132 rfl ?_
      refine sr_bipush (v := nI 8) hA si_223_133 (by decide) ?_
      refine sr_icmp_neN (tgt := 151) hA si_223_135 (by decide) (by omega) (by omega) (fun c2 => absurd c2 (by omega)) (fun c2 => ?_)
      refine sr_aload_n hA si_223_138 rfl ?_
      refine sr_getR (r := 77) hA si_223_139 sf_223_51 (by decide) (by decide) rfl rfl rfl ?_
      refine sr_iload_n hA si_223_142 rfl ?_
      refine sr_zaldNv (v := nI 1) (n := 3) hA si_223_143 (by decide) rfl rfl (by omega) (by decide) ee ?_
      refine sr_if_eqN (tgt := 151) hA si_223_144 (by decide) (by omega) (fun c3 => absurd c3 (by omega)) (fun c3 => ?_)
      refine sr_iconst (v := nI 1) hA si_223_147 (by decide) ?_
      refine sr_goto (tgt := 152) hA si_223_148 (by decide) ?_
      refine sr_iaddN hA si_223_152 ?_
      refine sr_istore_n (ls1 := [.ref 64, .int (nI w), .int (nI (q + 1)), .int (nI i)]) hA si_223_153 rfl (by rw [sq_l_223]; decide) rfl ?_
      refine sr_iincN (x := i) (y := 1) (ls1 := [.ref 64, .int (nI w), .int (nI (q + 1)), .int (nI (i + 1))]) hA si_223_154 rfl rfl (by rw [sq_l_223]; decide) rfl ?_
      refine sr_goto (tgt := 126) hA si_223_157 (by decide) ?_
      exact ih (i + 1) (q + 1) (by omega) (sp_ct1 h1_ (by first | exact sp_p6M ee | exact sp_p6P ee (by omega) | (unfold sp_p5; rw [ee]; decide) | exact sp_p80 ee | exact sp_p81 ee))
set_option maxRecDepth 20000 in
theorem ml_cDn {X : sp_X} {dd w : Nat} {ac : sp_Ac} {Rt : sp_Rt} {g : sp_G} (hw : w ≠ 8) (hw9 : w < 9) {q0 : Nat} (kk : sp_Ev X ac 223 160 [.ref 64, .int (nI w), .int (nI q0), .null] [] g) (hA : sp_Act X 223 dd Rt ac) : ∀ (m : Nat) (i : Nat) (q : Nat), i + m = 3 → q = q0 → sp_Ev X ac 223 126 [.ref 64, .int (nI w), .int (nI q), .int (nI i)] [] g := by
  intro m
  induction m with
  | zero =>
    intro i q h0_ h1_
    refine sr_iload_n hA si_223_126 rfl ?_
    refine sr_iconst (v := nI 3) hA si_223_127 (by decide) ?_
    refine sr_icmp_geN (tgt := 160) hA si_223_128 (by decide) (by omega) (by omega) (fun c1 => ?_) (fun c1 => absurd c1 (by omega))
    have e9 : i = 3 := by omega
    refine sr_fg (ls1 := [.ref 64, .int (nI w), .int (nI q), .null]) ⟨Or.inr rfl, Or.inr rfl, Or.inr rfl, Or.inl rfl, trivial⟩ ?_
    rw [h1_]
    exact kk
  | succ m ih =>
    intro i q h0_ h1_
    refine sr_iload_n hA si_223_126 rfl ?_
    refine sr_iconst (v := nI 3) hA si_223_127 (by decide) ?_
    refine sr_icmp_geN (tgt := 160) hA si_223_128 (by decide) (by omega) (by omega) (fun c1 => absurd c1 (by omega)) (fun c1 => ?_)
    refine sr_iload_n hA si_223_131 rfl ?_
    refine sr_iload_n hA si_223_132 rfl ?_
    refine sr_bipush (v := nI 8) hA si_223_133 (by decide) ?_
    refine sr_icmp_neN (tgt := 151) hA si_223_135 (by decide) (by omega) (by omega) (fun c2 => ?_) (fun c2 => absurd c2 (by omega))
    refine sr_iconst (v := nI 0) hA si_223_151 (by decide) ?_
    refine sr_iaddN hA si_223_152 ?_
    refine sr_istore_n (ls1 := [.ref 64, .int (nI w), .int (nI (q + 0)), .int (nI i)]) hA si_223_153 rfl (by rw [sq_l_223]; decide) rfl ?_
    refine sr_iincN (x := i) (y := 1) (ls1 := [.ref 64, .int (nI w), .int (nI (q + 0)), .int (nI (i + 1))]) hA si_223_154 rfl rfl (by rw [sq_l_223]; decide) rfl ?_
    refine sr_goto (tgt := 126) hA si_223_157 (by decide) ?_
    exact ih (i + 1) (q + 0) (by omega) h1_
set_option maxRecDepth 20000 in
theorem mc_co0 (X : sp_X) (g : sp_G) {n : Nat} (hn : g.1 64 11 = nI n) (hb : n ≤ 6) (hK : sp_kk g 71 n) (hz6 : ∀ r, r < 6 → sp_sz (g.1 66 r) 40) (hz7 : ∀ r, r < 4 → sp_sz (g.1 69 r) 60) (hz8 : ∀ k, k < 3 → g.1 77 k = nI 0 ∨ g.1 77 k = nI 1) : sp_Ct X 1 223 [.ref 64, .int (nI 0)] g (sp_Fi (sp_cv g n 0) g) := by
  refine sp_walkN (n := 4) sq_p_223 sq_l_223 (Nat.le_of_ble_eq_true rfl) (fun a hA => ?_)
  show sp_Ev X a 223 0 [.ref 64, .int (nI 0), .null, .null] [] g
  refine sr_iconst (v := nI 0) hA si_223_0 (by decide) ?_
  refine sr_istore_n (ls1 := [.ref 64, .int (nI 0), .int (nI 0), .null]) hA si_223_1 rfl (by rw [sq_l_223]; decide) rfl ?_
  refine sr_iconst (v := nI 0) hA si_223_2 (by decide) ?_
  refine sr_istore_n (ls1 := [.ref 64, .int (nI 0), .int (nI 0), .int (nI 0)]) hA si_223_3 rfl (by rw [sq_l_223]; decide) rfl ?_
  refine ml_cAn (w := 0) (q0 := 0) (by decide) (by decide) hn hb ?_ hA n 0 0 (by omega) rfl
  refine sr_iconst (v := nI 0) hA si_223_51 (by decide) ?_
  refine sr_istore_n (ls1 := [.ref 64, .int (nI 0), .int (nI 0), .int (nI 0)]) hA si_223_52 rfl (by rw [sq_l_223]; decide) rfl ?_
  refine ml_cBn (w := 0) (q0 := 0) (by decide) (by decide) ?_ hA 6 0 0 (by omega) rfl
  refine sr_iconst (v := nI 0) hA si_223_88 (by decide) ?_
  refine sr_istore_n (ls1 := [.ref 64, .int (nI 0), .int (nI 0), .int (nI 0)]) hA si_223_89 rfl (by rw [sq_l_223]; decide) rfl ?_
  refine ml_cCn (w := 0) (q0 := 0) (by decide) (by decide) ?_ hA 4 0 0 (by omega) rfl
  refine sr_iconst (v := nI 0) hA si_223_124 (by decide) ?_
  refine sr_istore_n (ls1 := [.ref 64, .int (nI 0), .int (nI 0), .int (nI 0)]) hA si_223_125 rfl (by rw [sq_l_223]; decide) rfl ?_
  refine ml_cDn (w := 0) (q0 := 0) (by decide) (by decide) ?_ hA 3 0 0 (by omega) rfl
  refine sr_iload_n hA si_223_160 rfl ?_
  refine sr_tswI (c := nI 0) (tgt := 196) hA si_223_161 rfl (by decide) (by decide) rfl (by decide) ?_
  refine sr_aload_n hA si_223_196 rfl ?_
  refine sr_getIv (v := nI n) hA si_223_197 sf_223_142 (by decide) (by decide) rfl (by decide) hn ?_
  exact sr_iretF hA si_223_200 sq_r_223 rfl rfl
set_option maxRecDepth 20000 in
theorem mc_co1 (X : sp_X) (g : sp_G) {n : Nat} (hn : g.1 64 11 = nI n) (hb : n ≤ 6) (hK : sp_kk g 71 n) (hz6 : ∀ r, r < 6 → sp_sz (g.1 66 r) 40) (hz7 : ∀ r, r < 4 → sp_sz (g.1 69 r) 60) (hz8 : ∀ k, k < 3 → g.1 77 k = nI 0 ∨ g.1 77 k = nI 1) : sp_Ct X 1 223 [.ref 64, .int (nI 1)] g (sp_Fi (sp_cv g n 1) g) := by
  refine sp_walkN (n := 4) sq_p_223 sq_l_223 (Nat.le_of_ble_eq_true rfl) (fun a hA => ?_)
  show sp_Ev X a 223 0 [.ref 64, .int (nI 1), .null, .null] [] g
  refine sr_iconst (v := nI 0) hA si_223_0 (by decide) ?_
  refine sr_istore_n (ls1 := [.ref 64, .int (nI 1), .int (nI 0), .null]) hA si_223_1 rfl (by rw [sq_l_223]; decide) rfl ?_
  refine sr_iconst (v := nI 0) hA si_223_2 (by decide) ?_
  refine sr_istore_n (ls1 := [.ref 64, .int (nI 1), .int (nI 0), .int (nI 0)]) hA si_223_3 rfl (by rw [sq_l_223]; decide) rfl ?_
  refine ml_cAn (w := 1) (q0 := 0) (by decide) (by decide) hn hb ?_ hA n 0 0 (by omega) rfl
  refine sr_iconst (v := nI 0) hA si_223_51 (by decide) ?_
  refine sr_istore_n (ls1 := [.ref 64, .int (nI 1), .int (nI 0), .int (nI 0)]) hA si_223_52 rfl (by rw [sq_l_223]; decide) rfl ?_
  refine ml_cBn (w := 1) (q0 := 0) (by decide) (by decide) ?_ hA 6 0 0 (by omega) rfl
  refine sr_iconst (v := nI 0) hA si_223_88 (by decide) ?_
  refine sr_istore_n (ls1 := [.ref 64, .int (nI 1), .int (nI 0), .int (nI 0)]) hA si_223_89 rfl (by rw [sq_l_223]; decide) rfl ?_
  refine ml_cCn (w := 1) (q0 := 0) (by decide) (by decide) ?_ hA 4 0 0 (by omega) rfl
  refine sr_iconst (v := nI 0) hA si_223_124 (by decide) ?_
  refine sr_istore_n (ls1 := [.ref 64, .int (nI 1), .int (nI 0), .int (nI 0)]) hA si_223_125 rfl (by rw [sq_l_223]; decide) rfl ?_
  refine ml_cDn (w := 1) (q0 := 0) (by decide) (by decide) ?_ hA 3 0 0 (by omega) rfl
  refine sr_iload_n hA si_223_160 rfl ?_
  refine sr_tswI (c := nI 1) (tgt := 201) hA si_223_161 rfl (by decide) (by decide) rfl (by decide) ?_
  refine sr_aload_n hA si_223_201 rfl ?_
  refine sr_getIv (v := g.1 64 21) hA si_223_202 sf_223_149 (by decide) (by decide) rfl (by decide) rfl ?_
  exact sr_iretF hA si_223_205 sq_r_223 rfl rfl
set_option maxRecDepth 20000 in
theorem mc_co2 (X : sp_X) (g : sp_G) {n : Nat} (hn : g.1 64 11 = nI n) (hb : n ≤ 6) (hK : sp_kk g 71 n) (hz6 : ∀ r, r < 6 → sp_sz (g.1 66 r) 40) (hz7 : ∀ r, r < 4 → sp_sz (g.1 69 r) 60) (hz8 : ∀ k, k < 3 → g.1 77 k = nI 0 ∨ g.1 77 k = nI 1) : sp_Ct X 1 223 [.ref 64, .int (nI 2)] g (sp_Fi (sp_cv g n 2) g) := by
  refine sp_walkN (n := 4) sq_p_223 sq_l_223 (Nat.le_of_ble_eq_true rfl) (fun a hA => ?_)
  show sp_Ev X a 223 0 [.ref 64, .int (nI 2), .null, .null] [] g
  refine sr_iconst (v := nI 0) hA si_223_0 (by decide) ?_
  refine sr_istore_n (ls1 := [.ref 64, .int (nI 2), .int (nI 0), .null]) hA si_223_1 rfl (by rw [sq_l_223]; decide) rfl ?_
  refine sr_iconst (v := nI 0) hA si_223_2 (by decide) ?_
  refine sr_istore_n (ls1 := [.ref 64, .int (nI 2), .int (nI 0), .int (nI 0)]) hA si_223_3 rfl (by rw [sq_l_223]; decide) rfl ?_
  refine ml_cAn (w := 2) (q0 := 0) (by decide) (by decide) hn hb ?_ hA n 0 0 (by omega) rfl
  refine sr_iconst (v := nI 0) hA si_223_51 (by decide) ?_
  refine sr_istore_n (ls1 := [.ref 64, .int (nI 2), .int (nI 0), .int (nI 0)]) hA si_223_52 rfl (by rw [sq_l_223]; decide) rfl ?_
  refine ml_cBn (w := 2) (q0 := 0) (by decide) (by decide) ?_ hA 6 0 0 (by omega) rfl
  refine sr_iconst (v := nI 0) hA si_223_88 (by decide) ?_
  refine sr_istore_n (ls1 := [.ref 64, .int (nI 2), .int (nI 0), .int (nI 0)]) hA si_223_89 rfl (by rw [sq_l_223]; decide) rfl ?_
  refine ml_cCn (w := 2) (q0 := 0) (by decide) (by decide) ?_ hA 4 0 0 (by omega) rfl
  refine sr_iconst (v := nI 0) hA si_223_124 (by decide) ?_
  refine sr_istore_n (ls1 := [.ref 64, .int (nI 2), .int (nI 0), .int (nI 0)]) hA si_223_125 rfl (by rw [sq_l_223]; decide) rfl ?_
  refine ml_cDn (w := 2) (q0 := 0) (by decide) (by decide) ?_ hA 3 0 0 (by omega) rfl
  refine sr_iload_n hA si_223_160 rfl ?_
  refine sr_tswI (c := nI 2) (tgt := 206) hA si_223_161 rfl (by decide) (by decide) rfl (by decide) ?_
  refine sr_aload_n hA si_223_206 rfl ?_
  refine sr_iconst (v := nI 0) hA si_223_207 (by decide) ?_
  refine sr_bipush (v := nI 6) hA si_223_208 (by decide) ?_
  refine sr_VFi (c := 64) (ci := 8) (as := [.int (nI 0), .int (nI 6)]) (st := []) hA si_223_210 sv_164 sk_223_152 (mc_v X g (f := 0) (i := 6) (by omega)) (by omega) rfl (by decide) (by decide) rfl sq_c_164 rfl (Nat.le_of_ble_eq_true rfl) ?_
  exact sr_iretF hA si_223_213 sq_r_223 rfl rfl
set_option maxRecDepth 20000 in
theorem mc_co3 (X : sp_X) (g : sp_G) {n : Nat} (hn : g.1 64 11 = nI n) (hb : n ≤ 6) (hK : sp_kk g 71 n) (hz6 : ∀ r, r < 6 → sp_sz (g.1 66 r) 40) (hz7 : ∀ r, r < 4 → sp_sz (g.1 69 r) 60) (hz8 : ∀ k, k < 3 → g.1 77 k = nI 0 ∨ g.1 77 k = nI 1) : sp_Ct X 1 223 [.ref 64, .int (nI 3)] g (sp_Fi (sp_cv g n 3) g) := by
  refine sp_walkN (n := 4) sq_p_223 sq_l_223 (Nat.le_of_ble_eq_true rfl) (fun a hA => ?_)
  show sp_Ev X a 223 0 [.ref 64, .int (nI 3), .null, .null] [] g
  refine sr_iconst (v := nI 0) hA si_223_0 (by decide) ?_
  refine sr_istore_n (ls1 := [.ref 64, .int (nI 3), .int (nI 0), .null]) hA si_223_1 rfl (by rw [sq_l_223]; decide) rfl ?_
  refine sr_iconst (v := nI 0) hA si_223_2 (by decide) ?_
  refine sr_istore_n (ls1 := [.ref 64, .int (nI 3), .int (nI 0), .int (nI 0)]) hA si_223_3 rfl (by rw [sq_l_223]; decide) rfl ?_
  refine ml_cAn (w := 3) (q0 := 0) (by decide) (by decide) hn hb ?_ hA n 0 0 (by omega) rfl
  refine sr_iconst (v := nI 0) hA si_223_51 (by decide) ?_
  refine sr_istore_n (ls1 := [.ref 64, .int (nI 3), .int (nI 0), .int (nI 0)]) hA si_223_52 rfl (by rw [sq_l_223]; decide) rfl ?_
  refine ml_cBn (w := 3) (q0 := 0) (by decide) (by decide) ?_ hA 6 0 0 (by omega) rfl
  refine sr_iconst (v := nI 0) hA si_223_88 (by decide) ?_
  refine sr_istore_n (ls1 := [.ref 64, .int (nI 3), .int (nI 0), .int (nI 0)]) hA si_223_89 rfl (by rw [sq_l_223]; decide) rfl ?_
  refine ml_cCn (w := 3) (q0 := 0) (by decide) (by decide) ?_ hA 4 0 0 (by omega) rfl
  refine sr_iconst (v := nI 0) hA si_223_124 (by decide) ?_
  refine sr_istore_n (ls1 := [.ref 64, .int (nI 3), .int (nI 0), .int (nI 0)]) hA si_223_125 rfl (by rw [sq_l_223]; decide) rfl ?_
  refine ml_cDn (w := 3) (q0 := 0) (by decide) (by decide) ?_ hA 3 0 0 (by omega) rfl
  refine sr_iload_n hA si_223_160 rfl ?_
  refine sr_tswI (c := nI 3) (tgt := 214) hA si_223_161 rfl (by decide) (by decide) rfl (by decide) ?_
  refine sr_aload_n hA si_223_214 rfl ?_
  refine sr_iconst (v := nI 0) hA si_223_215 (by decide) ?_
  refine sr_bipush (v := nI 7) hA si_223_216 (by decide) ?_
  refine sr_VFi (c := 64) (ci := 8) (as := [.int (nI 0), .int (nI 7)]) (st := []) hA si_223_218 sv_164 sk_223_152 (mc_v X g (f := 0) (i := 7) (by omega)) (by omega) rfl (by decide) (by decide) rfl sq_c_164 rfl (Nat.le_of_ble_eq_true rfl) ?_
  exact sr_iretF hA si_223_221 sq_r_223 rfl rfl
set_option maxRecDepth 20000 in
theorem mc_co4 (X : sp_X) (g : sp_G) {n : Nat} (hn : g.1 64 11 = nI n) (hb : n ≤ 6) (hK : sp_kk g 71 n) (hz6 : ∀ r, r < 6 → sp_sz (g.1 66 r) 40) (hz7 : ∀ r, r < 4 → sp_sz (g.1 69 r) 60) (hz8 : ∀ k, k < 3 → g.1 77 k = nI 0 ∨ g.1 77 k = nI 1) : sp_Ct X 1 223 [.ref 64, .int (nI 4)] g (sp_Fi (sp_cv g n 4) g) := by
  refine sp_walkN (n := 4) sq_p_223 sq_l_223 (Nat.le_of_ble_eq_true rfl) (fun a hA => ?_)
  show sp_Ev X a 223 0 [.ref 64, .int (nI 4), .null, .null] [] g
  refine sr_iconst (v := nI 0) hA si_223_0 (by decide) ?_
  refine sr_istore_n (ls1 := [.ref 64, .int (nI 4), .int (nI 0), .null]) hA si_223_1 rfl (by rw [sq_l_223]; decide) rfl ?_
  refine sr_iconst (v := nI 0) hA si_223_2 (by decide) ?_
  refine sr_istore_n (ls1 := [.ref 64, .int (nI 4), .int (nI 0), .int (nI 0)]) hA si_223_3 rfl (by rw [sq_l_223]; decide) rfl ?_
  refine ml_cAn (w := 4) (q0 := 0) (by decide) (by decide) hn hb ?_ hA n 0 0 (by omega) rfl
  refine sr_iconst (v := nI 0) hA si_223_51 (by decide) ?_
  refine sr_istore_n (ls1 := [.ref 64, .int (nI 4), .int (nI 0), .int (nI 0)]) hA si_223_52 rfl (by rw [sq_l_223]; decide) rfl ?_
  refine ml_cBn (w := 4) (q0 := 0) (by decide) (by decide) ?_ hA 6 0 0 (by omega) rfl
  refine sr_iconst (v := nI 0) hA si_223_88 (by decide) ?_
  refine sr_istore_n (ls1 := [.ref 64, .int (nI 4), .int (nI 0), .int (nI 0)]) hA si_223_89 rfl (by rw [sq_l_223]; decide) rfl ?_
  refine ml_cCn (w := 4) (q0 := 0) (by decide) (by decide) ?_ hA 4 0 0 (by omega) rfl
  refine sr_iconst (v := nI 0) hA si_223_124 (by decide) ?_
  refine sr_istore_n (ls1 := [.ref 64, .int (nI 4), .int (nI 0), .int (nI 0)]) hA si_223_125 rfl (by rw [sq_l_223]; decide) rfl ?_
  refine ml_cDn (w := 4) (q0 := 0) (by decide) (by decide) ?_ hA 3 0 0 (by omega) rfl
  refine sr_iload_n hA si_223_160 rfl ?_
  refine sr_tswI (c := nI 4) (tgt := 222) hA si_223_161 rfl (by decide) (by decide) rfl (by decide) ?_
  refine sr_aload_n hA si_223_222 rfl ?_
  refine sr_iconst (v := nI 0) hA si_223_223 (by decide) ?_
  refine sr_bipush (v := nI 8) hA si_223_224 (by decide) ?_
  refine sr_VFi (c := 64) (ci := 8) (as := [.int (nI 0), .int (nI 8)]) (st := []) hA si_223_226 sv_164 sk_223_152 (mc_v X g (f := 0) (i := 8) (by omega)) (by omega) rfl (by decide) (by decide) rfl sq_c_164 rfl (Nat.le_of_ble_eq_true rfl) ?_
  exact sr_iretF hA si_223_229 sq_r_223 rfl rfl
set_option maxRecDepth 20000 in
theorem mc_co5 (X : sp_X) (g : sp_G) {n : Nat} (hn : g.1 64 11 = nI n) (hb : n ≤ 6) (hK : sp_kk g 71 n) (hz6 : ∀ r, r < 6 → sp_sz (g.1 66 r) 40) (hz7 : ∀ r, r < 4 → sp_sz (g.1 69 r) 60) (hz8 : ∀ k, k < 3 → g.1 77 k = nI 0 ∨ g.1 77 k = nI 1) : sp_Ct X 1 223 [.ref 64, .int (nI 5)] g (sp_Fi (sp_cv g n 5) g) := by
  refine sp_walkN (n := 4) sq_p_223 sq_l_223 (Nat.le_of_ble_eq_true rfl) (fun a hA => ?_)
  show sp_Ev X a 223 0 [.ref 64, .int (nI 5), .null, .null] [] g
  refine sr_iconst (v := nI 0) hA si_223_0 (by decide) ?_
  refine sr_istore_n (ls1 := [.ref 64, .int (nI 5), .int (nI 0), .null]) hA si_223_1 rfl (by rw [sq_l_223]; decide) rfl ?_
  refine sr_iconst (v := nI 0) hA si_223_2 (by decide) ?_
  refine sr_istore_n (ls1 := [.ref 64, .int (nI 5), .int (nI 0), .int (nI 0)]) hA si_223_3 rfl (by rw [sq_l_223]; decide) rfl ?_
  refine ml_cA (w := 5) (q0 := 0) rfl hn hb hK ?_ hA n 0 0 (by omega) rfl
  refine sr_iconst (v := nI 0) hA si_223_51 (by decide) ?_
  refine sr_istore_n (ls1 := [.ref 64, .int (nI 5), .int (nI (sp_ct (sp_p5 (g.1 71)) n)), .int (nI 0)]) hA si_223_52 rfl (by rw [sq_l_223]; decide) rfl ?_
  refine ml_cBn (w := 5) (q0 := (sp_ct (sp_p5 (g.1 71)) n)) (by decide) (by decide) ?_ hA 6 0 (sp_ct (sp_p5 (g.1 71)) n) (by omega) rfl
  refine sr_iconst (v := nI 0) hA si_223_88 (by decide) ?_
  refine sr_istore_n (ls1 := [.ref 64, .int (nI 5), .int (nI (sp_ct (sp_p5 (g.1 71)) n)), .int (nI 0)]) hA si_223_89 rfl (by rw [sq_l_223]; decide) rfl ?_
  refine ml_cCn (w := 5) (q0 := (sp_ct (sp_p5 (g.1 71)) n)) (by decide) (by decide) ?_ hA 4 0 (sp_ct (sp_p5 (g.1 71)) n) (by omega) rfl
  refine sr_iconst (v := nI 0) hA si_223_124 (by decide) ?_
  refine sr_istore_n (ls1 := [.ref 64, .int (nI 5), .int (nI (sp_ct (sp_p5 (g.1 71)) n)), .int (nI 0)]) hA si_223_125 rfl (by rw [sq_l_223]; decide) rfl ?_
  refine ml_cDn (w := 5) (q0 := (sp_ct (sp_p5 (g.1 71)) n)) (by decide) (by decide) ?_ hA 3 0 (sp_ct (sp_p5 (g.1 71)) n) (by omega) rfl
  refine sr_iload_n hA si_223_160 rfl ?_
  refine sr_tswO (tgt := 230) hA si_223_161 (by decide) (by decide) ?_
  refine sr_iload_n hA si_223_230 rfl ?_
  exact sr_iretF hA si_223_231 sq_r_223 rfl rfl
set_option maxRecDepth 20000 in
theorem mc_co6 (X : sp_X) (g : sp_G) {n : Nat} (hn : g.1 64 11 = nI n) (hb : n ≤ 6) (hK : sp_kk g 71 n) (hz6 : ∀ r, r < 6 → sp_sz (g.1 66 r) 40) (hz7 : ∀ r, r < 4 → sp_sz (g.1 69 r) 60) (hz8 : ∀ k, k < 3 → g.1 77 k = nI 0 ∨ g.1 77 k = nI 1) : sp_Ct X 1 223 [.ref 64, .int (nI 6)] g (sp_Fi (sp_cv g n 6) g) := by
  refine sp_walkN (n := 4) sq_p_223 sq_l_223 (Nat.le_of_ble_eq_true rfl) (fun a hA => ?_)
  show sp_Ev X a 223 0 [.ref 64, .int (nI 6), .null, .null] [] g
  refine sr_iconst (v := nI 0) hA si_223_0 (by decide) ?_
  refine sr_istore_n (ls1 := [.ref 64, .int (nI 6), .int (nI 0), .null]) hA si_223_1 rfl (by rw [sq_l_223]; decide) rfl ?_
  refine sr_iconst (v := nI 0) hA si_223_2 (by decide) ?_
  refine sr_istore_n (ls1 := [.ref 64, .int (nI 6), .int (nI 0), .int (nI 0)]) hA si_223_3 rfl (by rw [sq_l_223]; decide) rfl ?_
  refine ml_cAn (w := 6) (q0 := 0) (by decide) (by decide) hn hb ?_ hA n 0 0 (by omega) rfl
  refine sr_iconst (v := nI 0) hA si_223_51 (by decide) ?_
  refine sr_istore_n (ls1 := [.ref 64, .int (nI 6), .int (nI 0), .int (nI 0)]) hA si_223_52 rfl (by rw [sq_l_223]; decide) rfl ?_
  refine ml_cB (w := 6) (q0 := 0) rfl hz6 ?_ hA 6 0 0 (by omega) rfl
  refine sr_iconst (v := nI 0) hA si_223_88 (by decide) ?_
  refine sr_istore_n (ls1 := [.ref 64, .int (nI 6), .int (nI (sp_ct (sp_p6 (g.1 66)) 6)), .int (nI 0)]) hA si_223_89 rfl (by rw [sq_l_223]; decide) rfl ?_
  refine ml_cCn (w := 6) (q0 := (sp_ct (sp_p6 (g.1 66)) 6)) (by decide) (by decide) ?_ hA 4 0 (sp_ct (sp_p6 (g.1 66)) 6) (by omega) rfl
  refine sr_iconst (v := nI 0) hA si_223_124 (by decide) ?_
  refine sr_istore_n (ls1 := [.ref 64, .int (nI 6), .int (nI (sp_ct (sp_p6 (g.1 66)) 6)), .int (nI 0)]) hA si_223_125 rfl (by rw [sq_l_223]; decide) rfl ?_
  refine ml_cDn (w := 6) (q0 := (sp_ct (sp_p6 (g.1 66)) 6)) (by decide) (by decide) ?_ hA 3 0 (sp_ct (sp_p6 (g.1 66)) 6) (by omega) rfl
  refine sr_iload_n hA si_223_160 rfl ?_
  refine sr_tswO (tgt := 230) hA si_223_161 (by decide) (by decide) ?_
  refine sr_iload_n hA si_223_230 rfl ?_
  exact sr_iretF hA si_223_231 sq_r_223 rfl rfl
set_option maxRecDepth 20000 in
theorem mc_co7 (X : sp_X) (g : sp_G) {n : Nat} (hn : g.1 64 11 = nI n) (hb : n ≤ 6) (hK : sp_kk g 71 n) (hz6 : ∀ r, r < 6 → sp_sz (g.1 66 r) 40) (hz7 : ∀ r, r < 4 → sp_sz (g.1 69 r) 60) (hz8 : ∀ k, k < 3 → g.1 77 k = nI 0 ∨ g.1 77 k = nI 1) : sp_Ct X 1 223 [.ref 64, .int (nI 7)] g (sp_Fi (sp_cv g n 7) g) := by
  refine sp_walkN (n := 4) sq_p_223 sq_l_223 (Nat.le_of_ble_eq_true rfl) (fun a hA => ?_)
  show sp_Ev X a 223 0 [.ref 64, .int (nI 7), .null, .null] [] g
  refine sr_iconst (v := nI 0) hA si_223_0 (by decide) ?_
  refine sr_istore_n (ls1 := [.ref 64, .int (nI 7), .int (nI 0), .null]) hA si_223_1 rfl (by rw [sq_l_223]; decide) rfl ?_
  refine sr_iconst (v := nI 0) hA si_223_2 (by decide) ?_
  refine sr_istore_n (ls1 := [.ref 64, .int (nI 7), .int (nI 0), .int (nI 0)]) hA si_223_3 rfl (by rw [sq_l_223]; decide) rfl ?_
  refine ml_cAn (w := 7) (q0 := 0) (by decide) (by decide) hn hb ?_ hA n 0 0 (by omega) rfl
  refine sr_iconst (v := nI 0) hA si_223_51 (by decide) ?_
  refine sr_istore_n (ls1 := [.ref 64, .int (nI 7), .int (nI 0), .int (nI 0)]) hA si_223_52 rfl (by rw [sq_l_223]; decide) rfl ?_
  refine ml_cBn (w := 7) (q0 := 0) (by decide) (by decide) ?_ hA 6 0 0 (by omega) rfl
  refine sr_iconst (v := nI 0) hA si_223_88 (by decide) ?_
  refine sr_istore_n (ls1 := [.ref 64, .int (nI 7), .int (nI 0), .int (nI 0)]) hA si_223_89 rfl (by rw [sq_l_223]; decide) rfl ?_
  refine ml_cC (w := 7) (q0 := 0) rfl hz7 ?_ hA 4 0 0 (by omega) rfl
  refine sr_iconst (v := nI 0) hA si_223_124 (by decide) ?_
  refine sr_istore_n (ls1 := [.ref 64, .int (nI 7), .int (nI (sp_ct (sp_p6 (g.1 69)) 4)), .int (nI 0)]) hA si_223_125 rfl (by rw [sq_l_223]; decide) rfl ?_
  refine ml_cDn (w := 7) (q0 := (sp_ct (sp_p6 (g.1 69)) 4)) (by decide) (by decide) ?_ hA 3 0 (sp_ct (sp_p6 (g.1 69)) 4) (by omega) rfl
  refine sr_iload_n hA si_223_160 rfl ?_
  refine sr_tswO (tgt := 230) hA si_223_161 (by decide) (by decide) ?_
  refine sr_iload_n hA si_223_230 rfl ?_
  exact sr_iretF hA si_223_231 sq_r_223 rfl rfl
set_option maxRecDepth 20000 in
theorem mc_co8 (X : sp_X) (g : sp_G) {n : Nat} (hn : g.1 64 11 = nI n) (hb : n ≤ 6) (hK : sp_kk g 71 n) (hz6 : ∀ r, r < 6 → sp_sz (g.1 66 r) 40) (hz7 : ∀ r, r < 4 → sp_sz (g.1 69 r) 60) (hz8 : ∀ k, k < 3 → g.1 77 k = nI 0 ∨ g.1 77 k = nI 1) : sp_Ct X 1 223 [.ref 64, .int (nI 8)] g (sp_Fi (sp_cv g n 8) g) := by
  refine sp_walkN (n := 4) sq_p_223 sq_l_223 (Nat.le_of_ble_eq_true rfl) (fun a hA => ?_)
  show sp_Ev X a 223 0 [.ref 64, .int (nI 8), .null, .null] [] g
  refine sr_iconst (v := nI 0) hA si_223_0 (by decide) ?_
  refine sr_istore_n (ls1 := [.ref 64, .int (nI 8), .int (nI 0), .null]) hA si_223_1 rfl (by rw [sq_l_223]; decide) rfl ?_
  refine sr_iconst (v := nI 0) hA si_223_2 (by decide) ?_
  refine sr_istore_n (ls1 := [.ref 64, .int (nI 8), .int (nI 0), .int (nI 0)]) hA si_223_3 rfl (by rw [sq_l_223]; decide) rfl ?_
  refine ml_cAn (w := 8) (q0 := 0) (by decide) (by decide) hn hb ?_ hA n 0 0 (by omega) rfl
  refine sr_iconst (v := nI 0) hA si_223_51 (by decide) ?_
  refine sr_istore_n (ls1 := [.ref 64, .int (nI 8), .int (nI 0), .int (nI 0)]) hA si_223_52 rfl (by rw [sq_l_223]; decide) rfl ?_
  refine ml_cBn (w := 8) (q0 := 0) (by decide) (by decide) ?_ hA 6 0 0 (by omega) rfl
  refine sr_iconst (v := nI 0) hA si_223_88 (by decide) ?_
  refine sr_istore_n (ls1 := [.ref 64, .int (nI 8), .int (nI 0), .int (nI 0)]) hA si_223_89 rfl (by rw [sq_l_223]; decide) rfl ?_
  refine ml_cCn (w := 8) (q0 := 0) (by decide) (by decide) ?_ hA 4 0 0 (by omega) rfl
  refine sr_iconst (v := nI 0) hA si_223_124 (by decide) ?_
  refine sr_istore_n (ls1 := [.ref 64, .int (nI 8), .int (nI 0), .int (nI 0)]) hA si_223_125 rfl (by rw [sq_l_223]; decide) rfl ?_
  refine ml_cD (w := 8) (q0 := 0) rfl hz8 ?_ hA 3 0 0 (by omega) rfl
  refine sr_iload_n hA si_223_160 rfl ?_
  refine sr_tswO (tgt := 230) hA si_223_161 (by decide) (by decide) ?_
  refine sr_iload_n hA si_223_230 rfl ?_
  exact sr_iretF hA si_223_231 sq_r_223 rfl rfl
