theorem sp_Rel.sx {g : sp_G} (h : sp_Rel g) : (∀ r, r < 6 → sp_sz (g.1 9 r) 40) ∧ (∀ r, r < 6 → sp_sz (g.1 66 r) 40) ∧ (∀ r, r < 4 → sp_sz (g.1 16 r) 60) ∧ (∀ r, r < 4 → sp_sz (g.1 69 r) 60) ∧ (∀ k, k < 3 → g.1 (50 + k) 3 = nI 0 ∨ g.1 (50 + k) 3 = nI 1) ∧ ∀ k, k < 3 → g.1 77 k = nI 0 ∨ g.1 77 k = nI 1 := by
  obtain ⟨hF, hR, hT, n, dm, hK, hS, hP⟩ := h
  refine ⟨fun r hr => by rw [(hR r hr).1]; exact (hR r hr).2.1, fun r hr => (hR r hr).2.1, fun r hr => by rw [(hT r hr).1]; exact (hT r hr).2.1, fun r hr => (hT r hr).2.1, fun k hk => ?_, fun k hk => ?_⟩
  · rw [(hP k hk).1]
    exact (hP k hk).2.imp id (fun q => q.1)
  · exact (hP k hk).2.imp id (fun q => q.1)
theorem xc_countR (X : sp_X) (g : sp_G) {n dm w : Nat} (h : sp_Rel g) (hK : sp_RK n g) (hS : sp_RS n dm g) (hw : w < 9) : sp_Ct X 3 124 [.ref 0, .int (nI w)] g (sp_Fi (sp_cv g n w) g) := by
  obtain ⟨s1, s2, s3, s4, s5, s6⟩ := h.sx
  obtain ⟨hF, hR, hT, -⟩ := id h
  obtain ⟨-, -, -, n', dm', -, -, hP⟩ := id h
  have k1 := hK.2.1
  have kk := sp_kkx hK
  have hw9 : w = 0 ∨ w = 1 ∨ w = 2 ∨ w = 3 ∨ w = 4 ∨ w = 5 ∨ w = 6 ∨ w = 7 ∨ w = 8 := by omega
  rcases hw9 with rfl | rfl | rfl | rfl | rfl | rfl | rfl | rfl | rfl
  · exact xc_co0 X g k1 hK.1 kk s1 s3 s5
  · have := xc_co1 X g k1 hK.1 kk s1 s3 s5
    rw [hS.2.1, ← hS.2.2.1] at this; exact this
  · have := xc_co2 X g k1 hK.1 kk s1 s3 s5
    rw [show g.1 41 1 = g.1 75 6 from sp_nowv hS 6 (by omega)] at this; exact this
  · have := xc_co3 X g k1 hK.1 kk s1 s3 s5
    rw [show g.1 41 2 = g.1 75 7 from sp_nowv hS 7 (by omega)] at this; exact this
  · have := xc_co4 X g k1 hK.1 kk s1 s3 s5
    rw [show g.1 41 3 = g.1 75 8 from sp_nowv hS 8 (by omega)] at this; exact this
  · have := xc_co5 X g k1 hK.1 kk s1 s3 s5
    rw [sp_ct_c (p' := sp_p5 (g.1 71)) (fun i hi => by unfold sp_p5; rw [(hK.2.2.2 i hi).1.1])] at this; exact this
  · have := xc_co6 X g k1 hK.1 kk s1 s3 s5
    rw [sp_ct_c (p' := sp_p6 (g.1 66)) (fun i hi => by unfold sp_p6; rw [(hR i hi).1])] at this; exact this
  · have := xc_co7 X g k1 hK.1 kk s1 s3 s5
    rw [sp_ct_c (p' := sp_p6 (g.1 69)) (fun i hi => by unfold sp_p6; rw [(hT i hi).1])] at this; exact this
  · have := xc_co8 X g k1 hK.1 kk s1 s3 s5
    rw [sp_ct_c (p' := sp_p8 (g.1 77)) (fun i hi => by show decide (g.1 (50 + i) 3 = nI 1) = decide (g.1 77 i = nI 1); rw [(hP i hi).1])] at this; exact this
theorem mc_countR (X : sp_X) (g : sp_G) {n w : Nat} (hn : g.1 64 11 = nI n) (hb : n ≤ 6) (hK : sp_kk g 71 n) (hz6 : ∀ r, r < 6 → sp_sz (g.1 66 r) 40) (hz7 : ∀ r, r < 4 → sp_sz (g.1 69 r) 60) (hz8 : ∀ k, k < 3 → g.1 77 k = nI 0 ∨ g.1 77 k = nI 1) (hw : w < 9) : sp_Ct X 1 223 [.ref 64, .int (nI w)] g (sp_Fi (sp_cv g n w) g) := by
  have hw9 : w = 0 ∨ w = 1 ∨ w = 2 ∨ w = 3 ∨ w = 4 ∨ w = 5 ∨ w = 6 ∨ w = 7 ∨ w = 8 := by omega
  rcases hw9 with rfl | rfl | rfl | rfl | rfl | rfl | rfl | rfl | rfl
  · exact mc_co0 X g hn hb hK hz6 hz7 hz8
  · exact mc_co1 X g hn hb hK hz6 hz7 hz8
  · exact mc_co2 X g hn hb hK hz6 hz7 hz8
  · exact mc_co3 X g hn hb hK hz6 hz7 hz8
  · exact mc_co4 X g hn hb hK hz6 hz7 hz8
  · exact mc_co5 X g hn hb hK hz6 hz7 hz8
  · exact mc_co6 X g hn hb hK hz6 hz7 hz8
  · exact mc_co7 X g hn hb hK hz6 hz7 hz8
  · exact mc_co8 X g hn hb hK hz6 hz7 hz8
set_option maxRecDepth 20000 in
theorem xc_count_a (X : sp_X) (g : sp_G) {w : Int32} (hw : w < 0) : sp_Ct X 9 123 [.ref 0, .int w] g (sp_Fi (-1) g) := by
  refine sp_walkN (n := 2) sq_p_123 sq_l_123 (Nat.le_of_ble_eq_true rfl) (fun a hA => ?_)
  show sp_Ev X a 123 0 [.ref 0, .int w] [] g
  refine sr_iload_n hA si_123_0 rfl ?_
  refine sr_if_lt (tgt := 10) hA si_123_1 (by decide) (fun c1 => ?_) (fun c1 => absurd hw c1)
  refine sr_iconst (v := (-1)) hA si_123_10 (by decide) ?_
  exact sr_iretF hA si_123_11 sq_r_123 rfl rfl
set_option maxRecDepth 20000 in
theorem xc_count_b (X : sp_X) (g : sp_G) {w : Nat} (hw : 9 ≤ w) (hwb : w < 2 ^ 31) : sp_Ct X 9 123 [.ref 0, .int (nI w)] g (sp_Fi (-1) g) := by
  refine sp_walkN (n := 2) sq_p_123 sq_l_123 (Nat.le_of_ble_eq_true rfl) (fun a hA => ?_)
  show sp_Ev X a 123 0 [.ref 0, .int (nI w)] [] g
  refine sr_iload_n hA si_123_0 rfl ?_
  refine sr_if_ltN (tgt := 10) hA si_123_1 (by decide) (by omega) ?_
  refine sr_iload_n hA si_123_4 rfl ?_
  refine sr_bipush (v := nI 9) hA si_123_5 (by decide) ?_
  refine sr_icmp_ltN (tgt := 12) hA si_123_7 (by decide) (by omega) (by omega) (fun c2 => absurd c2 (by omega)) (fun c2 => ?_)
  refine sr_iconst (v := (-1)) hA si_123_10 (by decide) ?_
  exact sr_iretF hA si_123_11 sq_r_123 rfl rfl
set_option maxRecDepth 20000 in
theorem xc_count_e (X : sp_X) (g : sp_G) {w : Nat} (hw : w < 9) {v : Int32} (hC : sp_Ct X 3 124 [.ref 0, .int (nI w)] g (sp_Fi v g)) : sp_Ct X 9 123 [.ref 0, .int (nI w)] g (sp_Fi v g) := by
  refine sp_walkN (n := 2) sq_p_123 sq_l_123 (Nat.le_of_ble_eq_true rfl) (fun a hA => ?_)
  show sp_Ev X a 123 0 [.ref 0, .int (nI w)] [] g
  refine sr_iload_n hA si_123_0 rfl ?_
  refine sr_if_ltN (tgt := 10) hA si_123_1 (by decide) (by omega) ?_
  refine sr_iload_n hA si_123_4 rfl ?_
  refine sr_bipush (v := nI 9) hA si_123_5 (by decide) ?_
  refine sr_icmp_ltN (tgt := 12) hA si_123_7 (by decide) (by omega) (by omega) (fun c2 => ?_) (fun c2 => absurd c2 (by omega))
  refine sr_aload_n hA si_123_12 rfl ?_
  refine sr_iload_n hA si_123_13 rfl ?_
  refine sr_VFi (c := 0) (ci := 7) (as := [.int (nI w)]) (st := []) hA si_123_14 sv_124 sk_123_296 hC (by omega) rfl (by decide) (by decide) rfl sq_c_124 rfl (Nat.le_of_ble_eq_true rfl) ?_
  exact sr_iretF hA si_123_17 sq_r_123 rfl rfl
set_option maxRecDepth 20000 in
theorem mc_count_a (X : sp_X) (g : sp_G) {w : Int32} (hw : w < 0) : sp_Ct X 9 222 [.ref 64, .int w] g (sp_Fi (-1) g) := by
  refine sp_walkN (n := 2) sq_p_222 sq_l_222 (Nat.le_of_ble_eq_true rfl) (fun a hA => ?_)
  show sp_Ev X a 222 0 [.ref 64, .int w] [] g
  refine sr_iload_n hA si_222_0 rfl ?_
  refine sr_iconst (v := nI 0) hA si_222_1 (by decide) ?_
  refine sr_bipush (v := nI 8) hA si_222_2 (by decide) ?_
  refine sr_SFi (as := [.int w, .int (nI 0), .int (nI 8)]) (st := []) hA si_222_4 ss_135 sk_222_83 (mc_inM X g hw (by omega)) (by omega) rfl rfl (Nat.le_of_ble_eq_true rfl) ?_
  refine sr_if_eqN (tgt := 18) hA si_222_7 (by decide) (by omega) (fun c1 => ?_) (fun c1 => absurd c1 (by omega))
  refine sr_iconst (v := (-1)) hA si_222_18 (by decide) ?_
  exact sr_iretF hA si_222_19 sq_r_222 rfl rfl
set_option maxRecDepth 20000 in
theorem mc_count_b (X : sp_X) (g : sp_G) {w : Nat} (hw : 9 ≤ w) (hwb : w < 2 ^ 31) : sp_Ct X 9 222 [.ref 64, .int (nI w)] g (sp_Fi (-1) g) := by
  refine sp_walkN (n := 2) sq_p_222 sq_l_222 (Nat.le_of_ble_eq_true rfl) (fun a hA => ?_)
  show sp_Ev X a 222 0 [.ref 64, .int (nI w)] [] g
  refine sr_iload_n hA si_222_0 rfl ?_
  refine sr_iconst (v := nI 0) hA si_222_1 (by decide) ?_
  refine sr_bipush (v := nI 8) hA si_222_2 (by decide) ?_
  refine sr_SFi (as := [.int (nI w), .int (nI 0), .int (nI 8)]) (st := []) hA si_222_4 ss_135 sk_222_83 (mc_inH X g (by omega) (by omega)) (by omega) rfl rfl (Nat.le_of_ble_eq_true rfl) ?_
  refine sr_if_eqN (tgt := 18) hA si_222_7 (by decide) (by omega) (fun c1 => ?_) (fun c1 => absurd c1 (by omega))
  refine sr_iconst (v := (-1)) hA si_222_18 (by decide) ?_
  exact sr_iretF hA si_222_19 sq_r_222 rfl rfl
set_option maxRecDepth 20000 in
theorem mc_count_e (X : sp_X) (g : sp_G) {w : Nat} (hw : w < 9) {v : Int32} (hC : sp_Ct X 1 223 [.ref 64, .int (nI w)] g (sp_Fi v g)) : sp_Ct X 9 222 [.ref 64, .int (nI w)] g (sp_Fi v g) := by
  refine sp_walkN (n := 2) sq_p_222 sq_l_222 (Nat.le_of_ble_eq_true rfl) (fun a hA => ?_)
  show sp_Ev X a 222 0 [.ref 64, .int (nI w)] [] g
  refine sr_iload_n hA si_222_0 rfl ?_
  refine sr_iconst (v := nI 0) hA si_222_1 (by decide) ?_
  refine sr_bipush (v := nI 8) hA si_222_2 (by decide) ?_
  refine sr_SFi (as := [.int (nI w), .int (nI 0), .int (nI 8)]) (st := []) hA si_222_4 ss_135 sk_222_83 (mc_inN X g (by omega) (by omega) (by omega)) (by omega) rfl rfl (Nat.le_of_ble_eq_true rfl) ?_
  refine sr_if_eqN (tgt := 18) hA si_222_7 (by decide) (by omega) (fun c1 => absurd c1 (by omega)) (fun c1 => ?_)
  refine sr_aload_n hA si_222_10 rfl ?_
  refine sr_iload_n hA si_222_11 rfl ?_
  refine sr_VFi (c := 64) (ci := 8) (as := [.int (nI w)]) (st := []) hA si_222_12 sv_223 sk_222_286 hC (by omega) rfl (by decide) (by decide) rfl sq_c_223 rfl (Nat.le_of_ble_eq_true rfl) ?_
  refine sr_goto (tgt := 19) hA si_222_15 (by decide) ?_
  exact sr_iretF hA si_222_19 sq_r_222 rfl rfl
theorem pr_count {X : sp_X} {g : sp_G} (h : sp_Rel g) (w : Int32) : sp_Pi X 123 222 [.int w] g := by
  obtain ⟨hF, hR, hT, n, dm, hK, hS, hP⟩ := id h
  obtain ⟨s1, s2, s3, s4, s5, s6⟩ := h.sx
  rcases sp_cls w with hw | ⟨w, hwb, rfl⟩
  · exact sp_pF (xc_count_a X g hw) (mc_count_a X g hw) (by omega) (by omega) h
  by_cases hw : w < 9
  rotate_left
  · exact sp_pF (xc_count_b X g (by omega) hwb) (mc_count_b X g (by omega) hwb) (by omega) (by omega) h
  exact sp_pF (xc_count_e X g hw (xc_countR X g h hK hS hw)) (mc_count_e X g hw (mc_countR X g hK.2.2.1 hK.1 (sp_kkm hK) s2 s4 s6 hw)) (by omega) (by omega) h
/-! the digest -/
def sp_fo (f : Nat → Int64 → Int64) : Nat → Int64 → Int64
  | 0, h => h
  | m + 1, h => f m (sp_fo f m h)
theorem sp_fo_c {f f' : Nat → Int64 → Int64} : ∀ {m : Nat} {h : Int64}, (∀ i, i < m → f i = f' i) → sp_fo f m h = sp_fo f' m h
  | 0, _, _ => rfl
  | m + 1, h, e => by
    show f m _ = f' m _
    rw [sp_fo_c (fun i hi => e i (by omega)), e m (by omega)]
def sp_kv (g : sp_G) (i : Nat) : Nat → Int32
  | 0 => g.1 71 i
  | 1 => g.1 72 i
  | 2 => g.1 75 i
  | 3 => g.1 73 i
  | _ => if sp_cb (g.1 71 i) (g.1 72 i) (g.1 75 i) = true then nI 1 else nI 0
def sp_d1 (g : sp_G) (n : Nat) : Int64 := sp_fo (fun w h => 31 * h + (sp_cv g n w).toInt64) 9 17
def sp_f3 (g : sp_G) (i : Nat) (h : Int64) : Int64 := sp_fo (fun w h => 31 * h + (sp_kv g i w).toInt64) 5 h
def sp_f4 (g : sp_G) (k : Nat) (h : Int64) : Int64 := 31 * h + (if g.1 77 k = nI 1 then (g.1 78 k).toInt64 else -1)
def sp_f5 (S : Nat → Int32) (F : Nat → Nat → Int32) (r : Nat) (h : Int64) : Int64 := sp_fo (fun i h => 31 * h + (F r i).toInt64) (S r).toNatClampNeg (31 * h + (S r).toInt64)
def sp_dg (g : sp_G) (n : Nat) : Int64 := sp_fo (sp_f5 (g.1 69) (fun r i => g.1 70 (60 * r + i))) 4 (sp_fo (sp_f5 (g.1 66) (fun r i => g.1 67 (40 * r + i))) 6 (sp_fo (sp_f4 g) 3 (sp_fo (sp_f3 g) n (31 * sp_d1 g n + (g.1 64 10).toInt64))))
theorem xc_ktR (X : sp_X) (g : sp_G) {n dm i w : Nat} (hK : sp_RK n g) (hS : sp_RS n dm g) (hi : i < n) (hw : w < 5) : sp_Ct X 2 44 [.ref 0, .int (nI i), .int (nI w)] g (sp_Fi (sp_kv g i w) g) := by
  obtain ⟨⟨a1, k, k1, k2⟩, ⟨a3, -⟩, ⟨a4, -⟩⟩ := hK.2.2.2 i hi
  have h6 := hK.1
  have e := sp_onE hS (i := i) (by omega)
  rw [show 9 * 0 + i = i by omega] at e
  have hw5 : w = 0 ∨ w = 1 ∨ w = 2 ∨ w = 3 ∨ w = 4 := by omega
  rcases hw5 with rfl | rfl | rfl | rfl | rfl
  · have := xc_kt0 X g (i := i) (by omega); rw [a1] at this; exact this
  · have := xc_kt1 X g (i := i) (by omega); rw [a3] at this; exact this
  · have := xc_kt2 X g (i := i) (by omega); rw [e] at this; exact this
  · have := xc_kt3 X g (i := i) (by omega); rw [a4] at this; exact this
  · show sp_Ct X 2 44 _ g (sp_Fi (if sp_cb (g.1 71 i) (g.1 72 i) (g.1 75 i) = true then nI 1 else nI 0) g)
    by_cases hc : sp_cb (g.1 71 i) (g.1 72 i) (g.1 75 i) = true
    · rw [if_pos hc]; exact xc_kt4T X g (by omega) (a1.trans k2) k1 (by rw [a1, a3, e]; exact hc)
    · rw [if_neg hc]; exact xc_kt4F X g (by omega) (a1.trans k2) k1 (by rw [a1, a3, e]; exact hc)
theorem mc_ktR (X : sp_X) (g : sp_G) {n i w : Nat} (hb : n ≤ 6) (hK : sp_kk g 71 n) (hi : i < n) (hw : w < 5) : sp_Ct X 2 163 [.ref 64, .int (nI i), .int (nI w)] g (sp_Fi (sp_kv g i w) g) := by
  obtain ⟨k, k1, k2⟩ := hK i hi
  have e : 9 * 0 + i = i := by omega
  have hw5 : w = 0 ∨ w = 1 ∨ w = 2 ∨ w = 3 ∨ w = 4 := by omega
  rcases hw5 with rfl | rfl | rfl | rfl | rfl
  · exact mc_kt0 X g (i := i) (by omega)
  · exact mc_kt1 X g (i := i) (by omega)
  · have := mc_kt2 X g (i := i) (by omega); rw [e] at this; exact this
  · exact mc_kt3 X g (i := i) (by omega)
  · show sp_Ct X 2 163 _ g (sp_Fi (if sp_cb (g.1 71 i) (g.1 72 i) (g.1 75 i) = true then nI 1 else nI 0) g)
    by_cases hc : sp_cb (g.1 71 i) (g.1 72 i) (g.1 75 i) = true
    · rw [if_pos hc]; exact mc_kt4T X g (by omega) k2 k1 (by rw [e]; exact hc)
    · rw [if_neg hc]; exact mc_kt4F X g (by omega) k2 k1 (by rw [e]; exact hc)
theorem sp_wL_2 {g : sp_G} {c j : Nat} {u w : Int64} : sp_wL (sp_wL g c j u) c j w = sp_wL g c j w := by
  refine Prod.ext rfl (funext fun a => funext fun b => ?_)
  show (if a = c ∧ b = j then w else (if a = c ∧ b = j then u else g.2 a b)) = (if a = c ∧ b = j then w else g.2 a b)
  by_cases e : a = c ∧ b = j
  · rw [if_pos e, if_pos e]
  · rw [if_neg e, if_neg e, if_neg e]
theorem sp_rdL {g : sp_G} {c j : Nat} {u : Int64} : (sp_wL g c j u).2 c j = u := if_pos ⟨rfl, rfl⟩
theorem sp_nm1 {k : Nat} (h : k < 2 ^ 31) : ¬ nI k < (-1 : Int32) := fun q => by
  have q := Int32.lt_iff_toInt_lt.mp q
  rw [nI_toInt h] at q
  have e : (-1 : Int32).toInt = -1 := by decide
  omega
theorem sp_nm2 {k : Nat} (h : k < 2 ^ 31) : (-1 : Int32) ≤ nI k := by
  rw [Int32.le_iff_toInt_le, nI_toInt h]
  have e : (-1 : Int32).toInt = -1 := by decide
  omega
set_option maxRecDepth 20000 in
theorem xl_mxRI {X : sp_X} {dd : Nat} {ac : sp_Ac} {g : sp_G} {Rt : sp_Rt} {r z : Nat} {h0 : Int64} (hr : r < 6) (hz : g.1 9 r = nI z) (hzb : z ≤ 40) (kk : sp_Ev X ac 131 69 [.ref 1, .null, .null, .long (sp_fo (fun i h => 31 * h + (g.1 (3 + r) i).toInt64) z h0), .null, .int (nI r), .null] [] g) (hA : sp_Act X 131 dd Rt ac) : ∀ (m : Nat) (i : Nat) (h : Int64), i + m = z → h = sp_fo (fun i h => 31 * h + (g.1 (3 + r) i).toInt64) i h0 → sp_Ev X ac 131 33 [.ref 1, .null, .null, .long h, .null, .int (nI r), .int (nI i)] [] g := by
  intro m
  induction m with
  | zero =>
    intro i h h0_ h1_
    refine sr_iload hA si_131_33 rfl ?_
    refine sr_aload_n hA si_131_35 rfl ?_
    refine sr_getR (r := 9) hA si_131_36 sf_131_14 (by decide) (by decide) rfl rfl rfl ?_
    refine sr_iload hA si_131_39 rfl ?_
    refine sr_ialdNv (v := nI z) (n := 6) hA si_131_41 (by decide) rfl rfl (by omega) (by decide) hz ?_
    refine sr_icmp_geN (tgt := 69) hA si_131_42 (by decide) (by omega) (by omega) (fun c1 => ?_) (fun c1 => absurd c1 (by omega))
    have e9 : i = z := by omega
    refine sr_fg (ls1 := [.ref 1, .null, .null, .long h, .null, .int (nI r), .null]) ⟨Or.inr rfl, Or.inl rfl, Or.inl rfl, Or.inr rfl, Or.inl rfl, Or.inr rfl, Or.inl rfl, trivial⟩ ?_
    rw [h1_, e9]
    exact kk
  | succ m ih =>
    intro i h h0_ h1_
    refine sr_iload hA si_131_33 rfl ?_
    refine sr_aload_n hA si_131_35 rfl ?_
    refine sr_getR (r := 9) hA si_131_36 sf_131_14 (by decide) (by decide) rfl rfl rfl ?_
    refine sr_iload hA si_131_39 rfl ?_
    refine sr_ialdNv (v := nI z) (n := 6) hA si_131_41 (by decide) rfl rfl (by omega) (by decide) hz ?_
    refine sr_icmp_geN (tgt := 69) hA si_131_42 (by decide) (by omega) (by omega) (fun c1 => absurd c1 (by omega)) (fun c1 => ?_)
    refine sr_ldc2 hA si_131_45 sc_131_30 ?_
    refine sr_lload_n hA si_131_48 rfl ?_
    refine sr_lmul hA si_131_49 ?_
    refine sr_aload_n hA si_131_50 rfl ?_
    refine sr_getR (r := 2) hA si_131_51 sf_131_9 (by decide) (by decide) rfl rfl rfl ?_
    refine sr_iload hA si_131_54 rfl ?_
    refine sr_aaldN (r := (3 + r)) (n := 6) hA si_131_56 (by decide) (by decide) rfl (by omega) (by decide) (sp_rwr (by omega)) ?_
    refine sr_iload hA si_131_57 rfl ?_
    refine sr_ialdNv (v := g.1 (3 + r) i) (n := 40) hA si_131_59 (sp_rwK (by omega)) (sp_rwk (by omega)) (sp_rwl (by omega)) (by omega) (by decide) rfl ?_
    refine sr_i2l hA si_131_60 ?_
    refine sr_ladd hA si_131_61 ?_
    refine sr_lstore_n (ls1 := [.ref 1, .null, .null, .long ((31 * h) + ((g.1 (3 + r) i).toInt64)), .null, .int (nI r), .int (nI i)]) hA si_131_62 rfl (by rw [sq_l_131]; decide) rfl ?_
    refine sr_iincN (x := i) (y := 1) (ls1 := [.ref 1, .null, .null, .long ((31 * h) + ((g.1 (3 + r) i).toInt64)), .null, .int (nI r), .int (nI (i + 1))]) hA si_131_63 rfl rfl (by rw [sq_l_131]; decide) rfl ?_
    refine sr_goto (tgt := 33) hA si_131_66 (by decide) ?_
    exact ih (i + 1) _ (by omega) (by rw [h1_]; rfl)
set_option maxRecDepth 20000 in
theorem xl_mxR {X : sp_X} {ac : sp_Ac} {g : sp_G} {h0 : Int64} (hz : ∀ r, r < 6 → sp_sz (g.1 9 r) 40) (hA : sp_Act X 131 1 (sp_Fl (sp_fo (sp_f5 (g.1 9) (fun r i => g.1 (3 + r) i)) 6 h0) g) ac) : ∀ (m : Nat) (r : Nat) (h : Int64), r + m = 6 → h = sp_fo (sp_f5 (g.1 9) (fun r i => g.1 (3 + r) i)) r h0 → sp_Ev X ac 131 5 [.ref 1, .null, .null, .long h, .null, .int (nI r), .null] [] g := by
  intro m
  induction m with
  | zero =>
    intro r h h0_ h1_
    refine sr_iload hA si_131_5 rfl ?_
    refine sr_aload_n hA si_131_7 rfl ?_
    refine sr_getR (r := 9) hA si_131_8 sf_131_14 (by decide) (by decide) rfl rfl rfl ?_
    refine sr_alen (v := nI 6) hA si_131_11 (by decide) (by decide) rfl ?_
    refine sr_icmp_geN (tgt := 75) hA si_131_12 (by decide) (by omega) (by omega) (fun c1 => ?_) (fun c1 => absurd c1 (by omega))
    refine sr_lload_n hA si_131_75 rfl ?_
    exact sr_lretF hA si_131_76 sq_r_131 (by rw [h1_, show r = 6 by omega]) rfl
  | succ m ih =>
    intro r h h0_ h1_
    rcases hz r (by omega) with ee | ⟨z, zb, ee⟩
    · refine sr_iload hA si_131_5 rfl ?_
      refine sr_aload_n hA si_131_7 rfl ?_
      refine sr_getR (r := 9) hA si_131_8 sf_131_14 (by decide) (by decide) rfl rfl rfl ?_
      refine sr_alen (v := nI 6) hA si_131_11 (by decide) (by decide) rfl ?_
      refine sr_icmp_geN (tgt := 75) hA si_131_12 (by decide) (by omega) (by omega) (fun c1 => absurd c1 (by omega)) (fun c1 => ?_)
      refine sr_ldc2 hA si_131_15 sc_131_30 ?_
      refine sr_lload_n hA si_131_18 rfl ?_
      refine sr_lmul hA si_131_19 ?_
      refine sr_aload_n hA si_131_20 rfl ?_
      refine sr_getR (r := 9) hA si_131_21 sf_131_14 (by decide) (by decide) rfl rfl rfl ?_
      refine sr_iload hA si_131_24 rfl ?_
      refine sr_ialdNv (v := (-1)) (n := 6) hA si_131_26 (by decide) rfl rfl (by omega) (by decide) ee ?_
      refine sr_i2l hA si_131_27 ?_
      refine sr_ladd hA si_131_28 ?_
      refine sr_lstore_n (ls1 := [.ref 1, .null, .null, .long ((31 * h) + ((-1 : Int32).toInt64)), .null, .int (nI r), .null]) hA si_131_29 rfl (by rw [sq_l_131]; decide) rfl ?_
      refine sr_iconst (v := nI 0) hA si_131_30 (by decide) ?_
      refine sr_istore (ls1 := [.ref 1, .null, .null, .long ((31 * h) + ((-1 : Int32).toInt64)), .null, .int (nI r), .int (nI 0)]) hA si_131_31 (by rw [sq_l_131]; decide) rfl ?_
      refine sr_iload hA si_131_33 rfl ?_
      refine sr_aload_n hA si_131_35 rfl ?_
      refine sr_getR (r := 9) hA si_131_36 sf_131_14 (by decide) (by decide) rfl rfl rfl ?_
      refine sr_iload hA si_131_39 rfl ?_
      refine sr_ialdNv (v := (-1)) (n := 6) hA si_131_41 (by decide) rfl rfl (by omega) (by decide) ee ?_
      refine sr_icmp_ge (tgt := 69) hA si_131_42 (by decide) (fun c2 => ?_) (fun c2 => absurd (sp_nm2 (by omega)) c2)
      refine sr_iincN (x := r) (y := 1) (ls1 := [.ref 1, .null, .null, .long ((31 * h) + ((-1 : Int32).toInt64)), .null, .int (nI (r + 1)), .int (nI 0)]) hA si_131_69 rfl rfl (by rw [sq_l_131]; decide) rfl ?_
      refine sr_goto (tgt := 5) hA si_131_72 (by decide) ?_
      refine sr_fg (ls1 := [.ref 1, .null, .null, .long ((31 * h) + ((-1 : Int32).toInt64)), .null, .int (nI (r + 1)), .null]) ⟨Or.inr rfl, Or.inl rfl, Or.inl rfl, Or.inr rfl, Or.inl rfl, Or.inr rfl, Or.inl rfl, trivial⟩ ?_
      exact ih (r + 1) _ (by omega) (by rw [h1_]; show _ = (sp_f5 (g.1 9) (fun r i => g.1 (3 + r) i)) r _; unfold sp_f5; rw [ee]; rfl)
    · refine sr_iload hA si_131_5 rfl ?_
      refine sr_aload_n hA si_131_7 rfl ?_
      refine sr_getR (r := 9) hA si_131_8 sf_131_14 (by decide) (by decide) rfl rfl rfl ?_
      refine sr_alen (v := nI 6) hA si_131_11 (by decide) (by decide) rfl ?_
      refine sr_icmp_geN (tgt := 75) hA si_131_12 (by decide) (by omega) (by omega) (fun c1 => absurd c1 (by omega)) (fun c1 => ?_)
      refine sr_ldc2 hA si_131_15 sc_131_30 ?_
      refine sr_lload_n hA si_131_18 rfl ?_
      refine sr_lmul hA si_131_19 ?_
      refine sr_aload_n hA si_131_20 rfl ?_
      refine sr_getR (r := 9) hA si_131_21 sf_131_14 (by decide) (by decide) rfl rfl rfl ?_
      refine sr_iload hA si_131_24 rfl ?_
      refine sr_ialdNv (v := nI z) (n := 6) hA si_131_26 (by decide) rfl rfl (by omega) (by decide) ee ?_
      refine sr_i2l hA si_131_27 ?_
      refine sr_ladd hA si_131_28 ?_
      refine sr_lstore_n (ls1 := [.ref 1, .null, .null, .long ((31 * h) + ((nI z).toInt64)), .null, .int (nI r), .null]) hA si_131_29 rfl (by rw [sq_l_131]; decide) rfl ?_
      refine sr_iconst (v := nI 0) hA si_131_30 (by decide) ?_
      refine sr_istore (ls1 := [.ref 1, .null, .null, .long ((31 * h) + ((nI z).toInt64)), .null, .int (nI r), .int (nI 0)]) hA si_131_31 (by rw [sq_l_131]; decide) rfl ?_
      refine xl_mxRI (h0 := ((31 * h) + ((nI z).toInt64))) (by omega) ee (by omega) ?_ hA z 0 _ (by omega) rfl
      refine sr_iincN (x := r) (y := 1) (ls1 := [.ref 1, .null, .null, .long (sp_fo (fun i h => 31 * h + (g.1 (3 + r) i).toInt64) z ((31 * h) + ((nI z).toInt64))), .null, .int (nI (r + 1)), .null]) hA si_131_69 rfl rfl (by rw [sq_l_131]; decide) rfl ?_
      refine sr_goto (tgt := 5) hA si_131_72 (by decide) ?_
      exact ih (r + 1) _ (by omega) (by rw [h1_]; show _ = (sp_f5 (g.1 9) (fun r i => g.1 (3 + r) i)) r _; unfold sp_f5; rw [ee, nI_clamp (by omega)])
set_option maxRecDepth 20000 in
theorem xc_mxR (X : sp_X) (g : sp_G) {h0 : Int64} (hz : ∀ r, r < 6 → sp_sz (g.1 9 r) 40) : sp_Ct X 1 131 [.ref 1, .long h0] g (sp_Fl (sp_fo (sp_f5 (g.1 9) (fun r i => g.1 (3 + r) i)) 6 h0) g) := by
  refine sp_walkN (n := 7) sq_p_131 sq_l_131 (Nat.le_of_ble_eq_true rfl) (fun ac hA => ?_)
  show sp_Ev X ac 131 0 [.ref 1, .long h0, .null, .null, .null, .null, .null] [] g
  refine sr_lload_n hA si_131_0 rfl ?_
  refine sr_lstore_n (ls1 := [.ref 1, .long h0, .null, .long h0, .null, .null, .null]) hA si_131_1 rfl (by rw [sq_l_131]; decide) rfl ?_
  refine sr_iconst (v := nI 0) hA si_131_2 (by decide) ?_
  refine sr_istore (ls1 := [.ref 1, .long h0, .null, .long h0, .null, .int (nI 0), .null]) hA si_131_3 (by rw [sq_l_131]; decide) rfl ?_
  refine sr_fg (ls1 := [.ref 1, .null, .null, .long h0, .null, .int (nI 0), .null]) ⟨Or.inr rfl, Or.inl rfl, Or.inl rfl, Or.inr rfl, Or.inl rfl, Or.inr rfl, Or.inl rfl, trivial⟩ ?_
  exact xl_mxR hz hA 6 0 h0 (by omega) rfl
set_option maxRecDepth 20000 in
theorem xl_mxTI {X : sp_X} {dd : Nat} {ac : sp_Ac} {g : sp_G} {Rt : sp_Rt} {r z : Nat} {h0 : Int64} (hr : r < 4) (hz : g.1 16 r = nI z) (hzb : z ≤ 60) (kk : sp_Ev X ac 131 69 [.ref 10, .null, .null, .long (sp_fo (fun i h => 31 * h + (g.1 (12 + r) i).toInt64) z h0), .null, .int (nI r), .null] [] g) (hA : sp_Act X 131 dd Rt ac) : ∀ (m : Nat) (i : Nat) (h : Int64), i + m = z → h = sp_fo (fun i h => 31 * h + (g.1 (12 + r) i).toInt64) i h0 → sp_Ev X ac 131 33 [.ref 10, .null, .null, .long h, .null, .int (nI r), .int (nI i)] [] g := by
  intro m
  induction m with
  | zero =>
    intro i h h0_ h1_
    refine sr_iload hA si_131_33 rfl ?_
    refine sr_aload_n hA si_131_35 rfl ?_
    refine sr_getR (r := 16) hA si_131_36 sf_131_14 (by decide) (by decide) rfl rfl rfl ?_
    refine sr_iload hA si_131_39 rfl ?_
    refine sr_ialdNv (v := nI z) (n := 4) hA si_131_41 (by decide) rfl rfl (by omega) (by decide) hz ?_
    refine sr_icmp_geN (tgt := 69) hA si_131_42 (by decide) (by omega) (by omega) (fun c1 => ?_) (fun c1 => absurd c1 (by omega))
    have e9 : i = z := by omega
    refine sr_fg (ls1 := [.ref 10, .null, .null, .long h, .null, .int (nI r), .null]) ⟨Or.inr rfl, Or.inl rfl, Or.inl rfl, Or.inr rfl, Or.inl rfl, Or.inr rfl, Or.inl rfl, trivial⟩ ?_
    rw [h1_, e9]
    exact kk
  | succ m ih =>
    intro i h h0_ h1_
    refine sr_iload hA si_131_33 rfl ?_
    refine sr_aload_n hA si_131_35 rfl ?_
    refine sr_getR (r := 16) hA si_131_36 sf_131_14 (by decide) (by decide) rfl rfl rfl ?_
    refine sr_iload hA si_131_39 rfl ?_
    refine sr_ialdNv (v := nI z) (n := 4) hA si_131_41 (by decide) rfl rfl (by omega) (by decide) hz ?_
    refine sr_icmp_geN (tgt := 69) hA si_131_42 (by decide) (by omega) (by omega) (fun c1 => absurd c1 (by omega)) (fun c1 => ?_)
    refine sr_ldc2 hA si_131_45 sc_131_30 ?_
    refine sr_lload_n hA si_131_48 rfl ?_
    refine sr_lmul hA si_131_49 ?_
    refine sr_aload_n hA si_131_50 rfl ?_
    refine sr_getR (r := 11) hA si_131_51 sf_131_9 (by decide) (by decide) rfl rfl rfl ?_
    refine sr_iload hA si_131_54 rfl ?_
    refine sr_aaldN (r := (12 + r)) (n := 4) hA si_131_56 (by decide) (by decide) rfl (by omega) (by decide) (sp_txr (by omega)) ?_
    refine sr_iload hA si_131_57 rfl ?_
    refine sr_ialdNv (v := g.1 (12 + r) i) (n := 60) hA si_131_59 (sp_txK (by omega)) (sp_txk (by omega)) (sp_txl (by omega)) (by omega) (by decide) rfl ?_
    refine sr_i2l hA si_131_60 ?_
    refine sr_ladd hA si_131_61 ?_
    refine sr_lstore_n (ls1 := [.ref 10, .null, .null, .long ((31 * h) + ((g.1 (12 + r) i).toInt64)), .null, .int (nI r), .int (nI i)]) hA si_131_62 rfl (by rw [sq_l_131]; decide) rfl ?_
    refine sr_iincN (x := i) (y := 1) (ls1 := [.ref 10, .null, .null, .long ((31 * h) + ((g.1 (12 + r) i).toInt64)), .null, .int (nI r), .int (nI (i + 1))]) hA si_131_63 rfl rfl (by rw [sq_l_131]; decide) rfl ?_
    refine sr_goto (tgt := 33) hA si_131_66 (by decide) ?_
    exact ih (i + 1) _ (by omega) (by rw [h1_]; rfl)
set_option maxRecDepth 20000 in
theorem xl_mxT {X : sp_X} {ac : sp_Ac} {g : sp_G} {h0 : Int64} (hz : ∀ r, r < 4 → sp_sz (g.1 16 r) 60) (hA : sp_Act X 131 1 (sp_Fl (sp_fo (sp_f5 (g.1 16) (fun r i => g.1 (12 + r) i)) 4 h0) g) ac) : ∀ (m : Nat) (r : Nat) (h : Int64), r + m = 4 → h = sp_fo (sp_f5 (g.1 16) (fun r i => g.1 (12 + r) i)) r h0 → sp_Ev X ac 131 5 [.ref 10, .null, .null, .long h, .null, .int (nI r), .null] [] g := by
  intro m
  induction m with
  | zero =>
    intro r h h0_ h1_
    refine sr_iload hA si_131_5 rfl ?_
    refine sr_aload_n hA si_131_7 rfl ?_
    refine sr_getR (r := 16) hA si_131_8 sf_131_14 (by decide) (by decide) rfl rfl rfl ?_
    refine sr_alen (v := nI 4) hA si_131_11 (by decide) (by decide) rfl ?_
    refine sr_icmp_geN (tgt := 75) hA si_131_12 (by decide) (by omega) (by omega) (fun c1 => ?_) (fun c1 => absurd c1 (by omega))
    refine sr_lload_n hA si_131_75 rfl ?_
    exact sr_lretF hA si_131_76 sq_r_131 (by rw [h1_, show r = 4 by omega]) rfl
  | succ m ih =>
    intro r h h0_ h1_
    rcases hz r (by omega) with ee | ⟨z, zb, ee⟩
    · refine sr_iload hA si_131_5 rfl ?_
      refine sr_aload_n hA si_131_7 rfl ?_
      refine sr_getR (r := 16) hA si_131_8 sf_131_14 (by decide) (by decide) rfl rfl rfl ?_
      refine sr_alen (v := nI 4) hA si_131_11 (by decide) (by decide) rfl ?_
      refine sr_icmp_geN (tgt := 75) hA si_131_12 (by decide) (by omega) (by omega) (fun c1 => absurd c1 (by omega)) (fun c1 => ?_)
      refine sr_ldc2 hA si_131_15 sc_131_30 ?_
      refine sr_lload_n hA si_131_18 rfl ?_
      refine sr_lmul hA si_131_19 ?_
      refine sr_aload_n hA si_131_20 rfl ?_
      refine sr_getR (r := 16) hA si_131_21 sf_131_14 (by decide) (by decide) rfl rfl rfl ?_
      refine sr_iload hA si_131_24 rfl ?_
      refine sr_ialdNv (v := (-1)) (n := 4) hA si_131_26 (by decide) rfl rfl (by omega) (by decide) ee ?_
      refine sr_i2l hA si_131_27 ?_
      refine sr_ladd hA si_131_28 ?_
      refine sr_lstore_n (ls1 := [.ref 10, .null, .null, .long ((31 * h) + ((-1 : Int32).toInt64)), .null, .int (nI r), .null]) hA si_131_29 rfl (by rw [sq_l_131]; decide) rfl ?_
      refine sr_iconst (v := nI 0) hA si_131_30 (by decide) ?_
      refine sr_istore (ls1 := [.ref 10, .null, .null, .long ((31 * h) + ((-1 : Int32).toInt64)), .null, .int (nI r), .int (nI 0)]) hA si_131_31 (by rw [sq_l_131]; decide) rfl ?_
      refine sr_iload hA si_131_33 rfl ?_
      refine sr_aload_n hA si_131_35 rfl ?_
      refine sr_getR (r := 16) hA si_131_36 sf_131_14 (by decide) (by decide) rfl rfl rfl ?_
      refine sr_iload hA si_131_39 rfl ?_
      refine sr_ialdNv (v := (-1)) (n := 4) hA si_131_41 (by decide) rfl rfl (by omega) (by decide) ee ?_
      refine sr_icmp_ge (tgt := 69) hA si_131_42 (by decide) (fun c2 => ?_) (fun c2 => absurd (sp_nm2 (by omega)) c2)
      refine sr_iincN (x := r) (y := 1) (ls1 := [.ref 10, .null, .null, .long ((31 * h) + ((-1 : Int32).toInt64)), .null, .int (nI (r + 1)), .int (nI 0)]) hA si_131_69 rfl rfl (by rw [sq_l_131]; decide) rfl ?_
      refine sr_goto (tgt := 5) hA si_131_72 (by decide) ?_
      refine sr_fg (ls1 := [.ref 10, .null, .null, .long ((31 * h) + ((-1 : Int32).toInt64)), .null, .int (nI (r + 1)), .null]) ⟨Or.inr rfl, Or.inl rfl, Or.inl rfl, Or.inr rfl, Or.inl rfl, Or.inr rfl, Or.inl rfl, trivial⟩ ?_
      exact ih (r + 1) _ (by omega) (by rw [h1_]; show _ = (sp_f5 (g.1 16) (fun r i => g.1 (12 + r) i)) r _; unfold sp_f5; rw [ee]; rfl)
    · refine sr_iload hA si_131_5 rfl ?_
      refine sr_aload_n hA si_131_7 rfl ?_
      refine sr_getR (r := 16) hA si_131_8 sf_131_14 (by decide) (by decide) rfl rfl rfl ?_
      refine sr_alen (v := nI 4) hA si_131_11 (by decide) (by decide) rfl ?_
      refine sr_icmp_geN (tgt := 75) hA si_131_12 (by decide) (by omega) (by omega) (fun c1 => absurd c1 (by omega)) (fun c1 => ?_)
      refine sr_ldc2 hA si_131_15 sc_131_30 ?_
      refine sr_lload_n hA si_131_18 rfl ?_
      refine sr_lmul hA si_131_19 ?_
      refine sr_aload_n hA si_131_20 rfl ?_
      refine sr_getR (r := 16) hA si_131_21 sf_131_14 (by decide) (by decide) rfl rfl rfl ?_
      refine sr_iload hA si_131_24 rfl ?_
      refine sr_ialdNv (v := nI z) (n := 4) hA si_131_26 (by decide) rfl rfl (by omega) (by decide) ee ?_
      refine sr_i2l hA si_131_27 ?_
      refine sr_ladd hA si_131_28 ?_
      refine sr_lstore_n (ls1 := [.ref 10, .null, .null, .long ((31 * h) + ((nI z).toInt64)), .null, .int (nI r), .null]) hA si_131_29 rfl (by rw [sq_l_131]; decide) rfl ?_
      refine sr_iconst (v := nI 0) hA si_131_30 (by decide) ?_
      refine sr_istore (ls1 := [.ref 10, .null, .null, .long ((31 * h) + ((nI z).toInt64)), .null, .int (nI r), .int (nI 0)]) hA si_131_31 (by rw [sq_l_131]; decide) rfl ?_
      refine xl_mxTI (h0 := ((31 * h) + ((nI z).toInt64))) (by omega) ee (by omega) ?_ hA z 0 _ (by omega) rfl
      refine sr_iincN (x := r) (y := 1) (ls1 := [.ref 10, .null, .null, .long (sp_fo (fun i h => 31 * h + (g.1 (12 + r) i).toInt64) z ((31 * h) + ((nI z).toInt64))), .null, .int (nI (r + 1)), .null]) hA si_131_69 rfl rfl (by rw [sq_l_131]; decide) rfl ?_
      refine sr_goto (tgt := 5) hA si_131_72 (by decide) ?_
      exact ih (r + 1) _ (by omega) (by rw [h1_]; show _ = (sp_f5 (g.1 16) (fun r i => g.1 (12 + r) i)) r _; unfold sp_f5; rw [ee, nI_clamp (by omega)])
set_option maxRecDepth 20000 in
theorem xc_mxT (X : sp_X) (g : sp_G) {h0 : Int64} (hz : ∀ r, r < 4 → sp_sz (g.1 16 r) 60) : sp_Ct X 1 131 [.ref 10, .long h0] g (sp_Fl (sp_fo (sp_f5 (g.1 16) (fun r i => g.1 (12 + r) i)) 4 h0) g) := by
  refine sp_walkN (n := 7) sq_p_131 sq_l_131 (Nat.le_of_ble_eq_true rfl) (fun ac hA => ?_)
  show sp_Ev X ac 131 0 [.ref 10, .long h0, .null, .null, .null, .null, .null] [] g
  refine sr_lload_n hA si_131_0 rfl ?_
  refine sr_lstore_n (ls1 := [.ref 10, .long h0, .null, .long h0, .null, .null, .null]) hA si_131_1 rfl (by rw [sq_l_131]; decide) rfl ?_
  refine sr_iconst (v := nI 0) hA si_131_2 (by decide) ?_
  refine sr_istore (ls1 := [.ref 10, .long h0, .null, .long h0, .null, .int (nI 0), .null]) hA si_131_3 (by rw [sq_l_131]; decide) rfl ?_
  refine sr_fg (ls1 := [.ref 10, .null, .null, .long h0, .null, .int (nI 0), .null]) ⟨Or.inr rfl, Or.inl rfl, Or.inl rfl, Or.inr rfl, Or.inl rfl, Or.inr rfl, Or.inl rfl, trivial⟩ ?_
  exact xl_mxT hz hA 4 0 h0 (by omega) rfl
