theorem sp_f5_c {S S' : Nat → Int32} {F F' : Nat → Nat → Int32} {r b : Nat} (h1 : S r = S' r) (h2 : sp_sz (S' r) b) (hb : b < 2 ^ 31) (h3 : ∀ i, i < b → F r i = F' r i) : sp_f5 S F r = sp_f5 S' F' r := by
  funext h
  unfold sp_f5
  rw [h1]
  refine sp_fo_c (fun i hi => ?_)
  funext h
  rcases h2 with e | ⟨z, zb, e⟩
  · rw [e] at hi
    exact absurd hi (by rw [show (-1 : Int32).toNatClampNeg = 0 by decide]; omega)
  · rw [e, nI_clamp (by omega)] at hi
    rw [h3 i (by omega)]
theorem xc_mxRR (X : sp_X) (g : sp_G) {h0 : Int64} (h : sp_Rel g) : sp_Ct X 1 131 [.ref 1, .long h0] g (sp_Fl (sp_fo (sp_f5 (g.1 66) (fun r i => g.1 67 (40 * r + i))) 6 h0) g) := by
  have := xc_mxR X g (h0 := h0) h.sx.1
  rw [sp_fo_c (f' := sp_f5 (g.1 66) (fun r i => g.1 67 (40 * r + i))) (fun r hr => sp_f5_c (h.2.1 r hr).1 (h.2.1 r hr).2.1 (by omega) (h.2.1 r hr).2.2)] at this
  exact this
theorem xc_mxTR (X : sp_X) (g : sp_G) {h0 : Int64} (h : sp_Rel g) : sp_Ct X 1 131 [.ref 10, .long h0] g (sp_Fl (sp_fo (sp_f5 (g.1 69) (fun r i => g.1 70 (60 * r + i))) 4 h0) g) := by
  have := xc_mxT X g (h0 := h0) h.sx.2.2.1
  rw [sp_fo_c (f' := sp_f5 (g.1 69) (fun r i => g.1 70 (60 * r + i))) (fun r hr => sp_f5_c (h.2.2.1 r hr).1 (h.2.2.1 r hr).2.1 (by omega) (h.2.2.1 r hr).2.2)] at this
  exact this
theorem sp_f4_1 {g : sp_G} {k : Nat} {h : Int64} (p : g.1 77 k = nI 1) : sp_f4 g k h = 31 * h + (g.1 78 k).toInt64 := by unfold sp_f4; rw [if_pos p]
theorem sp_f4_0 {g : sp_G} {k : Nat} {h : Int64} (p : g.1 77 k = nI 0) : sp_f4 g k h = 31 * h + -1 := by unfold sp_f4; rw [if_neg (by rw [p]; decide)]
theorem sp_m1L : (-1 : Int32).toInt64 = -1 := by decide
set_option maxRecDepth 20000 in
theorem xl_dgK {X : sp_X} {dd : Nat} {ac : sp_Ac} {g : sp_G} {n dm : Nat} (hR0 : sp_Rel g) (hK : sp_RK n g) (hS : sp_RS n dm g) {Rt : sp_Rt} {h0 : Int64} (kk : sp_Ev X ac 130 95 [.ref 0, .long (sp_fo (sp_f3 g) n h0), .null, .null, .null] [] g) (hdd : 4 ≤ dd) (hA : sp_Act X 130 dd Rt ac) : ∀ (m : Nat) (i : Nat) (h : Int64), i + m = n → h = sp_fo (sp_f3 g) i h0 → sp_Ev X ac 130 48 [.ref 0, .long h, .null, .int (nI i), .null] [] g := by
  intro m
  induction m with
  | zero =>
    intro i h h0_ h1_
    have hb := hK.1
    refine sr_iload_n hA si_130_48 rfl ?_
    refine sr_aload_n hA si_130_49 rfl ?_
    refine sr_getR (r := 18) hA si_130_50 sf_130_32 (by decide) (by decide) rfl rfl rfl ?_
    refine sr_getIv (v := nI n) hA si_130_53 sf_130_145 (by decide) (by decide) rfl (by decide) hK.2.1 ?_
    refine sr_icmp_geN (tgt := 95) hA si_130_56 (by decide) (by omega) (by omega) (fun c1 => ?_) (fun c1 => absurd c1 (by omega))
    have e9 : i = n := by omega
    refine sr_fg (ls1 := [.ref 0, .long h, .null, .null, .null]) ⟨Or.inr rfl, Or.inr rfl, Or.inl rfl, Or.inl rfl, Or.inl rfl, trivial⟩ ?_
    rw [h1_, e9]
    exact kk
  | succ m ih =>
    intro i h h0_ h1_
    have hb := hK.1
    refine sr_iload_n hA si_130_48 rfl ?_
    refine sr_aload_n hA si_130_49 rfl ?_
    refine sr_getR (r := 18) hA si_130_50 sf_130_32 (by decide) (by decide) rfl rfl rfl ?_
    refine sr_getIv (v := nI n) hA si_130_53 sf_130_145 (by decide) (by decide) rfl (by decide) hK.2.1 ?_
    refine sr_icmp_geN (tgt := 95) hA si_130_56 (by decide) (by omega) (by omega) (fun c1 => absurd c1 (by omega)) (fun c1 => ?_)
    refine sr_iconst (v := nI 0) hA si_130_59 (by decide) ?_
    refine sr_istore (ls1 := [.ref 0, .long h, .null, .int (nI i), .int (nI 0)]) hA si_130_60 (by rw [sq_l_130]; decide) rfl ?_
    refine sr_iload hA si_130_62 rfl ?_
    refine sr_iconst (v := nI 5) hA si_130_64 (by decide) ?_
    refine sr_icmp_geN (tgt := 89) hA si_130_65 (by decide) (by omega) (by omega) (fun c2 => absurd c2 (by omega)) (fun c2 => ?_)
    refine sr_ldc2 hA si_130_68 sc_130_304 ?_
    refine sr_lload_n hA si_130_71 rfl ?_
    refine sr_lmul hA si_130_72 ?_
    refine sr_aload_n hA si_130_73 rfl ?_
    refine sr_iload_n hA si_130_74 rfl ?_
    refine sr_iload hA si_130_75 rfl ?_
    refine sr_VFi (c := 0) (ci := 7) (as := [.int (nI i), .int (nI 0)]) (st := [.long (31 * h)]) hA si_130_77 sv_44 sk_130_151 (xc_ktR X g (w := 0) hK hS (by omega) (by omega)) (by omega) rfl (by decide) (by decide) rfl sq_c_44 rfl (Nat.le_of_ble_eq_true rfl) ?_
    refine sr_i2l hA si_130_80 ?_
    refine sr_ladd hA si_130_81 ?_
    refine sr_lstore_n (ls1 := [.ref 0, .long ((31 * h) + ((sp_kv g i 0).toInt64)), .null, .int (nI i), .int (nI 0)]) hA si_130_82 rfl (by rw [sq_l_130]; decide) rfl ?_
    refine sr_iincN (x := 0) (y := 1) (ls1 := [.ref 0, .long ((31 * h) + ((sp_kv g i 0).toInt64)), .null, .int (nI i), .int (nI 1)]) hA si_130_83 rfl rfl (by rw [sq_l_130]; decide) rfl ?_
    refine sr_goto (tgt := 62) hA si_130_86 (by decide) ?_
    refine sr_iload hA si_130_62 rfl ?_
    refine sr_iconst (v := nI 5) hA si_130_64 (by decide) ?_
    refine sr_icmp_geN (tgt := 89) hA si_130_65 (by decide) (by omega) (by omega) (fun c3 => absurd c3 (by omega)) (fun c3 => ?_)
    refine sr_ldc2 hA si_130_68 sc_130_304 ?_
    refine sr_lload_n hA si_130_71 rfl ?_
    refine sr_lmul hA si_130_72 ?_
    refine sr_aload_n hA si_130_73 rfl ?_
    refine sr_iload_n hA si_130_74 rfl ?_
    refine sr_iload hA si_130_75 rfl ?_
    refine sr_VFi (c := 0) (ci := 7) (as := [.int (nI i), .int (nI 1)]) (st := [.long (31 * ((31 * h) + ((sp_kv g i 0).toInt64)))]) hA si_130_77 sv_44 sk_130_151 (xc_ktR X g (w := 1) hK hS (by omega) (by omega)) (by omega) rfl (by decide) (by decide) rfl sq_c_44 rfl (Nat.le_of_ble_eq_true rfl) ?_
    refine sr_i2l hA si_130_80 ?_
    refine sr_ladd hA si_130_81 ?_
    refine sr_lstore_n (ls1 := [.ref 0, .long ((31 * ((31 * h) + ((sp_kv g i 0).toInt64))) + ((sp_kv g i 1).toInt64)), .null, .int (nI i), .int (nI 1)]) hA si_130_82 rfl (by rw [sq_l_130]; decide) rfl ?_
    refine sr_iincN (x := 1) (y := 1) (ls1 := [.ref 0, .long ((31 * ((31 * h) + ((sp_kv g i 0).toInt64))) + ((sp_kv g i 1).toInt64)), .null, .int (nI i), .int (nI 2)]) hA si_130_83 rfl rfl (by rw [sq_l_130]; decide) rfl ?_
    refine sr_goto (tgt := 62) hA si_130_86 (by decide) ?_
    refine sr_iload hA si_130_62 rfl ?_
    refine sr_iconst (v := nI 5) hA si_130_64 (by decide) ?_
    refine sr_icmp_geN (tgt := 89) hA si_130_65 (by decide) (by omega) (by omega) (fun c4 => absurd c4 (by omega)) (fun c4 => ?_)
    refine sr_ldc2 hA si_130_68 sc_130_304 ?_
    refine sr_lload_n hA si_130_71 rfl ?_
    refine sr_lmul hA si_130_72 ?_
    refine sr_aload_n hA si_130_73 rfl ?_
    refine sr_iload_n hA si_130_74 rfl ?_
    refine sr_iload hA si_130_75 rfl ?_
    refine sr_VFi (c := 0) (ci := 7) (as := [.int (nI i), .int (nI 2)]) (st := [.long (31 * ((31 * ((31 * h) + ((sp_kv g i 0).toInt64))) + ((sp_kv g i 1).toInt64)))]) hA si_130_77 sv_44 sk_130_151 (xc_ktR X g (w := 2) hK hS (by omega) (by omega)) (by omega) rfl (by decide) (by decide) rfl sq_c_44 rfl (Nat.le_of_ble_eq_true rfl) ?_
    refine sr_i2l hA si_130_80 ?_
    refine sr_ladd hA si_130_81 ?_
    refine sr_lstore_n (ls1 := [.ref 0, .long ((31 * ((31 * ((31 * h) + ((sp_kv g i 0).toInt64))) + ((sp_kv g i 1).toInt64))) + ((sp_kv g i 2).toInt64)), .null, .int (nI i), .int (nI 2)]) hA si_130_82 rfl (by rw [sq_l_130]; decide) rfl ?_
    refine sr_iincN (x := 2) (y := 1) (ls1 := [.ref 0, .long ((31 * ((31 * ((31 * h) + ((sp_kv g i 0).toInt64))) + ((sp_kv g i 1).toInt64))) + ((sp_kv g i 2).toInt64)), .null, .int (nI i), .int (nI 3)]) hA si_130_83 rfl rfl (by rw [sq_l_130]; decide) rfl ?_
    refine sr_goto (tgt := 62) hA si_130_86 (by decide) ?_
    refine sr_iload hA si_130_62 rfl ?_
    refine sr_iconst (v := nI 5) hA si_130_64 (by decide) ?_
    refine sr_icmp_geN (tgt := 89) hA si_130_65 (by decide) (by omega) (by omega) (fun c5 => absurd c5 (by omega)) (fun c5 => ?_)
    refine sr_ldc2 hA si_130_68 sc_130_304 ?_
    refine sr_lload_n hA si_130_71 rfl ?_
    refine sr_lmul hA si_130_72 ?_
    refine sr_aload_n hA si_130_73 rfl ?_
    refine sr_iload_n hA si_130_74 rfl ?_
    refine sr_iload hA si_130_75 rfl ?_
    refine sr_VFi (c := 0) (ci := 7) (as := [.int (nI i), .int (nI 3)]) (st := [.long (31 * ((31 * ((31 * ((31 * h) + ((sp_kv g i 0).toInt64))) + ((sp_kv g i 1).toInt64))) + ((sp_kv g i 2).toInt64)))]) hA si_130_77 sv_44 sk_130_151 (xc_ktR X g (w := 3) hK hS (by omega) (by omega)) (by omega) rfl (by decide) (by decide) rfl sq_c_44 rfl (Nat.le_of_ble_eq_true rfl) ?_
    refine sr_i2l hA si_130_80 ?_
    refine sr_ladd hA si_130_81 ?_
    refine sr_lstore_n (ls1 := [.ref 0, .long ((31 * ((31 * ((31 * ((31 * h) + ((sp_kv g i 0).toInt64))) + ((sp_kv g i 1).toInt64))) + ((sp_kv g i 2).toInt64))) + ((sp_kv g i 3).toInt64)), .null, .int (nI i), .int (nI 3)]) hA si_130_82 rfl (by rw [sq_l_130]; decide) rfl ?_
    refine sr_iincN (x := 3) (y := 1) (ls1 := [.ref 0, .long ((31 * ((31 * ((31 * ((31 * h) + ((sp_kv g i 0).toInt64))) + ((sp_kv g i 1).toInt64))) + ((sp_kv g i 2).toInt64))) + ((sp_kv g i 3).toInt64)), .null, .int (nI i), .int (nI 4)]) hA si_130_83 rfl rfl (by rw [sq_l_130]; decide) rfl ?_
    refine sr_goto (tgt := 62) hA si_130_86 (by decide) ?_
    refine sr_iload hA si_130_62 rfl ?_
    refine sr_iconst (v := nI 5) hA si_130_64 (by decide) ?_
    refine sr_icmp_geN (tgt := 89) hA si_130_65 (by decide) (by omega) (by omega) (fun c6 => absurd c6 (by omega)) (fun c6 => ?_)
    refine sr_ldc2 hA si_130_68 sc_130_304 ?_
    refine sr_lload_n hA si_130_71 rfl ?_
    refine sr_lmul hA si_130_72 ?_
    refine sr_aload_n hA si_130_73 rfl ?_
    refine sr_iload_n hA si_130_74 rfl ?_
    refine sr_iload hA si_130_75 rfl ?_
    refine sr_VFi (c := 0) (ci := 7) (as := [.int (nI i), .int (nI 4)]) (st := [.long (31 * ((31 * ((31 * ((31 * ((31 * h) + ((sp_kv g i 0).toInt64))) + ((sp_kv g i 1).toInt64))) + ((sp_kv g i 2).toInt64))) + ((sp_kv g i 3).toInt64)))]) hA si_130_77 sv_44 sk_130_151 (xc_ktR X g (w := 4) hK hS (by omega) (by omega)) (by omega) rfl (by decide) (by decide) rfl sq_c_44 rfl (Nat.le_of_ble_eq_true rfl) ?_
    refine sr_i2l hA si_130_80 ?_
    refine sr_ladd hA si_130_81 ?_
    refine sr_lstore_n (ls1 := [.ref 0, .long ((31 * ((31 * ((31 * ((31 * ((31 * h) + ((sp_kv g i 0).toInt64))) + ((sp_kv g i 1).toInt64))) + ((sp_kv g i 2).toInt64))) + ((sp_kv g i 3).toInt64))) + ((sp_kv g i 4).toInt64)), .null, .int (nI i), .int (nI 4)]) hA si_130_82 rfl (by rw [sq_l_130]; decide) rfl ?_
    refine sr_iincN (x := 4) (y := 1) (ls1 := [.ref 0, .long ((31 * ((31 * ((31 * ((31 * ((31 * h) + ((sp_kv g i 0).toInt64))) + ((sp_kv g i 1).toInt64))) + ((sp_kv g i 2).toInt64))) + ((sp_kv g i 3).toInt64))) + ((sp_kv g i 4).toInt64)), .null, .int (nI i), .int (nI 5)]) hA si_130_83 rfl rfl (by rw [sq_l_130]; decide) rfl ?_
    refine sr_goto (tgt := 62) hA si_130_86 (by decide) ?_
    refine sr_iload hA si_130_62 rfl ?_
    refine sr_iconst (v := nI 5) hA si_130_64 (by decide) ?_
    refine sr_icmp_geN (tgt := 89) hA si_130_65 (by decide) (by omega) (by omega) (fun c7 => ?_) (fun c7 => absurd c7 (by omega))
    refine sr_iincN (x := i) (y := 1) (ls1 := [.ref 0, .long ((31 * ((31 * ((31 * ((31 * ((31 * h) + ((sp_kv g i 0).toInt64))) + ((sp_kv g i 1).toInt64))) + ((sp_kv g i 2).toInt64))) + ((sp_kv g i 3).toInt64))) + ((sp_kv g i 4).toInt64)), .null, .int (nI (i + 1)), .int (nI 5)]) hA si_130_89 rfl rfl (by rw [sq_l_130]; decide) rfl ?_
    refine sr_goto (tgt := 48) hA si_130_92 (by decide) ?_
    refine sr_fg (ls1 := [.ref 0, .long ((31 * ((31 * ((31 * ((31 * ((31 * h) + ((sp_kv g i 0).toInt64))) + ((sp_kv g i 1).toInt64))) + ((sp_kv g i 2).toInt64))) + ((sp_kv g i 3).toInt64))) + ((sp_kv g i 4).toInt64)), .null, .int (nI (i + 1)), .null]) ⟨Or.inr rfl, Or.inr rfl, Or.inl rfl, Or.inr rfl, Or.inl rfl, trivial⟩ ?_
    exact ih (i + 1) _ (by omega) (by rw [h1_]; rfl)
set_option maxRecDepth 20000 in
theorem xl_dgP {X : sp_X} {dd : Nat} {ac : sp_Ac} {g : sp_G} {n : Nat} (hP : sp_RP n g) {Rt : sp_Rt} {h0 : Int64} (kk : sp_Ev X ac 130 141 [.ref 0, .long (sp_fo (sp_f4 g) 3 h0), .null, .null, .null] [] g) (hA : sp_Act X 130 dd Rt ac) : ∀ (m : Nat) (i : Nat) (h : Int64), i + m = 3 → h = sp_fo (sp_f4 g) i h0 → sp_Ev X ac 130 97 [.ref 0, .long h, .null, .int (nI i), .null] [] g := by
  intro m
  induction m with
  | zero =>
    intro i h h0_ h1_
    refine sr_iload_n hA si_130_97 rfl ?_
    refine sr_iconst (v := nI 3) hA si_130_98 (by decide) ?_
    refine sr_icmp_geN (tgt := 141) hA si_130_99 (by decide) (by omega) (by omega) (fun c1 => ?_) (fun c1 => absurd c1 (by omega))
    have e9 : i = 3 := by omega
    refine sr_fg (ls1 := [.ref 0, .long h, .null, .null, .null]) ⟨Or.inr rfl, Or.inr rfl, Or.inl rfl, Or.inl rfl, Or.inl rfl, trivial⟩ ?_
    rw [h1_, e9]
    exact kk
  | succ m ih =>
    intro i h h0_ h1_
    obtain ⟨p1, p2⟩ := hP i (by omega)
    rcases p2 with p2 | ⟨p2, q, mb, m1, m2, -⟩
    · refine sr_iload_n hA si_130_97 rfl ?_
      refine sr_iconst (v := nI 3) hA si_130_98 (by decide) ?_
      refine sr_icmp_geN (tgt := 141) hA si_130_99 (by decide) (by omega) (by omega) (fun c1 => absurd c1 (by omega)) (fun c1 => ?_)
      refine sr_ldc2 hA si_130_102 sc_130_304 ?_
      refine sr_lload_n hA si_130_105 rfl ?_
      refine sr_lmul hA si_130_106 ?_
      refine sr_aload_n hA si_130_107 rfl ?_
      refine sr_getR (r := 49) hA si_130_108 sf_130_53 (by decide) (by decide) rfl rfl rfl ?_
      refine sr_iload_n hA si_130_111 rfl ?_
      refine sr_aaldN (r := (50 + i)) (n := 3) hA si_130_112 (by decide) (by decide) rfl (by omega) (by decide) (sp_kpr (by omega)) ?_
      refine sr_getIv (v := nI 0) hA si_130_113 sf_130_141 (by decide) (sp_kpK (by omega)) (sp_kpk (by omega)) (by decide) (p1.trans p2) ?_
      refine sr_if_eqN (tgt := 131) hA si_130_116 (by decide) (by omega) (fun c2 => ?_) (fun c2 => absurd c2 (by omega))
      refine sr_iconst (v := (-1)) hA si_130_131 (by decide) ?_
      refine sr_i2l hA si_130_132 ?_
      refine sr_ladd hA si_130_133 ?_
      refine sr_lstore_n (ls1 := [.ref 0, .long ((31 * h) + ((-1 : Int32).toInt64)), .null, .int (nI i), .null]) hA si_130_134 rfl (by rw [sq_l_130]; decide) rfl ?_
      refine sr_iincN (x := i) (y := 1) (ls1 := [.ref 0, .long ((31 * h) + ((-1 : Int32).toInt64)), .null, .int (nI (i + 1)), .null]) hA si_130_135 rfl rfl (by rw [sq_l_130]; decide) rfl ?_
      refine sr_goto (tgt := 97) hA si_130_138 (by decide) ?_
      exact ih (i + 1) _ (by omega) (by rw [h1_]; show _ = sp_f4 g i _; rw [sp_f4_0 p2, sp_m1L])
    · refine sr_iload_n hA si_130_97 rfl ?_
      refine sr_iconst (v := nI 3) hA si_130_98 (by decide) ?_
      refine sr_icmp_geN (tgt := 141) hA si_130_99 (by decide) (by omega) (by omega) (fun c1 => absurd c1 (by omega)) (fun c1 => ?_)
      refine sr_ldc2 hA si_130_102 sc_130_304 ?_
      refine sr_lload_n hA si_130_105 rfl ?_
      refine sr_lmul hA si_130_106 ?_
      refine sr_aload_n hA si_130_107 rfl ?_
      refine sr_getR (r := 49) hA si_130_108 sf_130_53 (by decide) (by decide) rfl rfl rfl ?_
      refine sr_iload_n hA si_130_111 rfl ?_
      refine sr_aaldN (r := (50 + i)) (n := 3) hA si_130_112 (by decide) (by decide) rfl (by omega) (by decide) (sp_kpr (by omega)) ?_
      refine sr_getIv (v := nI 1) hA si_130_113 sf_130_141 (by decide) (sp_kpK (by omega)) (sp_kpk (by omega)) (by decide) (p1.trans p2) ?_
      refine sr_if_eqN (tgt := 131) hA si_130_116 (by decide) (by omega) (fun c2 => absurd c2 (by omega)) (fun c2 => ?_)
      refine sr_aload_n hA si_130_119 rfl ?_
      refine sr_getR (r := 49) hA si_130_120 sf_130_53 (by decide) (by decide) rfl rfl rfl ?_
      refine sr_iload_n hA si_130_123 rfl ?_
      refine sr_aaldN (r := (50 + i)) (n := 3) hA si_130_124 (by decide) (by decide) rfl (by omega) (by decide) (sp_kpr (by omega)) ?_
      refine sr_getIv (v := nI q) hA si_130_125 sf_130_214 (by decide) (sp_kpK (by omega)) (sp_kpk (by omega)) (by decide) m1 ?_
      refine sr_goto (tgt := 132) hA si_130_128 (by decide) ?_
      refine sr_i2l hA si_130_132 ?_
      refine sr_ladd hA si_130_133 ?_
      refine sr_lstore_n (ls1 := [.ref 0, .long ((31 * h) + ((nI q).toInt64)), .null, .int (nI i), .null]) hA si_130_134 rfl (by rw [sq_l_130]; decide) rfl ?_
      refine sr_iincN (x := i) (y := 1) (ls1 := [.ref 0, .long ((31 * h) + ((nI q).toInt64)), .null, .int (nI (i + 1)), .null]) hA si_130_135 rfl rfl (by rw [sq_l_130]; decide) rfl ?_
      refine sr_goto (tgt := 97) hA si_130_138 (by decide) ?_
      exact ih (i + 1) _ (by omega) (by rw [h1_]; show _ = sp_f4 g i _; rw [sp_f4_1 p2, m2])
set_option maxRecDepth 20000 in
theorem xl_dgC {X : sp_X} {dd : Nat} {ac : sp_Ac} {g : sp_G} {n dm : Nat} (hR0 : sp_Rel g) (hK : sp_RK n g) (hS : sp_RS n dm g) {Rt : sp_Rt} (kk : sp_Ev X ac 130 31 [.ref 0, .long (sp_d1 g n), .null, .null, .null] [] g) (hdd : 4 ≤ dd) (hA : sp_Act X 130 dd Rt ac) : ∀ (m : Nat) (w : Nat) (h : Int64), w + m = 9 → h = sp_fo (fun w h => 31 * h + (sp_cv g n w).toInt64) w 17 → sp_Ev X ac 130 6 [.ref 0, .long h, .null, .int (nI w), .null] [] g := by
  intro m
  induction m with
  | zero =>
    intro w h h0_ h1_
    refine sr_iload_n hA si_130_6 rfl ?_
    refine sr_bipush (v := nI 9) hA si_130_7 (by decide) ?_
    refine sr_icmp_geN (tgt := 31) hA si_130_9 (by decide) (by omega) (by omega) (fun c1 => ?_) (fun c1 => absurd c1 (by omega))
    have e9 : w = 9 := by omega
    refine sr_fg (ls1 := [.ref 0, .long h, .null, .null, .null]) ⟨Or.inr rfl, Or.inr rfl, Or.inl rfl, Or.inl rfl, Or.inl rfl, trivial⟩ ?_
    rw [h1_, e9]
    exact kk
  | succ m ih =>
    intro w h h0_ h1_
    refine sr_iload_n hA si_130_6 rfl ?_
    refine sr_bipush (v := nI 9) hA si_130_7 (by decide) ?_
    refine sr_icmp_geN (tgt := 31) hA si_130_9 (by decide) (by omega) (by omega) (fun c1 => absurd c1 (by omega)) (fun c1 => ?_)
    refine sr_ldc2 hA si_130_12 sc_130_304 ?_
    refine sr_lload_n hA si_130_15 rfl ?_
    refine sr_lmul hA si_130_16 ?_
    refine sr_aload_n hA si_130_17 rfl ?_
    refine sr_iload_n hA si_130_18 rfl ?_
    refine sr_VFi (c := 0) (ci := 7) (as := [.int (nI w)]) (st := [.long (31 * h)]) hA si_130_19 sv_124 sk_130_296 (xc_countR X g (w := w) hR0 hK hS (by omega)) (by omega) rfl (by decide) (by decide) rfl sq_c_124 rfl (Nat.le_of_ble_eq_true rfl) ?_
    refine sr_i2l hA si_130_22 ?_
    refine sr_ladd hA si_130_23 ?_
    refine sr_lstore_n (ls1 := [.ref 0, .long ((31 * h) + ((sp_cv g n w).toInt64)), .null, .int (nI w), .null]) hA si_130_24 rfl (by rw [sq_l_130]; decide) rfl ?_
    refine sr_iincN (x := w) (y := 1) (ls1 := [.ref 0, .long ((31 * h) + ((sp_cv g n w).toInt64)), .null, .int (nI (w + 1)), .null]) hA si_130_25 rfl rfl (by rw [sq_l_130]; decide) rfl ?_
    refine sr_goto (tgt := 6) hA si_130_28 (by decide) ?_
    exact ih (w + 1) _ (by omega) (by rw [h1_]; rfl)
theorem sp_EvL {X : sp_X} {ac : sp_Ac} {N pc : Nat} {l0 l2 l3 l4 : Value} {st : List Value} {g : sp_G} {h1 h2 : Int64} (e : h1 = h2) (k : sp_Ev X ac N pc [l0, .long h2, l2, l3, l4] st g) : sp_Ev X ac N pc [l0, .long h1, l2, l3, l4] st g := by rw [e]; exact k
set_option maxRecDepth 20000 in
theorem xc_digest (X : sp_X) (g : sp_G) {n dm : Nat} (hR0 : sp_Rel g) (hK : sp_RK n g) (hS : sp_RS n dm g) (hP : sp_RP n g) : sp_Ct X 6 130 [.ref 0] g (sp_Fl (sp_dg g n) g) := by
  have hb := hK.1
  have hsp : g.1 47 2 = g.1 64 10 := by obtain ⟨s, -, s1, s2⟩ := hS.2.2.2.1; rw [s1, s2]
  refine sp_walkN (n := 5) sq_p_130 sq_l_130 (Nat.le_of_ble_eq_true rfl) (fun ac hA => ?_)
  show sp_Ev X ac 130 0 [.ref 0, .null, .null, .null, .null] [] g
  refine sr_ldc2 hA si_130_0 sc_130_302 ?_
  refine sr_lstore_n (ls1 := [.ref 0, .long 17, .null, .null, .null]) hA si_130_3 rfl (by rw [sq_l_130]; decide) rfl ?_
  refine sr_iconst (v := nI 0) hA si_130_4 (by decide) ?_
  refine sr_istore_n (ls1 := [.ref 0, .long 17, .null, .int (nI 0), .null]) hA si_130_5 rfl (by rw [sq_l_130]; decide) rfl ?_
  refine xl_dgC hR0 hK hS ?_ (by omega) hA 9 0 _ rfl rfl
  refine sr_ldc2 hA si_130_31 sc_130_304 ?_
  refine sr_lload_n hA si_130_34 rfl ?_
  refine sr_lmul hA si_130_35 ?_
  refine sr_aload_n hA si_130_36 rfl ?_
  refine sr_getR (r := 47) hA si_130_37 sf_130_49 (by decide) (by decide) rfl rfl rfl ?_
  refine sr_getIv (v := g.1 64 10) hA si_130_40 sf_130_184 (by decide) (by decide) rfl (by decide) hsp ?_
  refine sr_i2l hA si_130_43 ?_
  refine sr_ladd hA si_130_44 ?_
  refine sr_lstore_n (ls1 := [.ref 0, .long ((31 * (sp_d1 g n)) + ((g.1 64 10).toInt64)), .null, .null, .null]) hA si_130_45 rfl (by rw [sq_l_130]; decide) rfl ?_
  refine sr_iconst (v := nI 0) hA si_130_46 (by decide) ?_
  refine sr_istore_n (ls1 := [.ref 0, .long ((31 * (sp_d1 g n)) + ((g.1 64 10).toInt64)), .null, .int (nI 0), .null]) hA si_130_47 rfl (by rw [sq_l_130]; decide) rfl ?_
  refine sr_fg (ls1 := [.ref 0, .long ((31 * (sp_d1 g n)) + ((g.1 64 10).toInt64)), .null, .int (nI 0), .null]) ⟨Or.inr rfl, Or.inr rfl, Or.inl rfl, Or.inr rfl, Or.inl rfl, trivial⟩ ?_
  refine xl_dgK hR0 hK hS (h0 := ((31 * (sp_d1 g n)) + ((g.1 64 10).toInt64))) ?_ (by omega) hA n 0 _ (by omega) rfl
  refine sr_iconst (v := nI 0) hA si_130_95 (by decide) ?_
  refine sr_istore_n (ls1 := [.ref 0, .long (sp_fo (sp_f3 g) n ((31 * (sp_d1 g n)) + ((g.1 64 10).toInt64))), .null, .int (nI 0), .null]) hA si_130_96 rfl (by rw [sq_l_130]; decide) rfl ?_
  refine xl_dgP hP (h0 := (sp_fo (sp_f3 g) n ((31 * (sp_d1 g n)) + ((g.1 64 10).toInt64)))) ?_ hA 3 0 _ rfl rfl
  refine sr_aload_n hA si_130_141 rfl ?_
  refine sr_getR (r := 10) hA si_130_142 sf_130_18 (by decide) (by decide) rfl rfl rfl ?_
  refine sr_aload_n hA si_130_145 rfl ?_
  refine sr_getR (r := 1) hA si_130_146 sf_130_14 (by decide) (by decide) rfl rfl rfl ?_
  refine sr_lload_n hA si_130_149 rfl ?_
  refine sr_VFl (c := 1) (ci := 5) (as := [.long (sp_fo (sp_f4 g) 3 (sp_fo (sp_f3 g) n ((31 * (sp_d1 g n)) + ((g.1 64 10).toInt64))))]) (st := [.ref 10]) hA si_130_150 sv_131 sk_130_306 (xc_mxRR X g hR0) (by omega) rfl (by decide) (by decide) rfl sq_c_131 rfl (Nat.le_of_ble_eq_true rfl) ?_
  refine sr_VFl (c := 10) (ci := 5) (as := [.long (sp_fo (sp_f5 (g.1 66) (fun r i => g.1 67 (40 * r + i))) 6 (sp_fo (sp_f4 g) 3 (sp_fo (sp_f3 g) n ((31 * (sp_d1 g n)) + ((g.1 64 10).toInt64)))))]) (st := []) hA si_130_153 sv_131 sk_130_306 (xc_mxTR X g hR0) (by omega) rfl (by decide) (by decide) rfl sq_c_131 rfl (Nat.le_of_ble_eq_true rfl) ?_
  exact sr_lretF hA si_130_156 sq_r_130 rfl rfl
set_option maxRecDepth 20000 in
theorem mc_mix (X : sp_X) (g : sp_G) (v : Int64) : sp_Ct X 0 225 [.ref 64, .long v] g (sp_Fv (sp_wL g 64 35 (31 * g.2 64 35 + v))) := by
  refine sp_walkN (n := 3) sq_p_225 sq_l_225 (Nat.le_of_ble_eq_true rfl) (fun a hA => ?_)
  show sp_Ev X a 225 0 [.ref 64, .long v, .null] [] g
  refine sr_aload_n hA si_225_0 rfl ?_
  refine sr_ldc2 hA si_225_1 sc_225_289 ?_
  refine sr_aload_n hA si_225_4 rfl ?_
  refine sr_getLv (v := g.2 64 35) hA si_225_5 sf_225_291 (by decide) (by decide) rfl rfl rfl ?_
  refine sr_lmul hA si_225_8 ?_
  refine sr_lload_n hA si_225_9 rfl ?_
  refine sr_ladd hA si_225_10 ?_
  refine sr_putL hA si_225_11 sf_225_291 rfl rfl (by decide) (by decide) rfl rfl ?_
  exact sr_vretF hA si_225_14 sq_r_225 rfl
theorem mc_mixV (X : sp_X) (g : sp_G) (h v : Int64) : sp_Ct X 0 225 [.ref 64, .long v] (sp_wL g 64 35 h) (sp_Fv (sp_wL g 64 35 (31 * h + v))) := by
  have := mc_mix X (sp_wL g 64 35 h) v
  rw [sp_wL_2, sp_rdL] at this
  exact this
theorem sp_cv_L {g : sp_G} {n w : Nat} {h : Int64} : sp_cv (sp_wL g 64 35 h) n w = sp_cv g n w := by unfold sp_cv; rfl
theorem mc_countV (X : sp_X) (g : sp_G) (h : Int64) {n w : Nat} (hn : g.1 64 11 = nI n) (hb : n ≤ 6) (hK : sp_kk g 71 n) (hz6 : ∀ r, r < 6 → sp_sz (g.1 66 r) 40) (hz7 : ∀ r, r < 4 → sp_sz (g.1 69 r) 60) (hz8 : ∀ k, k < 3 → g.1 77 k = nI 0 ∨ g.1 77 k = nI 1) (hw : w < 9) : sp_Ct X 1 223 [.ref 64, .int (nI w)] (sp_wL g 64 35 h) (sp_Fi (sp_cv g n w) (sp_wL g 64 35 h)) := by
  have := mc_countR X (sp_wL g 64 35 h) (n := n) hn hb hK hz6 hz7 hz8 hw
  rw [sp_cv_L] at this
  exact this
set_option maxRecDepth 20000 in
theorem mc_byte1 (X : sp_X) (g : sp_G) {t i z : Nat} (ht : t < 4) (hz : g.1 69 t = nI z) (hzb : z ≤ 60) (hi : i < z) : sp_Ct X 0 154 [.ref 64, .int (nI t), .int (nI i)] g (sp_Fi (g.1 70 (60 * t + i)) g) := by
  refine sp_walkN (n := 3) sq_p_154 sq_l_154 (Nat.le_of_ble_eq_true rfl) (fun a hA => ?_)
  show sp_Ev X a 154 0 [.ref 64, .int (nI t), .int (nI i)] [] g
  refine sr_iload_n hA si_154_0 rfl ?_
  refine sr_aload_n hA si_154_1 rfl ?_
  refine sr_getR (r := 69) hA si_154_2 sf_154_26 (by decide) (by decide) rfl rfl rfl ?_
  refine sr_iload_n hA si_154_5 rfl ?_
  refine sr_ialdNv (v := nI z) (n := 4) hA si_154_6 (by decide) rfl rfl (by omega) (by decide) hz ?_
  refine sr_icmp_geN (tgt := 24) hA si_154_7 (by decide) (by omega) (by omega) (fun c1 => absurd c1 (by omega)) (fun c1 => ?_)
  refine sr_aload_n hA si_154_10 rfl ?_
  refine sr_getR (r := 70) hA si_154_11 sf_154_29 (by decide) (by decide) rfl rfl rfl ?_
  refine sr_bipush (v := nI 60) hA si_154_14 (by decide) ?_
  refine sr_iload_n hA si_154_16 rfl ?_
  refine sr_imulN hA si_154_17 ?_
  refine sr_iload_n hA si_154_18 rfl ?_
  refine sr_iaddN hA si_154_19 ?_
  refine sr_baldNv (v := g.1 70 ((60 * t) + i)) (n := 240) hA si_154_20 (by decide) rfl rfl (by omega) (by decide) rfl ?_
  refine sr_goto (tgt := 25) hA si_154_21 (by decide) ?_
  exact sr_iretF hA si_154_25 sq_r_154 rfl rfl
set_option maxRecDepth 20000 in
theorem mc_byte0 (X : sp_X) (g : sp_G) {t i z : Nat} (ht : t < 4) (hz : g.1 69 t = nI z) (hzb : z ≤ 60) (hi : z ≤ i) (hib : i < 2 ^ 31) : sp_Ct X 0 154 [.ref 64, .int (nI t), .int (nI i)] g (sp_Fi (nI 0) g) := by
  refine sp_walkN (n := 3) sq_p_154 sq_l_154 (Nat.le_of_ble_eq_true rfl) (fun a hA => ?_)
  show sp_Ev X a 154 0 [.ref 64, .int (nI t), .int (nI i)] [] g
  refine sr_iload_n hA si_154_0 rfl ?_
  refine sr_aload_n hA si_154_1 rfl ?_
  refine sr_getR (r := 69) hA si_154_2 sf_154_26 (by decide) (by decide) rfl rfl rfl ?_
  refine sr_iload_n hA si_154_5 rfl ?_
  refine sr_ialdNv (v := nI z) (n := 4) hA si_154_6 (by decide) rfl rfl (by omega) (by decide) hz ?_
  refine sr_icmp_geN (tgt := 24) hA si_154_7 (by decide) (by omega) (by omega) (fun c1 => ?_) (fun c1 => absurd c1 (by omega))
  refine sr_iconst (v := nI 0) hA si_154_24 (by decide) ?_
  exact sr_iretF hA si_154_25 sq_r_154 rfl rfl
set_option maxRecDepth 20000 in
theorem ml_dgK {X : sp_X} {dd : Nat} {ac : sp_Ac} {g : sp_G} {n : Nat} (hn : g.1 64 11 = nI n) (hb : n ≤ 6) (hK : sp_kk g 71 n) {Rt : sp_Rt} {h0 : Int64} (kk : sp_Ev X ac 226 49 [.ref 64, .null, .null] [] (sp_wL g 64 35 (sp_fo (sp_f3 g) n h0))) (hdd : 3 ≤ dd) (hA : sp_Act X 226 dd Rt ac) : ∀ (m : Nat) (i : Nat) (h : Int64), i + m = n → h = sp_fo (sp_f3 g) i h0 → sp_Ev X ac 226 11 [.ref 64, .int (nI i), .null] [] (sp_wL g 64 35 h) := by
  intro m
  induction m with
  | zero =>
    intro i h h0_ h1_
    refine sr_iload_n hA si_226_11 rfl ?_
    refine sr_aload_n hA si_226_12 rfl ?_
    refine sr_getIv (v := nI n) hA si_226_13 sf_226_142 (by decide) (by decide) rfl (by decide) hn ?_
    refine sr_icmp_geN (tgt := 49) hA si_226_16 (by decide) (by omega) (by omega) (fun c1 => ?_) (fun c1 => absurd c1 (by omega))
    have e9 : i = n := by omega
    refine sr_fg (ls1 := [.ref 64, .null, .null]) ⟨Or.inr rfl, Or.inl rfl, Or.inl rfl, trivial⟩ ?_
    rw [h1_, e9]
    exact kk
  | succ m ih =>
    intro i h h0_ h1_
    refine sr_iload_n hA si_226_11 rfl ?_
    refine sr_aload_n hA si_226_12 rfl ?_
    refine sr_getIv (v := nI n) hA si_226_13 sf_226_142 (by decide) (by decide) rfl (by decide) hn ?_
    refine sr_icmp_geN (tgt := 49) hA si_226_16 (by decide) (by omega) (by omega) (fun c1 => absurd c1 (by omega)) (fun c1 => ?_)
    refine sr_iconst (v := nI 0) hA si_226_19 (by decide) ?_
    refine sr_istore_n (ls1 := [.ref 64, .int (nI i), .int (nI 0)]) hA si_226_20 rfl (by rw [sq_l_226]; decide) rfl ?_
    refine sr_iload_n hA si_226_21 rfl ?_
    refine sr_iconst (v := nI 5) hA si_226_22 (by decide) ?_
    refine sr_icmp_geN (tgt := 43) hA si_226_23 (by decide) (by omega) (by omega) (fun c2 => absurd c2 (by omega)) (fun c2 => ?_)
    refine sr_aload_n hA si_226_26 rfl ?_
    refine sr_aload_n hA si_226_27 rfl ?_
    refine sr_iload_n hA si_226_28 rfl ?_
    refine sr_iload_n hA si_226_29 rfl ?_
    refine sr_VFi (c := 64) (ci := 8) (as := [.int (nI i), .int (nI 0)]) (st := [.ref 64]) hA si_226_30 sv_163 sk_226_177 (mc_ktR X (sp_wL g 64 35 h) (w := 0) hb hK (by omega) (by omega) : sp_Ct X 2 163 [.ref 64, .int (nI i), .int (nI 0)] (sp_wL g 64 35 h) (sp_Fi (sp_kv g i 0) (sp_wL g 64 35 h))) (by omega) rfl (by decide) (by decide) rfl sq_c_163 rfl (Nat.le_of_ble_eq_true rfl) ?_
    refine sr_i2l hA si_226_33 ?_
    refine sr_VFv (c := 64) (ci := 8) (as := [.long ((sp_kv g i 0).toInt64)]) (st := []) hA si_226_34 sv_225 sk_226_294 (mc_mixV X g h ((sp_kv g i 0).toInt64)) (by omega) rfl (by decide) (by decide) rfl sq_c_225 rfl (Nat.le_of_ble_eq_true rfl) ?_
    refine sr_iincN (x := 0) (y := 1) (ls1 := [.ref 64, .int (nI i), .int (nI 1)]) hA si_226_37 rfl rfl (by rw [sq_l_226]; decide) rfl ?_
    refine sr_goto (tgt := 21) hA si_226_40 (by decide) ?_
    refine sr_iload_n hA si_226_21 rfl ?_
    refine sr_iconst (v := nI 5) hA si_226_22 (by decide) ?_
    refine sr_icmp_geN (tgt := 43) hA si_226_23 (by decide) (by omega) (by omega) (fun c3 => absurd c3 (by omega)) (fun c3 => ?_)
    refine sr_aload_n hA si_226_26 rfl ?_
    refine sr_aload_n hA si_226_27 rfl ?_
    refine sr_iload_n hA si_226_28 rfl ?_
    refine sr_iload_n hA si_226_29 rfl ?_
    refine sr_VFi (c := 64) (ci := 8) (as := [.int (nI i), .int (nI 1)]) (st := [.ref 64]) hA si_226_30 sv_163 sk_226_177 (mc_ktR X (sp_wL g 64 35 (31 * h + ((sp_kv g i 0).toInt64))) (w := 1) hb hK (by omega) (by omega) : sp_Ct X 2 163 [.ref 64, .int (nI i), .int (nI 1)] (sp_wL g 64 35 (31 * h + ((sp_kv g i 0).toInt64))) (sp_Fi (sp_kv g i 1) (sp_wL g 64 35 (31 * h + ((sp_kv g i 0).toInt64))))) (by omega) rfl (by decide) (by decide) rfl sq_c_163 rfl (Nat.le_of_ble_eq_true rfl) ?_
    refine sr_i2l hA si_226_33 ?_
    refine sr_VFv (c := 64) (ci := 8) (as := [.long ((sp_kv g i 1).toInt64)]) (st := []) hA si_226_34 sv_225 sk_226_294 (mc_mixV X g (31 * h + ((sp_kv g i 0).toInt64)) ((sp_kv g i 1).toInt64)) (by omega) rfl (by decide) (by decide) rfl sq_c_225 rfl (Nat.le_of_ble_eq_true rfl) ?_
    refine sr_iincN (x := 1) (y := 1) (ls1 := [.ref 64, .int (nI i), .int (nI 2)]) hA si_226_37 rfl rfl (by rw [sq_l_226]; decide) rfl ?_
    refine sr_goto (tgt := 21) hA si_226_40 (by decide) ?_
    refine sr_iload_n hA si_226_21 rfl ?_
    refine sr_iconst (v := nI 5) hA si_226_22 (by decide) ?_
    refine sr_icmp_geN (tgt := 43) hA si_226_23 (by decide) (by omega) (by omega) (fun c4 => absurd c4 (by omega)) (fun c4 => ?_)
    refine sr_aload_n hA si_226_26 rfl ?_
    refine sr_aload_n hA si_226_27 rfl ?_
    refine sr_iload_n hA si_226_28 rfl ?_
    refine sr_iload_n hA si_226_29 rfl ?_
    refine sr_VFi (c := 64) (ci := 8) (as := [.int (nI i), .int (nI 2)]) (st := [.ref 64]) hA si_226_30 sv_163 sk_226_177 (mc_ktR X (sp_wL g 64 35 (31 * (31 * h + ((sp_kv g i 0).toInt64)) + ((sp_kv g i 1).toInt64))) (w := 2) hb hK (by omega) (by omega) : sp_Ct X 2 163 [.ref 64, .int (nI i), .int (nI 2)] (sp_wL g 64 35 (31 * (31 * h + ((sp_kv g i 0).toInt64)) + ((sp_kv g i 1).toInt64))) (sp_Fi (sp_kv g i 2) (sp_wL g 64 35 (31 * (31 * h + ((sp_kv g i 0).toInt64)) + ((sp_kv g i 1).toInt64))))) (by omega) rfl (by decide) (by decide) rfl sq_c_163 rfl (Nat.le_of_ble_eq_true rfl) ?_
    refine sr_i2l hA si_226_33 ?_
    refine sr_VFv (c := 64) (ci := 8) (as := [.long ((sp_kv g i 2).toInt64)]) (st := []) hA si_226_34 sv_225 sk_226_294 (mc_mixV X g (31 * (31 * h + ((sp_kv g i 0).toInt64)) + ((sp_kv g i 1).toInt64)) ((sp_kv g i 2).toInt64)) (by omega) rfl (by decide) (by decide) rfl sq_c_225 rfl (Nat.le_of_ble_eq_true rfl) ?_
    refine sr_iincN (x := 2) (y := 1) (ls1 := [.ref 64, .int (nI i), .int (nI 3)]) hA si_226_37 rfl rfl (by rw [sq_l_226]; decide) rfl ?_
    refine sr_goto (tgt := 21) hA si_226_40 (by decide) ?_
    refine sr_iload_n hA si_226_21 rfl ?_
    refine sr_iconst (v := nI 5) hA si_226_22 (by decide) ?_
    refine sr_icmp_geN (tgt := 43) hA si_226_23 (by decide) (by omega) (by omega) (fun c5 => absurd c5 (by omega)) (fun c5 => ?_)
    refine sr_aload_n hA si_226_26 rfl ?_
    refine sr_aload_n hA si_226_27 rfl ?_
    refine sr_iload_n hA si_226_28 rfl ?_
    refine sr_iload_n hA si_226_29 rfl ?_
    refine sr_VFi (c := 64) (ci := 8) (as := [.int (nI i), .int (nI 3)]) (st := [.ref 64]) hA si_226_30 sv_163 sk_226_177 (mc_ktR X (sp_wL g 64 35 (31 * (31 * (31 * h + ((sp_kv g i 0).toInt64)) + ((sp_kv g i 1).toInt64)) + ((sp_kv g i 2).toInt64))) (w := 3) hb hK (by omega) (by omega) : sp_Ct X 2 163 [.ref 64, .int (nI i), .int (nI 3)] (sp_wL g 64 35 (31 * (31 * (31 * h + ((sp_kv g i 0).toInt64)) + ((sp_kv g i 1).toInt64)) + ((sp_kv g i 2).toInt64))) (sp_Fi (sp_kv g i 3) (sp_wL g 64 35 (31 * (31 * (31 * h + ((sp_kv g i 0).toInt64)) + ((sp_kv g i 1).toInt64)) + ((sp_kv g i 2).toInt64))))) (by omega) rfl (by decide) (by decide) rfl sq_c_163 rfl (Nat.le_of_ble_eq_true rfl) ?_
    refine sr_i2l hA si_226_33 ?_
    refine sr_VFv (c := 64) (ci := 8) (as := [.long ((sp_kv g i 3).toInt64)]) (st := []) hA si_226_34 sv_225 sk_226_294 (mc_mixV X g (31 * (31 * (31 * h + ((sp_kv g i 0).toInt64)) + ((sp_kv g i 1).toInt64)) + ((sp_kv g i 2).toInt64)) ((sp_kv g i 3).toInt64)) (by omega) rfl (by decide) (by decide) rfl sq_c_225 rfl (Nat.le_of_ble_eq_true rfl) ?_
    refine sr_iincN (x := 3) (y := 1) (ls1 := [.ref 64, .int (nI i), .int (nI 4)]) hA si_226_37 rfl rfl (by rw [sq_l_226]; decide) rfl ?_
    refine sr_goto (tgt := 21) hA si_226_40 (by decide) ?_
    refine sr_iload_n hA si_226_21 rfl ?_
    refine sr_iconst (v := nI 5) hA si_226_22 (by decide) ?_
    refine sr_icmp_geN (tgt := 43) hA si_226_23 (by decide) (by omega) (by omega) (fun c6 => absurd c6 (by omega)) (fun c6 => ?_)
    refine sr_aload_n hA si_226_26 rfl ?_
    refine sr_aload_n hA si_226_27 rfl ?_
    refine sr_iload_n hA si_226_28 rfl ?_
    refine sr_iload_n hA si_226_29 rfl ?_
    refine sr_VFi (c := 64) (ci := 8) (as := [.int (nI i), .int (nI 4)]) (st := [.ref 64]) hA si_226_30 sv_163 sk_226_177 (mc_ktR X (sp_wL g 64 35 (31 * (31 * (31 * (31 * h + ((sp_kv g i 0).toInt64)) + ((sp_kv g i 1).toInt64)) + ((sp_kv g i 2).toInt64)) + ((sp_kv g i 3).toInt64))) (w := 4) hb hK (by omega) (by omega) : sp_Ct X 2 163 [.ref 64, .int (nI i), .int (nI 4)] (sp_wL g 64 35 (31 * (31 * (31 * (31 * h + ((sp_kv g i 0).toInt64)) + ((sp_kv g i 1).toInt64)) + ((sp_kv g i 2).toInt64)) + ((sp_kv g i 3).toInt64))) (sp_Fi (sp_kv g i 4) (sp_wL g 64 35 (31 * (31 * (31 * (31 * h + ((sp_kv g i 0).toInt64)) + ((sp_kv g i 1).toInt64)) + ((sp_kv g i 2).toInt64)) + ((sp_kv g i 3).toInt64))))) (by omega) rfl (by decide) (by decide) rfl sq_c_163 rfl (Nat.le_of_ble_eq_true rfl) ?_
    refine sr_i2l hA si_226_33 ?_
    refine sr_VFv (c := 64) (ci := 8) (as := [.long ((sp_kv g i 4).toInt64)]) (st := []) hA si_226_34 sv_225 sk_226_294 (mc_mixV X g (31 * (31 * (31 * (31 * h + ((sp_kv g i 0).toInt64)) + ((sp_kv g i 1).toInt64)) + ((sp_kv g i 2).toInt64)) + ((sp_kv g i 3).toInt64)) ((sp_kv g i 4).toInt64)) (by omega) rfl (by decide) (by decide) rfl sq_c_225 rfl (Nat.le_of_ble_eq_true rfl) ?_
    refine sr_iincN (x := 4) (y := 1) (ls1 := [.ref 64, .int (nI i), .int (nI 5)]) hA si_226_37 rfl rfl (by rw [sq_l_226]; decide) rfl ?_
    refine sr_goto (tgt := 21) hA si_226_40 (by decide) ?_
    refine sr_iload_n hA si_226_21 rfl ?_
    refine sr_iconst (v := nI 5) hA si_226_22 (by decide) ?_
    refine sr_icmp_geN (tgt := 43) hA si_226_23 (by decide) (by omega) (by omega) (fun c7 => ?_) (fun c7 => absurd c7 (by omega))
    refine sr_iincN (x := i) (y := 1) (ls1 := [.ref 64, .int (nI (i + 1)), .int (nI 5)]) hA si_226_43 rfl rfl (by rw [sq_l_226]; decide) rfl ?_
    refine sr_goto (tgt := 11) hA si_226_46 (by decide) ?_
    refine sr_fg (ls1 := [.ref 64, .int (nI (i + 1)), .null]) ⟨Or.inr rfl, Or.inr rfl, Or.inl rfl, trivial⟩ ?_
    exact ih (i + 1) _ (by omega) (by rw [h1_]; rfl)
set_option maxRecDepth 20000 in
theorem ml_dgP {X : sp_X} {dd : Nat} {ac : sp_Ac} {g : sp_G} (hz8 : ∀ k, k < 3 → g.1 77 k = nI 0 ∨ g.1 77 k = nI 1) {h0 : Int64} (hdd : 1 ≤ dd) (hA : sp_Act X 226 dd (sp_Fv (sp_wL g 64 35 (sp_fo (sp_f4 g) 3 h0))) ac) : ∀ (m : Nat) (i : Nat) (h : Int64), i + m = 3 → h = sp_fo (sp_f4 g) i h0 → sp_Ev X ac 226 51 [.ref 64, .int (nI i), .null] [] (sp_wL g 64 35 h) := by
  intro m
  induction m with
  | zero =>
    intro i h h0_ h1_
    refine sr_iload_n hA si_226_51 rfl ?_
    refine sr_iconst (v := nI 3) hA si_226_52 (by decide) ?_
    refine sr_icmp_geN (tgt := 88) hA si_226_53 (by decide) (by omega) (by omega) (fun c1 => ?_) (fun c1 => absurd c1 (by omega))
    exact sr_vretF hA si_226_88 sq_r_226 (by rw [h1_, show i = 3 by omega])
  | succ m ih =>
    intro i h h0_ h1_
    rcases hz8 i (by omega) with p2 | p2
    · refine sr_iload_n hA si_226_51 rfl ?_
      refine sr_iconst (v := nI 3) hA si_226_52 (by decide) ?_
      refine sr_icmp_geN (tgt := 88) hA si_226_53 (by decide) (by omega) (by omega) (fun c1 => absurd c1 (by omega)) (fun c1 => ?_)
      refine sr_aload_n hA si_226_56 rfl ?_
      refine sr_aload_n hA si_226_57 rfl ?_
      refine sr_getR (r := 77) hA si_226_58 sf_226_51 (by decide) (by decide) rfl rfl rfl ?_
      refine sr_iload_n hA si_226_61 rfl ?_
      refine sr_zaldNv (v := nI 0) (n := 3) hA si_226_62 (by decide) rfl rfl (by omega) (by decide) p2 ?_
      refine sr_if_eqN (tgt := 76) hA si_226_63 (by decide) (by omega) (fun c2 => ?_) (fun c2 => absurd c2 (by omega))
      refine sr_ldc2 hA si_226_76 sc_226_298 ?_
      refine sr_VFv (c := 64) (ci := 8) (as := [.long (-1)]) (st := []) hA si_226_79 sv_225 sk_226_294 (mc_mixV X g h (-1)) (by omega) rfl (by decide) (by decide) rfl sq_c_225 rfl (Nat.le_of_ble_eq_true rfl) ?_
      refine sr_iincN (x := i) (y := 1) (ls1 := [.ref 64, .int (nI (i + 1)), .null]) hA si_226_82 rfl rfl (by rw [sq_l_226]; decide) rfl ?_
      refine sr_goto (tgt := 51) hA si_226_85 (by decide) ?_
      exact ih (i + 1) _ (by omega) (by rw [h1_]; show _ = sp_f4 g i _; rw [sp_f4_0 p2])
    · refine sr_iload_n hA si_226_51 rfl ?_
      refine sr_iconst (v := nI 3) hA si_226_52 (by decide) ?_
      refine sr_icmp_geN (tgt := 88) hA si_226_53 (by decide) (by omega) (by omega) (fun c1 => absurd c1 (by omega)) (fun c1 => ?_)
      refine sr_aload_n hA si_226_56 rfl ?_
      refine sr_aload_n hA si_226_57 rfl ?_
      refine sr_getR (r := 77) hA si_226_58 sf_226_51 (by decide) (by decide) rfl rfl rfl ?_
      refine sr_iload_n hA si_226_61 rfl ?_
      refine sr_zaldNv (v := nI 1) (n := 3) hA si_226_62 (by decide) rfl rfl (by omega) (by decide) p2 ?_
      refine sr_if_eqN (tgt := 76) hA si_226_63 (by decide) (by omega) (fun c2 => absurd c2 (by omega)) (fun c2 => ?_)
      refine sr_aload_n hA si_226_66 rfl ?_
      refine sr_getR (r := 78) hA si_226_67 sf_226_55 (by decide) (by decide) rfl rfl rfl ?_
      refine sr_iload_n hA si_226_70 rfl ?_
      refine sr_ialdNv (v := g.1 78 i) (n := 3) hA si_226_71 (by decide) rfl rfl (by omega) (by decide) rfl ?_
      refine sr_i2l hA si_226_72 ?_
      refine sr_goto (tgt := 79) hA si_226_73 (by decide) ?_
      refine sr_VFv (c := 64) (ci := 8) (as := [.long ((g.1 78 i).toInt64)]) (st := []) hA si_226_79 sv_225 sk_226_294 (mc_mixV X g h ((g.1 78 i).toInt64)) (by omega) rfl (by decide) (by decide) rfl sq_c_225 rfl (Nat.le_of_ble_eq_true rfl) ?_
      refine sr_iincN (x := i) (y := 1) (ls1 := [.ref 64, .int (nI (i + 1)), .null]) hA si_226_82 rfl rfl (by rw [sq_l_226]; decide) rfl ?_
      refine sr_goto (tgt := 51) hA si_226_85 (by decide) ?_
      exact ih (i + 1) _ (by omega) (by rw [h1_]; show _ = sp_f4 g i _; rw [sp_f4_1 p2])
set_option maxRecDepth 20000 in
theorem mc_mixP (X : sp_X) (g : sp_G) {n : Nat} (hn : g.1 64 11 = nI n) (hb : n ≤ 6) (hK : sp_kk g 71 n) (hz8 : ∀ k, k < 3 → g.1 77 k = nI 0 ∨ g.1 77 k = nI 1) (h : Int64) : sp_Ct X 4 226 [.ref 64] (sp_wL g 64 35 h) (sp_Fv (sp_wL g 64 35 (sp_fo (sp_f4 g) 3 (sp_fo (sp_f3 g) n (31 * h + (g.1 64 10).toInt64))))) := by
  refine sp_walkN (n := 3) sq_p_226 sq_l_226 (Nat.le_of_ble_eq_true rfl) (fun ac hA => ?_)
  show sp_Ev X ac 226 0 [.ref 64, .null, .null] [] (sp_wL g 64 35 h)
  refine sr_aload_n hA si_226_0 rfl ?_
  refine sr_aload_n hA si_226_1 rfl ?_
  refine sr_getIv (v := g.1 64 10) hA si_226_2 sf_226_76 (by decide) (by decide) rfl (by decide) rfl ?_
  refine sr_i2l hA si_226_5 ?_
  refine sr_VFv (c := 64) (ci := 8) (as := [.long ((g.1 64 10).toInt64)]) (st := []) hA si_226_6 sv_225 sk_226_294 (mc_mixV X g h ((g.1 64 10).toInt64)) (by omega) rfl (by decide) (by decide) rfl sq_c_225 rfl (Nat.le_of_ble_eq_true rfl) ?_
  refine sr_iconst (v := nI 0) hA si_226_9 (by decide) ?_
  refine sr_istore_n (ls1 := [.ref 64, .int (nI 0), .null]) hA si_226_10 rfl (by rw [sq_l_226]; decide) rfl ?_
  refine sr_fg (ls1 := [.ref 64, .int (nI 0), .null]) ⟨Or.inr rfl, Or.inr rfl, Or.inl rfl, trivial⟩ ?_
  refine ml_dgK hn hb hK (h0 := (31 * h + ((g.1 64 10).toInt64))) ?_ (by omega) hA n 0 _ (by omega) rfl
  refine sr_iconst (v := nI 0) hA si_226_49 (by decide) ?_
  refine sr_istore_n (ls1 := [.ref 64, .int (nI 0), .null]) hA si_226_50 rfl (by rw [sq_l_226]; decide) rfl ?_
  exact ml_dgP hz8 (by omega) hA 3 0 _ rfl rfl
set_option maxRecDepth 20000 in
theorem ml_mxRI {X : sp_X} {dd : Nat} {ac : sp_Ac} {g : sp_G} {Rt : sp_Rt} {r z : Nat} {h0 : Int64} (hr : r < 6) (hz : g.1 66 r = nI z) (hzb : z ≤ 40) (kk : sp_Ev X ac 224 83 [.ref 64, .int (nI r), .null] [] (sp_wL g 64 35 (sp_fo (fun i h => 31 * h + (g.1 67 (40 * r + i)).toInt64) z h0))) (hdd : 2 ≤ dd) (hA : sp_Act X 224 dd Rt ac) : ∀ (m : Nat) (i : Nat) (h : Int64), i + m = z → h = sp_fo (fun i h => 31 * h + (g.1 67 (40 * r + i)).toInt64) i h0 → sp_Ev X ac 224 56 [.ref 64, .int (nI r), .int (nI i)] [] (sp_wL g 64 35 h) := by
  intro m
  induction m with
  | zero =>
    intro i h h0_ h1_
    refine sr_iload_n hA si_224_56 rfl ?_
    refine sr_aload_n hA si_224_57 rfl ?_
    refine sr_getR (r := 66) hA si_224_58 sf_224_17 (by decide) (by decide) rfl rfl rfl ?_
    refine sr_iload_n hA si_224_61 rfl ?_
    refine sr_ialdNv (v := nI z) (n := 6) hA si_224_62 (by decide) rfl rfl (by omega) (by decide) hz ?_
    refine sr_icmp_geN (tgt := 83) hA si_224_63 (by decide) (by omega) (by omega) (fun c1 => ?_) (fun c1 => absurd c1 (by omega))
    have e9 : i = z := by omega
    refine sr_fg (ls1 := [.ref 64, .int (nI r), .null]) ⟨Or.inr rfl, Or.inr rfl, Or.inl rfl, trivial⟩ ?_
    rw [h1_, e9]
    exact kk
  | succ m ih =>
    intro i h h0_ h1_
    refine sr_iload_n hA si_224_56 rfl ?_
    refine sr_aload_n hA si_224_57 rfl ?_
    refine sr_getR (r := 66) hA si_224_58 sf_224_17 (by decide) (by decide) rfl rfl rfl ?_
    refine sr_iload_n hA si_224_61 rfl ?_
    refine sr_ialdNv (v := nI z) (n := 6) hA si_224_62 (by decide) rfl rfl (by omega) (by decide) hz ?_
    refine sr_icmp_geN (tgt := 83) hA si_224_63 (by decide) (by omega) (by omega) (fun c1 => absurd c1 (by omega)) (fun c1 => ?_)
    refine sr_aload_n hA si_224_66 rfl ?_
    refine sr_aload_n hA si_224_67 rfl ?_
    refine sr_iload_n hA si_224_68 rfl ?_
    refine sr_iload_n hA si_224_69 rfl ?_
    refine sr_VFi (c := 64) (ci := 8) (as := [.int (nI r), .int (nI i)]) (st := [.ref 64]) hA si_224_70 sv_143 sk_224_101 (mc_rowAt X (sp_wL g 64 35 h) (r := r) (i := i) (by omega) : sp_Ct X 0 143 [.ref 64, .int (nI r), .int (nI i)] (sp_wL g 64 35 h) (sp_Fi (g.1 67 (40 * r + i)) (sp_wL g 64 35 h))) (by omega) rfl (by decide) (by decide) rfl sq_c_143 rfl (Nat.le_of_ble_eq_true rfl) ?_
    refine sr_i2l hA si_224_73 ?_
    refine sr_VFv (c := 64) (ci := 8) (as := [.long ((g.1 67 (40 * r + i)).toInt64)]) (st := []) hA si_224_74 sv_225 sk_224_294 (mc_mixV X g h ((g.1 67 (40 * r + i)).toInt64)) (by omega) rfl (by decide) (by decide) rfl sq_c_225 rfl (Nat.le_of_ble_eq_true rfl) ?_
    refine sr_iincN (x := i) (y := 1) (ls1 := [.ref 64, .int (nI r), .int (nI (i + 1))]) hA si_224_77 rfl rfl (by rw [sq_l_224]; decide) rfl ?_
    refine sr_goto (tgt := 56) hA si_224_80 (by decide) ?_
    exact ih (i + 1) _ (by omega) (by rw [h1_]; rfl)
set_option maxRecDepth 20000 in
theorem ml_mxR {X : sp_X} {dd : Nat} {ac : sp_Ac} {g : sp_G} {Rt : sp_Rt} {h0 : Int64} (hz : ∀ r, r < 6 → sp_sz (g.1 66 r) 40) (kk : sp_Ev X ac 224 89 [.ref 64, .null, .null] [] (sp_wL g 64 35 (sp_fo (sp_f5 (g.1 66) (fun r i => g.1 67 (40 * r + i))) 6 h0))) (hdd : 2 ≤ dd) (hA : sp_Act X 224 dd Rt ac) : ∀ (m : Nat) (r : Nat) (h : Int64), r + m = 6 → h = sp_fo (sp_f5 (g.1 66) (fun r i => g.1 67 (40 * r + i))) r h0 → sp_Ev X ac 224 37 [.ref 64, .int (nI r), .null] [] (sp_wL g 64 35 h) := by
  intro m
  induction m with
  | zero =>
    intro r h h0_ h1_
    refine sr_iload_n hA si_224_37 rfl ?_
    refine sr_bipush (v := nI 6) hA si_224_38 (by decide) ?_
    refine sr_icmp_geN (tgt := 89) hA si_224_40 (by decide) (by omega) (by omega) (fun c1 => ?_) (fun c1 => absurd c1 (by omega))
    have e9 : r = 6 := by omega
    refine sr_fg (ls1 := [.ref 64, .null, .null]) ⟨Or.inr rfl, Or.inl rfl, Or.inl rfl, trivial⟩ ?_
    rw [h1_, e9]
    exact kk
  | succ m ih =>
    intro r h h0_ h1_
    rcases hz r (by omega) with ee | ⟨z, zb, ee⟩
    · refine sr_iload_n hA si_224_37 rfl ?_
      refine sr_bipush (v := nI 6) hA si_224_38 (by decide) ?_
      refine sr_icmp_geN (tgt := 89) hA si_224_40 (by decide) (by omega) (by omega) (fun c1 => absurd c1 (by omega)) (fun c1 => ?_)
      refine sr_aload_n hA si_224_43 rfl ?_
      refine sr_aload_n hA si_224_44 rfl ?_
      refine sr_getR (r := 66) hA si_224_45 sf_224_17 (by decide) (by decide) rfl rfl rfl ?_
      refine sr_iload_n hA si_224_48 rfl ?_
      refine sr_ialdNv (v := (-1)) (n := 6) hA si_224_49 (by decide) rfl rfl (by omega) (by decide) ee ?_
      refine sr_i2l hA si_224_50 ?_
      refine sr_VFv (c := 64) (ci := 8) (as := [.long ((-1 : Int32).toInt64)]) (st := []) hA si_224_51 sv_225 sk_224_294 (mc_mixV X g h ((-1 : Int32).toInt64)) (by omega) rfl (by decide) (by decide) rfl sq_c_225 rfl (Nat.le_of_ble_eq_true rfl) ?_
      refine sr_iconst (v := nI 0) hA si_224_54 (by decide) ?_
      refine sr_istore_n (ls1 := [.ref 64, .int (nI r), .int (nI 0)]) hA si_224_55 rfl (by rw [sq_l_224]; decide) rfl ?_
      refine sr_iload_n hA si_224_56 rfl ?_
      refine sr_aload_n hA si_224_57 rfl ?_
      refine sr_getR (r := 66) hA si_224_58 sf_224_17 (by decide) (by decide) rfl rfl rfl ?_
      refine sr_iload_n hA si_224_61 rfl ?_
      refine sr_ialdNv (v := (-1)) (n := 6) hA si_224_62 (by decide) rfl rfl (by omega) (by decide) ee ?_
      refine sr_icmp_ge (tgt := 83) hA si_224_63 (by decide) (fun c2 => ?_) (fun c2 => absurd (sp_nm2 (by omega)) c2)
      refine sr_iincN (x := r) (y := 1) (ls1 := [.ref 64, .int (nI (r + 1)), .int (nI 0)]) hA si_224_83 rfl rfl (by rw [sq_l_224]; decide) rfl ?_
      refine sr_goto (tgt := 37) hA si_224_86 (by decide) ?_
      refine sr_fg (ls1 := [.ref 64, .int (nI (r + 1)), .null]) ⟨Or.inr rfl, Or.inr rfl, Or.inl rfl, trivial⟩ ?_
      exact ih (r + 1) _ (by omega) (by rw [h1_]; show _ = (sp_f5 (g.1 66) (fun r i => g.1 67 (40 * r + i))) r _; unfold sp_f5; rw [ee]; rfl)
    · refine sr_iload_n hA si_224_37 rfl ?_
      refine sr_bipush (v := nI 6) hA si_224_38 (by decide) ?_
      refine sr_icmp_geN (tgt := 89) hA si_224_40 (by decide) (by omega) (by omega) (fun c1 => absurd c1 (by omega)) (fun c1 => ?_)
      refine sr_aload_n hA si_224_43 rfl ?_
      refine sr_aload_n hA si_224_44 rfl ?_
      refine sr_getR (r := 66) hA si_224_45 sf_224_17 (by decide) (by decide) rfl rfl rfl ?_
      refine sr_iload_n hA si_224_48 rfl ?_
      refine sr_ialdNv (v := nI z) (n := 6) hA si_224_49 (by decide) rfl rfl (by omega) (by decide) ee ?_
      refine sr_i2l hA si_224_50 ?_
      refine sr_VFv (c := 64) (ci := 8) (as := [.long ((nI z).toInt64)]) (st := []) hA si_224_51 sv_225 sk_224_294 (mc_mixV X g h ((nI z).toInt64)) (by omega) rfl (by decide) (by decide) rfl sq_c_225 rfl (Nat.le_of_ble_eq_true rfl) ?_
      refine sr_iconst (v := nI 0) hA si_224_54 (by decide) ?_
      refine sr_istore_n (ls1 := [.ref 64, .int (nI r), .int (nI 0)]) hA si_224_55 rfl (by rw [sq_l_224]; decide) rfl ?_
      refine ml_mxRI (h0 := (31 * h + ((nI z).toInt64))) (by omega) ee (by omega) ?_ (by omega) hA z 0 _ (by omega) rfl
      refine sr_iincN (x := r) (y := 1) (ls1 := [.ref 64, .int (nI (r + 1)), .null]) hA si_224_83 rfl rfl (by rw [sq_l_224]; decide) rfl ?_
      refine sr_goto (tgt := 37) hA si_224_86 (by decide) ?_
      exact ih (r + 1) _ (by omega) (by rw [h1_]; show _ = (sp_f5 (g.1 66) (fun r i => g.1 67 (40 * r + i))) r _; unfold sp_f5; rw [ee, nI_clamp (by omega)])
set_option maxRecDepth 20000 in
theorem ml_mxTI {X : sp_X} {dd : Nat} {ac : sp_Ac} {g : sp_G} {Rt : sp_Rt} {r z : Nat} {h0 : Int64} (hr : r < 4) (hz : g.1 69 r = nI z) (hzb : z ≤ 60) (kk : sp_Ev X ac 224 136 [.ref 64, .int (nI r), .null] [] (sp_wL g 64 35 (sp_fo (fun i h => 31 * h + (g.1 70 (60 * r + i)).toInt64) z h0))) (hdd : 2 ≤ dd) (hA : sp_Act X 224 dd Rt ac) : ∀ (m : Nat) (i : Nat) (h : Int64), i + m = z → h = sp_fo (fun i h => 31 * h + (g.1 70 (60 * r + i)).toInt64) i h0 → sp_Ev X ac 224 109 [.ref 64, .int (nI r), .int (nI i)] [] (sp_wL g 64 35 h) := by
  intro m
  induction m with
  | zero =>
    intro i h h0_ h1_
    refine sr_iload_n hA si_224_109 rfl ?_
    refine sr_aload_n hA si_224_110 rfl ?_
    refine sr_getR (r := 69) hA si_224_111 sf_224_26 (by decide) (by decide) rfl rfl rfl ?_
    refine sr_iload_n hA si_224_114 rfl ?_
    refine sr_ialdNv (v := nI z) (n := 4) hA si_224_115 (by decide) rfl rfl (by omega) (by decide) hz ?_
    refine sr_icmp_geN (tgt := 136) hA si_224_116 (by decide) (by omega) (by omega) (fun c1 => ?_) (fun c1 => absurd c1 (by omega))
    have e9 : i = z := by omega
    refine sr_fg (ls1 := [.ref 64, .int (nI r), .null]) ⟨Or.inr rfl, Or.inr rfl, Or.inl rfl, trivial⟩ ?_
    rw [h1_, e9]
    exact kk
  | succ m ih =>
    intro i h h0_ h1_
    refine sr_iload_n hA si_224_109 rfl ?_
    refine sr_aload_n hA si_224_110 rfl ?_
    refine sr_getR (r := 69) hA si_224_111 sf_224_26 (by decide) (by decide) rfl rfl rfl ?_
    refine sr_iload_n hA si_224_114 rfl ?_
    refine sr_ialdNv (v := nI z) (n := 4) hA si_224_115 (by decide) rfl rfl (by omega) (by decide) hz ?_
    refine sr_icmp_geN (tgt := 136) hA si_224_116 (by decide) (by omega) (by omega) (fun c1 => absurd c1 (by omega)) (fun c1 => ?_)
    refine sr_aload_n hA si_224_119 rfl ?_
    refine sr_aload_n hA si_224_120 rfl ?_
    refine sr_iload_n hA si_224_121 rfl ?_
    refine sr_iload_n hA si_224_122 rfl ?_
    refine sr_VFi (c := 64) (ci := 8) (as := [.int (nI r), .int (nI i)]) (st := [.ref 64]) hA si_224_123 sv_154 sk_224_114 (mc_byte1 X (sp_wL g 64 35 h) (t := r) (i := i) (by omega) hz (by omega) (by omega) : sp_Ct X 0 154 [.ref 64, .int (nI r), .int (nI i)] (sp_wL g 64 35 h) (sp_Fi (g.1 70 (60 * r + i)) (sp_wL g 64 35 h))) (by omega) rfl (by decide) (by decide) rfl sq_c_154 rfl (Nat.le_of_ble_eq_true rfl) ?_
    refine sr_i2l hA si_224_126 ?_
    refine sr_VFv (c := 64) (ci := 8) (as := [.long ((g.1 70 (60 * r + i)).toInt64)]) (st := []) hA si_224_127 sv_225 sk_224_294 (mc_mixV X g h ((g.1 70 (60 * r + i)).toInt64)) (by omega) rfl (by decide) (by decide) rfl sq_c_225 rfl (Nat.le_of_ble_eq_true rfl) ?_
    refine sr_iincN (x := i) (y := 1) (ls1 := [.ref 64, .int (nI r), .int (nI (i + 1))]) hA si_224_130 rfl rfl (by rw [sq_l_224]; decide) rfl ?_
    refine sr_goto (tgt := 109) hA si_224_133 (by decide) ?_
    exact ih (i + 1) _ (by omega) (by rw [h1_]; rfl)
set_option maxRecDepth 20000 in
theorem ml_mxT {X : sp_X} {dd : Nat} {ac : sp_Ac} {g : sp_G} {h0 : Int64} (hz : ∀ r, r < 4 → sp_sz (g.1 69 r) 60) (hdd : 2 ≤ dd) (hA : sp_Act X 224 dd (sp_Fl (sp_fo (sp_f5 (g.1 69) (fun r i => g.1 70 (60 * r + i))) 4 h0) (sp_wL g 64 35 (sp_fo (sp_f5 (g.1 69) (fun r i => g.1 70 (60 * r + i))) 4 h0))) ac) : ∀ (m : Nat) (r : Nat) (h : Int64), r + m = 4 → h = sp_fo (sp_f5 (g.1 69) (fun r i => g.1 70 (60 * r + i))) r h0 → sp_Ev X ac 224 91 [.ref 64, .int (nI r), .null] [] (sp_wL g 64 35 h) := by
  intro m
  induction m with
  | zero =>
    intro r h h0_ h1_
    refine sr_iload_n hA si_224_91 rfl ?_
    refine sr_iconst (v := nI 4) hA si_224_92 (by decide) ?_
    refine sr_icmp_geN (tgt := 142) hA si_224_93 (by decide) (by omega) (by omega) (fun c1 => ?_) (fun c1 => absurd c1 (by omega))
    refine sr_aload_n hA si_224_142 rfl ?_
    refine sr_getLv (v := h) hA si_224_143 sf_224_291 (by decide) (by decide) rfl rfl sp_rdL ?_
    exact sr_lretF hA si_224_146 sq_r_224 (by rw [h1_, show r = 4 by omega]) (by rw [h1_, show r = 4 by omega])
  | succ m ih =>
    intro r h h0_ h1_
    rcases hz r (by omega) with ee | ⟨z, zb, ee⟩
    · refine sr_iload_n hA si_224_91 rfl ?_
      refine sr_iconst (v := nI 4) hA si_224_92 (by decide) ?_
      refine sr_icmp_geN (tgt := 142) hA si_224_93 (by decide) (by omega) (by omega) (fun c1 => absurd c1 (by omega)) (fun c1 => ?_)
      refine sr_aload_n hA si_224_96 rfl ?_
      refine sr_aload_n hA si_224_97 rfl ?_
      refine sr_getR (r := 69) hA si_224_98 sf_224_26 (by decide) (by decide) rfl rfl rfl ?_
      refine sr_iload_n hA si_224_101 rfl ?_
      refine sr_ialdNv (v := (-1)) (n := 4) hA si_224_102 (by decide) rfl rfl (by omega) (by decide) ee ?_
      refine sr_i2l hA si_224_103 ?_
      refine sr_VFv (c := 64) (ci := 8) (as := [.long ((-1 : Int32).toInt64)]) (st := []) hA si_224_104 sv_225 sk_224_294 (mc_mixV X g h ((-1 : Int32).toInt64)) (by omega) rfl (by decide) (by decide) rfl sq_c_225 rfl (Nat.le_of_ble_eq_true rfl) ?_
      refine sr_iconst (v := nI 0) hA si_224_107 (by decide) ?_
      refine sr_istore_n (ls1 := [.ref 64, .int (nI r), .int (nI 0)]) hA si_224_108 rfl (by rw [sq_l_224]; decide) rfl ?_
      refine sr_iload_n hA si_224_109 rfl ?_
      refine sr_aload_n hA si_224_110 rfl ?_
      refine sr_getR (r := 69) hA si_224_111 sf_224_26 (by decide) (by decide) rfl rfl rfl ?_
      refine sr_iload_n hA si_224_114 rfl ?_
      refine sr_ialdNv (v := (-1)) (n := 4) hA si_224_115 (by decide) rfl rfl (by omega) (by decide) ee ?_
      refine sr_icmp_ge (tgt := 136) hA si_224_116 (by decide) (fun c2 => ?_) (fun c2 => absurd (sp_nm2 (by omega)) c2)
      refine sr_iincN (x := r) (y := 1) (ls1 := [.ref 64, .int (nI (r + 1)), .int (nI 0)]) hA si_224_136 rfl rfl (by rw [sq_l_224]; decide) rfl ?_
      refine sr_goto (tgt := 91) hA si_224_139 (by decide) ?_
      refine sr_fg (ls1 := [.ref 64, .int (nI (r + 1)), .null]) ⟨Or.inr rfl, Or.inr rfl, Or.inl rfl, trivial⟩ ?_
      exact ih (r + 1) _ (by omega) (by rw [h1_]; show _ = (sp_f5 (g.1 69) (fun r i => g.1 70 (60 * r + i))) r _; unfold sp_f5; rw [ee]; rfl)
    · refine sr_iload_n hA si_224_91 rfl ?_
      refine sr_iconst (v := nI 4) hA si_224_92 (by decide) ?_
      refine sr_icmp_geN (tgt := 142) hA si_224_93 (by decide) (by omega) (by omega) (fun c1 => absurd c1 (by omega)) (fun c1 => ?_)
      refine sr_aload_n hA si_224_96 rfl ?_
      refine sr_aload_n hA si_224_97 rfl ?_
      refine sr_getR (r := 69) hA si_224_98 sf_224_26 (by decide) (by decide) rfl rfl rfl ?_
      refine sr_iload_n hA si_224_101 rfl ?_
      refine sr_ialdNv (v := nI z) (n := 4) hA si_224_102 (by decide) rfl rfl (by omega) (by decide) ee ?_
      refine sr_i2l hA si_224_103 ?_
      refine sr_VFv (c := 64) (ci := 8) (as := [.long ((nI z).toInt64)]) (st := []) hA si_224_104 sv_225 sk_224_294 (mc_mixV X g h ((nI z).toInt64)) (by omega) rfl (by decide) (by decide) rfl sq_c_225 rfl (Nat.le_of_ble_eq_true rfl) ?_
      refine sr_iconst (v := nI 0) hA si_224_107 (by decide) ?_
      refine sr_istore_n (ls1 := [.ref 64, .int (nI r), .int (nI 0)]) hA si_224_108 rfl (by rw [sq_l_224]; decide) rfl ?_
      refine ml_mxTI (h0 := (31 * h + ((nI z).toInt64))) (by omega) ee (by omega) ?_ (by omega) hA z 0 _ (by omega) rfl
      refine sr_iincN (x := r) (y := 1) (ls1 := [.ref 64, .int (nI (r + 1)), .null]) hA si_224_136 rfl rfl (by rw [sq_l_224]; decide) rfl ?_
      refine sr_goto (tgt := 91) hA si_224_139 (by decide) ?_
      exact ih (r + 1) _ (by omega) (by rw [h1_]; show _ = (sp_f5 (g.1 69) (fun r i => g.1 70 (60 * r + i))) r _; unfold sp_f5; rw [ee, nI_clamp (by omega)])
theorem sp_EvH {X : sp_X} {ac : sp_Ac} {N pc : Nat} {ls st : List Value} {g : sp_G} {h1 h2 : Int64} (e : h1 = h2) (k : sp_Ev X ac N pc ls st (sp_wL g 64 35 h2)) : sp_Ev X ac N pc ls st (sp_wL g 64 35 h1) := by rw [e]; exact k
set_option maxRecDepth 20000 in
theorem ml_dgC {X : sp_X} {dd : Nat} {ac : sp_Ac} {g : sp_G} {n : Nat} (hn : g.1 64 11 = nI n) (hb : n ≤ 6) (hK : sp_kk g 71 n) (hz6 : ∀ r, r < 6 → sp_sz (g.1 66 r) 40) (hz7 : ∀ r, r < 4 → sp_sz (g.1 69 r) 60) (hz8 : ∀ k, k < 3 → g.1 77 k = nI 0 ∨ g.1 77 k = nI 1) {Rt : sp_Rt} (kk : sp_Ev X ac 224 31 [.ref 64, .null, .null] [] (sp_wL g 64 35 (sp_d1 g n))) (hdd : 2 ≤ dd) (hA : sp_Act X 224 dd Rt ac) : ∀ (m : Nat) (w : Nat) (h : Int64), w + m = 9 → h = sp_fo (fun w h => 31 * h + (sp_cv g n w).toInt64) w 17 → sp_Ev X ac 224 9 [.ref 64, .int (nI w), .null] [] (sp_wL g 64 35 h) := by
  intro m
  induction m with
  | zero =>
    intro w h h0_ h1_
    refine sr_iload_n hA si_224_9 rfl ?_
    refine sr_bipush (v := nI 9) hA si_224_10 (by decide) ?_
    refine sr_icmp_geN (tgt := 31) hA si_224_12 (by decide) (by omega) (by omega) (fun c1 => ?_) (fun c1 => absurd c1 (by omega))
    have e9 : w = 9 := by omega
    refine sr_fg (ls1 := [.ref 64, .null, .null]) ⟨Or.inr rfl, Or.inl rfl, Or.inl rfl, trivial⟩ ?_
    rw [h1_, e9]
    exact kk
  | succ m ih =>
    intro w h h0_ h1_
    refine sr_iload_n hA si_224_9 rfl ?_
    refine sr_bipush (v := nI 9) hA si_224_10 (by decide) ?_
    refine sr_icmp_geN (tgt := 31) hA si_224_12 (by decide) (by omega) (by omega) (fun c1 => absurd c1 (by omega)) (fun c1 => ?_)
    refine sr_aload_n hA si_224_15 rfl ?_
    refine sr_aload_n hA si_224_16 rfl ?_
    refine sr_iload_n hA si_224_17 rfl ?_
    refine sr_VFi (c := 64) (ci := 8) (as := [.int (nI w)]) (st := [.ref 64]) hA si_224_18 sv_223 sk_224_286 (mc_countV X g h hn hb hK hz6 hz7 hz8 (by omega)) (by omega) rfl (by decide) (by decide) rfl sq_c_223 rfl (Nat.le_of_ble_eq_true rfl) ?_
    refine sr_i2l hA si_224_21 ?_
    refine sr_VFv (c := 64) (ci := 8) (as := [.long ((sp_cv g n w).toInt64)]) (st := []) hA si_224_22 sv_225 sk_224_294 (mc_mixV X g h ((sp_cv g n w).toInt64)) (by omega) rfl (by decide) (by decide) rfl sq_c_225 rfl (Nat.le_of_ble_eq_true rfl) ?_
    refine sr_iincN (x := w) (y := 1) (ls1 := [.ref 64, .int (nI (w + 1)), .null]) hA si_224_25 rfl rfl (by rw [sq_l_224]; decide) rfl ?_
    refine sr_goto (tgt := 9) hA si_224_28 (by decide) ?_
    exact ih (w + 1) _ (by omega) (by rw [h1_]; rfl)
set_option maxRecDepth 20000 in
theorem mc_digest (X : sp_X) (g : sp_G) {n : Nat} (hn : g.1 64 11 = nI n) (hb : n ≤ 6) (hK : sp_kk g 71 n) (hz6 : ∀ r, r < 6 → sp_sz (g.1 66 r) 40) (hz7 : ∀ r, r < 4 → sp_sz (g.1 69 r) 60) (hz8 : ∀ k, k < 3 → g.1 77 k = nI 0 ∨ g.1 77 k = nI 1) : sp_Ct X 6 224 [.ref 64] g (sp_Fl (sp_dg g n) (sp_wL g 64 35 (sp_dg g n))) := by
  refine sp_walkN (n := 3) sq_p_224 sq_l_224 (Nat.le_of_ble_eq_true rfl) (fun ac hA => ?_)
  show sp_Ev X ac 224 0 [.ref 64, .null, .null] [] g
  refine sr_aload_n hA si_224_0 rfl ?_
  refine sr_ldc2 hA si_224_1 sc_224_300 ?_
  refine sr_putL hA si_224_4 sf_224_291 rfl rfl (by decide) (by decide) rfl rfl ?_
  refine sr_iconst (v := nI 0) hA si_224_7 (by decide) ?_
  refine sr_istore_n (ls1 := [.ref 64, .int (nI 0), .null]) hA si_224_8 rfl (by rw [sq_l_224]; decide) rfl ?_
  refine ml_dgC hn hb hK hz6 hz7 hz8 ?_ (by omega) hA 9 0 _ rfl rfl
  refine sr_aload_n hA si_224_31 rfl ?_
  refine sr_VFv (c := 64) (ci := 8) (as := []) (st := []) hA si_224_32 sv_226 sk_224_302 (mc_mixP X g hn hb hK hz8 (sp_d1 g n)) (by omega) rfl (by decide) (by decide) rfl sq_c_226 rfl (Nat.le_of_ble_eq_true rfl) ?_
  refine sr_iconst (v := nI 0) hA si_224_35 (by decide) ?_
  refine sr_istore_n (ls1 := [.ref 64, .int (nI 0), .null]) hA si_224_36 rfl (by rw [sq_l_224]; decide) rfl ?_
  refine sr_fg (ls1 := [.ref 64, .int (nI 0), .null]) ⟨Or.inr rfl, Or.inr rfl, Or.inl rfl, trivial⟩ ?_
  refine ml_mxR (h0 := (sp_fo (sp_f4 g) 3 (sp_fo (sp_f3 g) n (31 * (sp_d1 g n) + (g.1 64 10).toInt64)))) hz6 ?_ (by omega) hA 6 0 _ rfl rfl
  refine sr_iconst (v := nI 0) hA si_224_89 (by decide) ?_
  refine sr_istore_n (ls1 := [.ref 64, .int (nI 0), .null]) hA si_224_90 rfl (by rw [sq_l_224]; decide) rfl ?_
  exact ml_mxT hz7 (by omega) hA 4 0 _ rfl rfl
theorem pr_digest {X : sp_X} {g : sp_G} (h : sp_Rel g) : sp_Pl X 130 224 [] g := by
  obtain ⟨hF, hR, hT, n, dm, hK, hS, hP⟩ := id h
  obtain ⟨s1, s2, s3, s4, s5, s6⟩ := h.sx
  exact sp_pFl (xc_digest X g h hK hS hP) (mc_digest X g hK.2.2.1 hK.1 (sp_kkm hK) s2 s4 s6) (by omega) (by omega) (h.ma (sp_ma.rf.wL (by omega)))
