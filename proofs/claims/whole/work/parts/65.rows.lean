theorem wb_tb (n : Nat) : (lN n).toBitVec = BitVec.ofNat 64 n := rfl
theorem wb_inj {a b : Int64} (h : a.toBitVec = b.toBitVec) : a = b := Int64.toBitVec_inj.mp h
theorem wb_tn {n : Nat} (h : n < 2 ^ 64) : (lN n).toBitVec.toNat = n := by rw [wb_tb, BitVec.toNat_ofNat, Nat.mod_eq_of_lt h]
theorem wb_c : ∀ k, k < 64 → ((nI k).toInt64 &&& 63) = lN k := by decide +kernel
theorem wb_sm : ∀ k, k < 64 → (BitVec.ofNat 64 k).smod 64 = BitVec.ofNat 64 k := by decide +kernel
theorem wb_shl (n : Nat) {k : Nat} (hk : k < 64) : lN n <<< ((nI k).toInt64 &&& 63) = lN (n * 2 ^ k) := by
  rw [wb_c k hk]
  apply wb_inj
  rw [Int64.toBitVec_shiftLeft, wb_tb, wb_tb, wb_tb, wb_sm k hk]
  apply BitVec.eq_of_toNat_eq
  rw [BitVec.shiftLeft_eq', BitVec.toNat_shiftLeft, BitVec.toNat_ofNat, BitVec.toNat_ofNat, BitVec.toNat_ofNat, Nat.mod_eq_of_lt (show k < 2 ^ 64 by omega), Nat.shiftLeft_eq, Nat.mul_mod, Nat.mod_mod, ← Nat.mul_mod]
theorem wb_or {a b : Nat} (ha : a < 2 ^ 64) (hb : b < 2 ^ 64) : lN a ||| lN b = lN (a ||| b) := by
  apply wb_inj
  rw [Int64.toBitVec_or, wb_tb, wb_tb, wb_tb]
  apply BitVec.eq_of_toNat_eq
  rw [BitVec.toNat_or, BitVec.toNat_ofNat, BitVec.toNat_ofNat, BitVec.toNat_ofNat, Nat.mod_eq_of_lt ha, Nat.mod_eq_of_lt hb, Nat.mod_eq_of_lt (Nat.or_lt_two_pow ha hb)]
/-! unlike sands: a sand as one number -/
def sp_pk (v : Nat → Int32) : Nat → Nat
  | 0 => 0
  | i + 1 => sp_pk v i * 1024 + (v i).toNatClampNeg
def sp_bd (n : Nat) (v : Nat → Int32) : Prop := (∀ i, i < 6 → ∃ b, b ≤ 1023 ∧ v i = nI b) ∧ ∀ i, n ≤ i → i < 6 → v i = 0
theorem sp_oB.bd {n A Bq : Nat} {v : Nat → Int32} (h : sp_oB n A Bq v) (hA : A ≤ 1023) : sp_bd n v := ⟨fun i hi => by
  obtain ⟨b, h1, h2⟩ := h.1 i hi
  exact ⟨b, by omega, h2⟩, h.2.2⟩
theorem sp_pkS {v : Nat → Int32} {i b : Nat} (h : v i = nI b) (hb : b ≤ 1023) : sp_pk v (i + 1) = sp_pk v i * 1024 + b := by
  show sp_pk v i * 1024 + (v i).toNatClampNeg = _
  rw [h, nI_clamp (by omega)]
theorem sp_pk_lt {n : Nat} {v : Nat → Int32} (h : sp_bd n v) : ∀ i, i ≤ 6 → sp_pk v i < 1024 ^ i
  | 0, _ => by show 0 < 1; omega
  | i + 1, hi => by
    obtain ⟨b, h1, h2⟩ := h.1 i (by omega)
    have ih := sp_pk_lt h i (by omega)
    rw [sp_pkS h2 h1, Nat.pow_succ]
    omega
theorem sp_pk60 {n : Nat} {v : Nat → Int32} (h : sp_bd n v) : sp_pk v 6 < 2 ^ 60 := sp_pk_lt h 6 (by omega)
theorem sp_pk_inj {n : Nat} {u v : Nat → Int32} (hu : sp_bd n u) (hv : sp_bd n v) : ∀ i, i ≤ 6 → sp_pk u i = sp_pk v i → ∀ j, j < i → u j = v j
  | 0, _, _, j, hj => absurd hj (by omega)
  | i + 1, hi, e, j, hj => by
    obtain ⟨b, h1, h2⟩ := hu.1 i (by omega)
    obtain ⟨c, h3, h4⟩ := hv.1 i (by omega)
    rw [sp_pkS h2 h1, sp_pkS h4 h3] at e
    by_cases ej : j = i
    · subst ej; rw [h2, h4, show b = c by omega]
    · exact sp_pk_inj hu hv i (by omega) (by omega) j (by omega)
theorem sp_pk_c {u v : Nat → Int32} : ∀ i, (∀ j, j < i → u j = v j) → sp_pk u i = sp_pk v i
  | 0, _ => rfl
  | i + 1, h => by
    show sp_pk u i * 1024 + _ = sp_pk v i * 1024 + _
    rw [sp_pk_c i (fun j hj => h j (by omega)), h i (by omega)]
theorem sp_pk_n {n : Nat} {u v : Nat → Int32} (hu : sp_bd n u) (hv : sp_bd n v) (h : ∀ j, j < n → u j = v j) : sp_pk u 6 = sp_pk v 6 := sp_pk_c 6 (fun j hj => by
  by_cases e : j < n
  · exact h j e
  · rw [hu.2 j (by omega) hj, hv.2 j (by omega) hj])
theorem sp_pkE {w b : Nat} (hw : w < 2 ^ 50) (hb : b ≤ 1023) : nL w <<< ((nI 10).toInt64 &&& 63) ||| (nI b).toInt64 = nL (w * 1024 + b) := by
  rw [show (nI b).toInt64 = nL b from nL_i (by omega)]
  show lN w <<< ((nI 10).toInt64 &&& 63) ||| lN b = lN (w * 1024 + b)
  rw [wb_shl w (by omega), wb_or (by omega) (by omega)]
  congr 1
  rw [Nat.mul_comm w (2 ^ 10), ← Nat.two_pow_add_eq_or_of_lt (show b < 2 ^ 10 by omega)]
theorem nL_m1 {p : Nat} (h : p < 2 ^ 63) : nL p ≠ -1 := fun e => by
  have := congrArg Int64.toInt e
  rw [nL_toInt h, show (-1 : Int64).toInt = -1 by decide] at this
  omega
def sp_hx (p : Nat) : Int32 := ((((nL p) * (-7046029254386353131)).toUInt64 >>> ((nI 40).toInt64.toUInt64 &&& Int64.toUInt64 63)).toInt64).toInt32
def sp_hs (p : Nat) : Nat := (sp_hx p).toBitVec.toNat % 2 ^ 11
theorem sp_hs_lt (p : Nat) : sp_hs p < 2048 := Nat.mod_lt _ (by decide)
theorem sp_hsE (p : Nat) : ((((nL p) * (-7046029254386353131)).toUInt64 >>> ((nI 40).toInt64.toUInt64 &&& Int64.toUInt64 63)).toInt64).toInt32 &&& nI 2047 = nI (sp_hs p) := pk_and (sp_hx p) 11 (by decide)
theorem sp_a47 {k : Nat} (h : k < 2 ^ 31) : nI k &&& nI 2047 = nI (k % 2048) := pk_andN (by omega) 11 (by decide)
/-! the table -/
def sp_cq (T : Nat → Int64) : Nat → Nat
  | 0 => 0
  | k + 1 => sp_cq T k + (if T k = -1 then 0 else 1)
theorem sp_cq_all {T : Nat → Int64} : ∀ k, (∀ j, j < k → T j ≠ -1) → sp_cq T k = k
  | 0, _ => rfl
  | k + 1, h => by
    show sp_cq T k + (if T k = -1 then 0 else 1) = k + 1
    rw [sp_cq_all k (fun j hj => h j (by omega)), if_neg (h k (by omega))]
theorem sp_cq_fr {T : Nat → Int64} : ∀ k, sp_cq T k < k → ∃ j, j < k ∧ T j = -1
  | 0, h => absurd h (by omega)
  | k + 1, h => by
    by_cases e : T k = -1
    · exact ⟨k, by omega, e⟩
    · have h2 : sp_cq T k + (if T k = -1 then 0 else 1) < k + 1 := h
      rw [if_neg e] at h2
      obtain ⟨j, h3, h4⟩ := sp_cq_fr (T := T) k (by omega)
      exact ⟨j, by omega, h4⟩
def sp_ut (T : Nat → Int64) (s : Nat) (x : Int64) : Nat → Int64 := fun j => if j = s then x else T j
theorem sp_cq_ut {T : Nat → Int64} {s : Nat} {x : Int64} (h : T s = -1) (hx : x ≠ -1) : ∀ k, sp_cq (sp_ut T s x) k = sp_cq T k + (if s < k then 1 else 0)
  | 0 => by rw [if_neg (by omega)]; rfl
  | k + 1 => by
    show sp_cq (sp_ut T s x) k + (if sp_ut T s x k = -1 then 0 else 1) = sp_cq T k + (if T k = -1 then 0 else 1) + _
    rw [sp_cq_ut h hx k]
    by_cases e : k = s
    · subst e
      rw [if_neg (by omega), if_pos (show k < k + 1 by omega), if_pos h, show sp_ut T k x k = x from if_pos rfl, if_neg hx]
    · rw [show sp_ut T s x k = T k from if_neg e]
      by_cases h1 : s < k
      · rw [if_pos h1, if_pos (show s < k + 1 by omega)]; omega
      · rw [if_neg h1, if_neg (show ¬ s < k + 1 by omega)]; omega
def sp_tq (T : Nat → Int64) (l : List Nat) : Prop := (∀ j, j < 2048 → T j = -1 ∨ ∃ p, p ∈ l ∧ T j = nL p) ∧ (∀ p, p ∈ l → p < 2 ^ 60 ∧ ∃ t, t < 2048 ∧ T ((sp_hs p + t) % 2048) = nL p ∧ ∀ t', t' < t → T ((sp_hs p + t') % 2048) ≠ -1) ∧ sp_cq T 2048 = l.length
theorem sp_least {Q : Nat → Prop} (dec : ∀ k, Q k ∨ ¬ Q k) : ∀ m, Q m → ∃ t, t ≤ m ∧ Q t ∧ ∀ t', t' < t → ¬ Q t'
  | 0, h => ⟨0, Nat.le_refl _, h, fun t' ht => absurd ht (by omega)⟩
  | m + 1, h => by
    by_cases e : ∃ k, k ≤ m ∧ Q k
    · obtain ⟨k, h1, h2⟩ := e
      by_cases e2 : k < m + 1
      · have key : ∀ m, Q m → ∃ t, t ≤ m ∧ Q t ∧ ∀ t', t' < t → ¬ Q t' := fun m => by
          induction m using Nat.strongRecOn with
          | ind m ih =>
            intro hm
            by_cases e3 : ∃ k, k < m ∧ Q k
            · obtain ⟨k, a1, a2⟩ := e3
              obtain ⟨t, b1, b2, b3⟩ := ih k a1 a2
              exact ⟨t, by omega, b2, b3⟩
            · exact ⟨m, Nat.le_refl _, hm, fun t' ht q => e3 ⟨t', ht, q⟩⟩
        exact key (m + 1) h
      · omega
    · exact ⟨m + 1, Nat.le_refl _, h, fun t' ht q => e ⟨t', by omega, q⟩⟩
theorem sp_tq.add {T : Nat → Int64} {l : List Nat} {p : Nat} (h : sp_tq T l) (hp : p < 2 ^ 60) (hl : l.length < 2048) : ∃ t, t < 2048 ∧ T ((sp_hs p + t) % 2048) = -1 ∧ (∀ t', t' < t → T ((sp_hs p + t') % 2048) ≠ -1) ∧ sp_tq (sp_ut T ((sp_hs p + t) % 2048) (nL p)) (l ++ [p]) := by
  obtain ⟨h1, h2, h3⟩ := h
  obtain ⟨j0, j1, j2⟩ := sp_cq_fr (T := T) 2048 (by omega)
  have hh := sp_hs_lt p
  obtain ⟨t, a1, a2, a3⟩ := sp_least (Q := fun t => T ((sp_hs p + t) % 2048) = -1) (fun k => Classical.em _) ((j0 + 2048 - sp_hs p) % 2048) (by rw [show (sp_hs p + (j0 + 2048 - sp_hs p) % 2048) % 2048 = j0 by omega]; exact j2)
  have ht : t < 2048 := by omega
  obtain ⟨s, es⟩ : ∃ z, z = (sp_hs p + t) % 2048 := ⟨_, rfl⟩
  have hs : s < 2048 := by omega
  rw [← es] at a2
  have hpm : nL p ≠ -1 := nL_m1 (by omega)
  have ue : ∀ j, T j ≠ -1 → sp_ut T s (nL p) j = T j := fun j hj => if_neg (fun e => hj (by rw [e]; exact a2))
  have un : ∀ j, T j ≠ -1 → sp_ut T s (nL p) j ≠ -1 := fun j hj => by rw [ue j hj]; exact hj
  refine ⟨t, ht, by rw [← es]; exact a2, a3, ?_⟩
  rw [← es]
  refine ⟨fun j hj => ?_, fun q hq => ?_, ?_⟩
  · by_cases e : j = s
    · exact Or.inr ⟨p, by simp, if_pos e⟩
    · rw [show sp_ut T s (nL p) j = T j from if_neg e]
      rcases h1 j hj with h | ⟨q, q1, q2⟩
      · exact Or.inl h
      · exact Or.inr ⟨q, by simp [q1], q2⟩
  · rcases List.mem_append.mp hq with hq | hq
    · obtain ⟨b1, t1, b2, b3, b4⟩ := h2 q hq
      refine ⟨b1, t1, b2, ?_, fun t' ht' => un _ (b4 t' ht')⟩
      rw [ue _ (by rw [b3]; exact nL_m1 (by omega))]
      exact b3
    · have e : q = p := by simpa using hq
      subst e
      refine ⟨hp, t, ht, ?_, fun t' ht' => un _ (a3 t' ht')⟩
      rw [← es]
      exact if_pos rfl
  · rw [sp_cq_ut a2 hpm, if_pos hs, h3]
    simp
set_option maxRecDepth 20000 in
theorem xl_pack {X : sp_X} {dd : Nat} {ac : sp_Ac} {g : sp_G} {s o n : Nat} {v : Nat → Int32} (hs : sp_sd s o) (hv : sp_h8 g s o v) (hbd : sp_bd n v) {Rt : sp_Rt} (kk : sp_Ev X ac 98 32 [.ref 39, .null, .long (nL (sp_pk v 6)), .null, .null, .null] [] g) (hA : sp_Act X 98 dd Rt ac) : ∀ (m : Nat) (i : Nat) (w : Nat), i + m = 6 → w = sp_pk v i → sp_Ev X ac 98 5 [.ref 39, .ref s, .long (nL w), .null, .int (nI i), .null] [] g := by
  intro m
  induction m with
  | zero =>
    intro i w h0_ h1_
    refine sr_iload hA si_98_5 rfl ?_
    refine sr_bipush (v := nI 6) hA si_98_7 (by decide) ?_
    refine sr_icmp_geN (tgt := 32) hA si_98_9 (by decide) (by omega) (by omega) (fun c1 => ?_) (fun c1 => absurd c1 (by omega))
    refine sr_fg (ls1 := [.ref 39, .null, .long (nL w), .null, .null, .null]) ⟨Or.inr rfl, Or.inl rfl, Or.inr rfl, Or.inl rfl, Or.inl rfl, Or.inl rfl, trivial⟩ ?_
    rw [h1_, show i = 6 by omega]
    exact kk
  | succ m ih =>
    intro i w h0_ h1_
    obtain ⟨b, hb, eb⟩ := hbd.1 i (by omega)
    refine sr_iload hA si_98_5 rfl ?_
    refine sr_bipush (v := nI 6) hA si_98_7 (by decide) ?_
    refine sr_icmp_geN (tgt := 32) hA si_98_9 (by decide) (by omega) (by omega) (fun c1 => absurd c1 (by omega)) (fun c1 => ?_)
    refine sr_lload_n hA si_98_12 rfl ?_
    refine sr_bipush (v := nI 10) hA si_98_13 (by decide) ?_
    refine sr_lshl hA si_98_15 ?_
    refine sr_aload_n hA si_98_16 rfl ?_
    refine sr_getR (r := o) hA si_98_17 sf_98_27 (by decide) hs.1 hs.2.1 rfl hs.2.2.1 ?_
    refine sr_iload hA si_98_20 rfl ?_
    refine sr_ialdNv (v := nI b) (n := 6) hA si_98_22 hs.2.2.2.1 hs.2.2.2.2.1 hs.2.2.2.2.2.1 (by omega) (by decide) (by have := hv i (by omega); unfold sp_sv at this; rw [if_pos (by omega)] at this; exact this.trans eb) ?_
    refine sr_i2l hA si_98_23 ?_
    refine sr_lor hA si_98_24 ?_
    rw [sp_pkE (by have := sp_pk_lt hbd i (by omega); have := Nat.pow_le_pow_right (n := 1024) (by omega) (show i ≤ 5 by omega); omega) hb]
    refine sr_lstore_n (ls1 := [.ref 39, .ref s, .long (nL (w * 1024 + b)), .null, .int (nI i), .null]) hA si_98_25 rfl (by rw [sq_l_98]; decide) rfl ?_
    refine sr_iincN (x := i) (y := 1) (ls1 := [.ref 39, .ref s, .long (nL (w * 1024 + b)), .null, .int (nI (i + 1)), .null]) hA si_98_26 rfl rfl (by rw [sq_l_98]; decide) rfl ?_
    refine sr_goto (tgt := 5) hA si_98_29 (by decide) ?_
    exact ih (i + 1) (w * 1024 + b) (by omega) (by rw [sp_pkS eb hb, h1_])
set_option maxRecDepth 20000 in
theorem xl_ad1 {X : sp_X} {dd : Nat} {ac : sp_Ac} {g : sp_G} {p t0 : Nat} (hp : p < 2 ^ 60) (ht0 : t0 < 2048) (e0 : g.2 40 ((sp_hs p + t0) % 2048) = nL p) (hne : ∀ t, t < t0 → g.2 40 ((sp_hs p + t) % 2048) ≠ -1) (hA : sp_Act X 98 dd (sp_Fv g) ac) : ∀ (m : Nat) (i : Nat) (s : Nat), i + m = t0 → s = (sp_hs p + i) % 2048 → sp_Ev X ac 98 50 [.ref 39, .null, .long (nL p), .null, .int (nI s), .int (nI i)] [] g := by
  intro m
  induction m with
  | zero =>
    intro i s h0_ h1_
    have hs48 : s < 2048 := by omega
    refine sr_iload hA si_98_50 rfl ?_
    refine sr_sipush (v := nI 2048) hA si_98_52 (by decide) ?_
    refine sr_icmp_geN (tgt := 120) hA si_98_55 (by decide) (by omega) (by omega) (fun c1 => absurd c1 (by omega)) (fun c1 => ?_)
    refine sr_aload_n hA si_98_58 rfl ?_
    refine sr_getR (r := 40) hA si_98_59 sf_98_11 (by decide) (by decide) rfl rfl rfl ?_
    refine sr_iload hA si_98_62 rfl ?_
    refine sr_laldNv (v := nL p) (n := 2048) hA si_98_64 (by decide) rfl rfl (by omega) (by decide) (by rw [h1_, show i = t0 by omega]; exact e0) ?_
    refine sr_lload_n hA si_98_65 rfl ?_
    refine sr_lcmp hA si_98_66 ?_
    refine sr_if_ne (tgt := 71) hA si_98_67 (by decide) (fun c2 => absurd ((lg_cmp_eq _ _).mpr rfl) c2) (fun c2 => ?_)
    exact sr_vretF hA si_98_70 sq_r_98 rfl
  | succ m ih =>
    intro i s h0_ h1_
    have hs48 : s < 2048 := by omega
    by_cases hps : g.2 40 s = nL p
    · refine sr_iload hA si_98_50 rfl ?_
      refine sr_sipush (v := nI 2048) hA si_98_52 (by decide) ?_
      refine sr_icmp_geN (tgt := 120) hA si_98_55 (by decide) (by omega) (by omega) (fun c1 => absurd c1 (by omega)) (fun c1 => ?_)
      refine sr_aload_n hA si_98_58 rfl ?_
      refine sr_getR (r := 40) hA si_98_59 sf_98_11 (by decide) (by decide) rfl rfl rfl ?_
      refine sr_iload hA si_98_62 rfl ?_
      refine sr_laldNv (v := nL p) (n := 2048) hA si_98_64 (by decide) rfl rfl (by omega) (by decide) hps ?_
      refine sr_lload_n hA si_98_65 rfl ?_
      refine sr_lcmp hA si_98_66 ?_
      refine sr_if_ne (tgt := 71) hA si_98_67 (by decide) (fun c2 => absurd ((lg_cmp_eq _ _).mpr rfl) c2) (fun c2 => ?_)
      exact sr_vretF hA si_98_70 sq_r_98 rfl
    · refine sr_iload hA si_98_50 rfl ?_
      refine sr_sipush (v := nI 2048) hA si_98_52 (by decide) ?_
      refine sr_icmp_geN (tgt := 120) hA si_98_55 (by decide) (by omega) (by omega) (fun c1 => absurd c1 (by omega)) (fun c1 => ?_)
      refine sr_aload_n hA si_98_58 rfl ?_
      refine sr_getR (r := 40) hA si_98_59 sf_98_11 (by decide) (by decide) rfl rfl rfl ?_
      refine sr_iload hA si_98_62 rfl ?_
      refine sr_laldNv (v := g.2 40 s) (n := 2048) hA si_98_64 (by decide) rfl rfl (by omega) (by decide) rfl ?_
      refine sr_lload_n hA si_98_65 rfl ?_
      refine sr_lcmp hA si_98_66 ?_
      refine sr_if_ne (tgt := 71) hA si_98_67 (by decide) (fun c2 => ?_) (fun c2 => absurd ((lg_cmp_eq _ _).mp c2) hps)
      refine sr_aload_n hA si_98_71 rfl ?_
      refine sr_getR (r := 40) hA si_98_72 sf_98_11 (by decide) (by decide) rfl rfl rfl ?_
      refine sr_iload hA si_98_75 rfl ?_
      refine sr_laldNv (v := g.2 40 s) (n := 2048) hA si_98_77 (by decide) rfl rfl (by omega) (by decide) rfl ?_
      refine sr_ldc2 hA si_98_78 sc_98_15 ?_
      refine sr_lcmp hA si_98_81 ?_
      refine sr_if_ne (tgt := 104) hA si_98_82 (by decide) (fun c3 => ?_) (fun c3 => absurd ((lg_cmp_eq _ _).mp c3) (by rw [h1_]; exact hne i (by omega)))
      refine sr_iload hA si_98_104 rfl ?_
      refine sr_iconst (v := nI 1) hA si_98_106 (by decide) ?_
      refine sr_iaddN hA si_98_107 ?_
      refine sr_sipush (v := nI 2047) hA si_98_108 (by decide) ?_
      refine sr_iand hA si_98_111 ?_
      rw [sp_a47 (by omega)]
      refine sr_istore (ls1 := [.ref 39, .null, .long (nL p), .null, .int (nI ((s + 1) % 2048)), .int (nI i)]) hA si_98_112 (by rw [sq_l_98]; decide) rfl ?_
      refine sr_iincN (x := i) (y := 1) (ls1 := [.ref 39, .null, .long (nL p), .null, .int (nI ((s + 1) % 2048)), .int (nI (i + 1))]) hA si_98_114 rfl rfl (by rw [sq_l_98]; decide) rfl ?_
      refine sr_goto (tgt := 50) hA si_98_117 (by decide) ?_
      exact ih (i + 1) ((s + 1) % 2048) (by omega) (by omega)
set_option maxRecDepth 20000 in
theorem xl_ad0 {X : sp_X} {dd : Nat} {ac : sp_Ac} {g : sp_G} {p t0 : Nat} (hp : p < 2 ^ 60) (ht0 : t0 < 2048) {z : Nat} (hz : g.1 39 1 = nI z) (e0 : g.2 40 ((sp_hs p + t0) % 2048) = -1) (hne : ∀ t, t < t0 → g.2 40 ((sp_hs p + t) % 2048) ≠ -1) (hnp : ∀ j, j < 2048 → g.2 40 j ≠ nL p) (hA : sp_Act X 98 dd (sp_Fv (sp_wI (sp_wL g 40 ((sp_hs p + t0) % 2048) (nL p)) 39 1 (nI (z + 1)))) ac) : ∀ (m : Nat) (i : Nat) (s : Nat), i + m = t0 → s = (sp_hs p + i) % 2048 → sp_Ev X ac 98 50 [.ref 39, .null, .long (nL p), .null, .int (nI s), .int (nI i)] [] g := by
  intro m
  induction m with
  | zero =>
    intro i s h0_ h1_
    have hs48 : s < 2048 := by omega
    refine sr_iload hA si_98_50 rfl ?_
    refine sr_sipush (v := nI 2048) hA si_98_52 (by decide) ?_
    refine sr_icmp_geN (tgt := 120) hA si_98_55 (by decide) (by omega) (by omega) (fun c1 => absurd c1 (by omega)) (fun c1 => ?_)
    refine sr_aload_n hA si_98_58 rfl ?_
    refine sr_getR (r := 40) hA si_98_59 sf_98_11 (by decide) (by decide) rfl rfl rfl ?_
    refine sr_iload hA si_98_62 rfl ?_
    refine sr_laldNv (v := (-1)) (n := 2048) hA si_98_64 (by decide) rfl rfl (by omega) (by decide) (by rw [h1_, show i = t0 by omega]; exact e0) ?_
    refine sr_lload_n hA si_98_65 rfl ?_
    refine sr_lcmp hA si_98_66 ?_
    refine sr_if_ne (tgt := 71) hA si_98_67 (by decide) (fun c2 => ?_) (fun c2 => absurd ((lg_cmp_eq _ _).mp c2) (fun e => nL_m1 (by omega) e.symm))
    refine sr_aload_n hA si_98_71 rfl ?_
    refine sr_getR (r := 40) hA si_98_72 sf_98_11 (by decide) (by decide) rfl rfl rfl ?_
    refine sr_iload hA si_98_75 rfl ?_
    refine sr_laldNv (v := (-1)) (n := 2048) hA si_98_77 (by decide) rfl rfl (by omega) (by decide) (by rw [h1_, show i = t0 by omega]; exact e0) ?_
    refine sr_ldc2 hA si_98_78 sc_98_15 ?_
    refine sr_lcmp hA si_98_81 ?_
    refine sr_if_ne (tgt := 104) hA si_98_82 (by decide) (fun c3 => absurd ((lg_cmp_eq _ _).mpr rfl) c3) (fun c3 => ?_)
    refine sr_aload_n hA si_98_85 rfl ?_
    refine sr_getR (r := 40) hA si_98_86 sf_98_11 (by decide) (by decide) rfl rfl rfl ?_
    refine sr_iload hA si_98_89 rfl ?_
    refine sr_lload_n hA si_98_91 rfl ?_
    refine sr_lastN (n := 2048) hA si_98_92 (by decide) rfl rfl (by omega) (by decide) ?_
    refine sr_aload_n hA si_98_93 rfl ?_
    refine sr_dup hA si_98_94 rfl ?_
    refine sr_getIv (v := nI z) hA si_98_95 sf_98_23 (by decide) (by decide) rfl (by decide) hz ?_
    refine sr_iconst (v := nI 1) hA si_98_98 (by decide) ?_
    refine sr_iaddN hA si_98_99 ?_
    refine sr_putI hA si_98_100 sf_98_23 rfl rfl (by decide) (by decide) rfl rfl ?_
    exact sr_vretF hA si_98_103 sq_r_98 (by rw [h1_, show i = t0 by omega])
  | succ m ih =>
    intro i s h0_ h1_
    have hs48 : s < 2048 := by omega
    refine sr_iload hA si_98_50 rfl ?_
    refine sr_sipush (v := nI 2048) hA si_98_52 (by decide) ?_
    refine sr_icmp_geN (tgt := 120) hA si_98_55 (by decide) (by omega) (by omega) (fun c1 => absurd c1 (by omega)) (fun c1 => ?_)
    refine sr_aload_n hA si_98_58 rfl ?_
    refine sr_getR (r := 40) hA si_98_59 sf_98_11 (by decide) (by decide) rfl rfl rfl ?_
    refine sr_iload hA si_98_62 rfl ?_
    refine sr_laldNv (v := g.2 40 s) (n := 2048) hA si_98_64 (by decide) rfl rfl (by omega) (by decide) rfl ?_
    refine sr_lload_n hA si_98_65 rfl ?_
    refine sr_lcmp hA si_98_66 ?_
    refine sr_if_ne (tgt := 71) hA si_98_67 (by decide) (fun c2 => ?_) (fun c2 => absurd ((lg_cmp_eq _ _).mp c2) (hnp s hs48))
    refine sr_aload_n hA si_98_71 rfl ?_
    refine sr_getR (r := 40) hA si_98_72 sf_98_11 (by decide) (by decide) rfl rfl rfl ?_
    refine sr_iload hA si_98_75 rfl ?_
    refine sr_laldNv (v := g.2 40 s) (n := 2048) hA si_98_77 (by decide) rfl rfl (by omega) (by decide) rfl ?_
    refine sr_ldc2 hA si_98_78 sc_98_15 ?_
    refine sr_lcmp hA si_98_81 ?_
    refine sr_if_ne (tgt := 104) hA si_98_82 (by decide) (fun c3 => ?_) (fun c3 => absurd ((lg_cmp_eq _ _).mp c3) (by rw [h1_]; exact hne i (by omega)))
    refine sr_iload hA si_98_104 rfl ?_
    refine sr_iconst (v := nI 1) hA si_98_106 (by decide) ?_
    refine sr_iaddN hA si_98_107 ?_
    refine sr_sipush (v := nI 2047) hA si_98_108 (by decide) ?_
    refine sr_iand hA si_98_111 ?_
    rw [sp_a47 (by omega)]
    refine sr_istore (ls1 := [.ref 39, .null, .long (nL p), .null, .int (nI ((s + 1) % 2048)), .int (nI i)]) hA si_98_112 (by rw [sq_l_98]; decide) rfl ?_
    refine sr_iincN (x := i) (y := 1) (ls1 := [.ref 39, .null, .long (nL p), .null, .int (nI ((s + 1) % 2048)), .int (nI (i + 1))]) hA si_98_114 rfl rfl (by rw [sq_l_98]; decide) rfl ?_
    refine sr_goto (tgt := 50) hA si_98_117 (by decide) ?_
    exact ih (i + 1) ((s + 1) % 2048) (by omega) (by omega)
set_option maxRecDepth 20000 in
theorem xb_ad1 (X : sp_X) (g : sp_G) {s o n : Nat} {v : Nat → Int32} (hs : sp_sd s o) (hv : sp_h8 g s o v) (hbd : sp_bd n v) {t0 : Nat} (ht0 : t0 < 2048) (e0 : g.2 40 ((sp_hs (sp_pk v 6) + t0) % 2048) = nL (sp_pk v 6)) (hne : ∀ t, t < t0 → g.2 40 ((sp_hs (sp_pk v 6) + t) % 2048) ≠ -1) : sp_Ct X 0 98 [.ref 39, .ref s] g (sp_Fv g) := by
  obtain ⟨p, ep⟩ : ∃ z, z = sp_pk v 6 := ⟨_, rfl⟩
  have hp : p < 2 ^ 60 := by rw [ep]; exact sp_pk60 hbd
  have hh := sp_hs_lt p
  rw [← ep] at e0 hne
  refine sp_walkN (n := 6) sq_p_98 sq_l_98 (Nat.le_of_ble_eq_true rfl) (fun ac hA => ?_)
  show sp_Ev X ac 98 0 [.ref 39, .ref s, .null, .null, .null, .null] [] g
  refine sr_lconst (v := 0) hA si_98_0 rfl ?_
  refine sr_lstore_n (ls1 := [.ref 39, .ref s, .long 0, .null, .null, .null]) hA si_98_1 rfl (by rw [sq_l_98]; decide) rfl ?_
  refine sr_iconst (v := nI 0) hA si_98_2 (by decide) ?_
  refine sr_istore (ls1 := [.ref 39, .ref s, .long 0, .null, .int (nI 0), .null]) hA si_98_3 (by rw [sq_l_98]; decide) rfl ?_
  refine xl_pack hs hv hbd ?_ hA 6 0 0 (by omega) rfl
  rw [← ep]
  refine sr_lload_n hA si_98_32 rfl ?_
  refine sr_ldc2 hA si_98_33 sc_98_33 ?_
  refine sr_lmul hA si_98_36 ?_
  refine sr_bipush (v := nI 40) hA si_98_37 (by decide) ?_
  refine sr_lushr hA si_98_39 ?_
  refine sr_l2i hA si_98_40 ?_
  refine sr_sipush (v := nI 2047) hA si_98_41 (by decide) ?_
  refine sr_iand hA si_98_44 ?_
  rw [sp_hsE]
  refine sr_istore (ls1 := [.ref 39, .null, .long (nL p), .null, .int (nI (sp_hs p)), .null]) hA si_98_45 (by rw [sq_l_98]; decide) rfl ?_
  refine sr_iconst (v := nI 0) hA si_98_47 (by decide) ?_
  refine sr_istore (ls1 := [.ref 39, .null, .long (nL p), .null, .int (nI (sp_hs p)), .int (nI 0)]) hA si_98_48 (by rw [sq_l_98]; decide) rfl ?_
  exact xl_ad1 hp ht0 e0 hne hA t0 0 (sp_hs p) (by omega) (by omega)
set_option maxRecDepth 20000 in
theorem xb_ad0 (X : sp_X) (g : sp_G) {s o n : Nat} {v : Nat → Int32} (hs : sp_sd s o) (hv : sp_h8 g s o v) (hbd : sp_bd n v) {t0 : Nat} (ht0 : t0 < 2048) {z : Nat} (hz : g.1 39 1 = nI z) (e0 : g.2 40 ((sp_hs (sp_pk v 6) + t0) % 2048) = -1) (hne : ∀ t, t < t0 → g.2 40 ((sp_hs (sp_pk v 6) + t) % 2048) ≠ -1) (hnp : ∀ j, j < 2048 → g.2 40 j ≠ nL (sp_pk v 6)) : sp_Ct X 0 98 [.ref 39, .ref s] g (sp_Fv (sp_wI (sp_wL g 40 ((sp_hs (sp_pk v 6) + t0) % 2048) (nL (sp_pk v 6))) 39 1 (nI (z + 1)))) := by
  obtain ⟨p, ep⟩ : ∃ z, z = sp_pk v 6 := ⟨_, rfl⟩
  have hp : p < 2 ^ 60 := by rw [ep]; exact sp_pk60 hbd
  have hh := sp_hs_lt p
  rw [← ep] at e0 hne hnp ⊢
  refine sp_walkN (n := 6) sq_p_98 sq_l_98 (Nat.le_of_ble_eq_true rfl) (fun ac hA => ?_)
  show sp_Ev X ac 98 0 [.ref 39, .ref s, .null, .null, .null, .null] [] g
  refine sr_lconst (v := 0) hA si_98_0 rfl ?_
  refine sr_lstore_n (ls1 := [.ref 39, .ref s, .long 0, .null, .null, .null]) hA si_98_1 rfl (by rw [sq_l_98]; decide) rfl ?_
  refine sr_iconst (v := nI 0) hA si_98_2 (by decide) ?_
  refine sr_istore (ls1 := [.ref 39, .ref s, .long 0, .null, .int (nI 0), .null]) hA si_98_3 (by rw [sq_l_98]; decide) rfl ?_
  refine xl_pack hs hv hbd ?_ hA 6 0 0 (by omega) rfl
  rw [← ep]
  refine sr_lload_n hA si_98_32 rfl ?_
  refine sr_ldc2 hA si_98_33 sc_98_33 ?_
  refine sr_lmul hA si_98_36 ?_
  refine sr_bipush (v := nI 40) hA si_98_37 (by decide) ?_
  refine sr_lushr hA si_98_39 ?_
  refine sr_l2i hA si_98_40 ?_
  refine sr_sipush (v := nI 2047) hA si_98_41 (by decide) ?_
  refine sr_iand hA si_98_44 ?_
  rw [sp_hsE]
  refine sr_istore (ls1 := [.ref 39, .null, .long (nL p), .null, .int (nI (sp_hs p)), .null]) hA si_98_45 (by rw [sq_l_98]; decide) rfl ?_
  refine sr_iconst (v := nI 0) hA si_98_47 (by decide) ?_
  refine sr_istore (ls1 := [.ref 39, .null, .long (nL p), .null, .int (nI (sp_hs p)), .int (nI 0)]) hA si_98_48 (by rw [sq_l_98]; decide) rfl ?_
  exact xl_ad0 hp ht0 hz e0 hne hnp hA t0 0 (sp_hs p) (by omega) (by omega)
/-! the sands so far -/
abbrev sp_Rs : Type := Nat × List (Nat → Int32)
def sp_lr (n : Nat) (_ : Nat) (v : Nat → Int32) (_ : Nat → Nat) (s : sp_Rs) : sp_Rs := (s.1 + 1, if ∃ u, u ∈ s.2 ∧ ∀ j, j < n → u j = v j then s.2 else s.2 ++ [v])
theorem sp_lr_le {n : Nat} (d : Nat) (v : Nat → Int32) (w : Nat → Nat) (s : sp_Rs) : (sp_lr n d v w s).2.length ≤ s.2.length + 1 := by
  show (if _ then s.2 else s.2 ++ [v]).length ≤ _
  split
  · omega
  · simp
theorem sp_lr_le1 {n : Nat} (d : Nat) (v : Nat → Int32) (w : Nat → Nat) (s : sp_Rs) : (sp_lr n d v w s).1 ≤ s.1 + 1 := Nat.le_refl _
def sp_qs (n : Nat) (g : sp_G) (l : List (Nat → Int32)) : Prop := g.1 39 1 = nI l.length ∧ (∀ u, u ∈ l → sp_bd n u) ∧ sp_tq (g.2 40) (l.map (fun u => sp_pk u 6))
theorem sp_qs.eq {n : Nat} {g g1 : sp_G} {l : List (Nat → Int32)} (h : sp_qs n g l) (h1 : g1.1 39 = g.1 39) (h2 : g1.2 = g.2) : sp_qs n g1 l := ⟨by rw [h1]; exact h.1, h.2.1, by rw [h2]; exact h.2.2⟩
theorem sp_qs.stp {n d i : Nat} {g g1 : sp_G} {l : List (Nat → Int32)} {u : Nat → Int32} {p : Int32} (h : sp_qs n g l) (k : sp_stp d g g1 i u p) (hd : d < 6) : sp_qs n g1 l := h.eq (k.1 39 (by omega) (by omega) (by omega)) k.2.1
def sp_sx9 (g g' : sp_G) : Prop := (∀ c, c ≠ 39 → g'.1 c = g.1 c) ∧ ∀ c, c ≠ 40 → g'.2 c = g.2 c
theorem xb_ad (X : sp_X) (g : sp_G) {s o n d : Nat} {v : Nat → Int32} {w : Nat → Nat} {st : sp_Rs} (hs : sp_sd s o) (hv : sp_h8 g s o v) (hbd : sp_bd n v) (hn : n ≤ 6) (hq : sp_qs n g st.2) (hl : st.2.length < 2048) : sp_Ct X 0 98 [.ref 39, .ref s] g (sp_Rv (fun g' => sp_sx9 g g' ∧ sp_qs n g' (sp_lr n d v w st).2)) := by
  obtain ⟨h1, h2, h3⟩ := hq
  by_cases hex : ∃ u, u ∈ st.2 ∧ ∀ j, j < n → u j = v j
  · have e : (sp_lr n d v w st).2 = st.2 := if_pos hex
    rw [e]
    obtain ⟨u, u1, u2⟩ := hex
    have ep := sp_pk_n (h2 u u1) hbd u2
    obtain ⟨a1, t, a2, a3, a4⟩ := h3.2.1 (sp_pk u 6) (List.mem_map.mpr ⟨u, u1, rfl⟩)
    rw [ep] at a3 a4
    exact (xb_ad1 X g hs hv hbd a2 a3 a4).V ⟨⟨fun _ _ => rfl, fun _ _ => rfl⟩, h1, h2, h3⟩
  · have e : (sp_lr n d v w st).2 = st.2 ++ [v] := if_neg hex
    rw [e]
    have hnp : ∀ j, j < 2048 → g.2 40 j ≠ nL (sp_pk v 6) := fun j hj ej => by
      rcases h3.1 j hj with h | ⟨p, p1, p2⟩
      · rw [h] at ej; exact nL_m1 (Nat.lt_trans (sp_pk60 hbd) (by decide)) ej.symm
      · obtain ⟨u, u1, u2⟩ := List.mem_map.mp p1
        have hub := h2 u u1
        rw [← u2] at p2
        have := nL_inj (Nat.lt_trans (sp_pk60 hub) (by decide)) (Nat.lt_trans (sp_pk60 hbd) (by decide)) (p2.symm.trans ej)
        exact hex ⟨u, u1, fun k hk => sp_pk_inj hub hbd 6 (by omega) this k (by omega)⟩
    obtain ⟨t, a1, a2, a3, a4⟩ := h3.add (sp_pk60 hbd) (by rw [List.length_map]; exact hl)
    refine (xb_ad0 X g hs hv hbd a1 h1 a2 a3 hnp).V ⟨⟨fun c hc => sp_wI_ne hc, fun c hc => sp_wL_ne hc⟩, ?_, ?_, ?_⟩
    · rw [List.length_append]; rfl
    · intro u hu
      rcases List.mem_append.mp hu with hu | hu
      · exact h2 u hu
      · rw [show u = v by simpa using hu]; exact hbd
    · have e40 : (sp_wI (sp_wL g 40 ((sp_hs (sp_pk v 6) + t) % 2048) (nL (sp_pk v 6))) 39 1 (nI (st.2.length + 1))).2 40 = sp_ut (g.2 40) ((sp_hs (sp_pk v 6) + t) % 2048) (nL (sp_pk v 6)) := by
        funext j
        show (if 40 = 40 ∧ j = _ then _ else _) = (if j = _ then _ else _)
        simp
      rw [e40, List.map_append]
      exact a4
set_option maxRecDepth 20000 in
theorem xl_fillJ {X : sp_X} {dd : Nat} {ac : sp_Ac} {g : sp_G} {x : Int64} (hA : sp_Act X 96 dd (sp_Rv (fun g' => g'.1 = g.1 ∧ (∀ c, c ≠ 40 → g'.2 c = g.2 c) ∧ ∀ j, j < 2048 → g'.2 40 j = x)) ac) : ∀ (m : Nat) (i : Nat) (gg : sp_G), i + m = 2048 → gg.1 = g.1 → (∀ c, c ≠ 40 → gg.2 c = g.2 c) → (∀ j, j < i → gg.2 40 j = x) → sp_Ev X ac 96 6 [.ref 40, .long x, .null, .int (nI i), .int (nI 2048)] [] gg := by
  intro m
  induction m with
  | zero =>
    intro i gg h0_ h1_ h2_ h3_
    refine sr_iload_n hA si_96_6 rfl ?_
    refine sr_iload hA si_96_7 rfl ?_
    refine sr_icmp_geN (tgt := 22) hA si_96_9 (by decide) (by omega) (by omega) (fun c1 => ?_) (fun c1 => absurd c1 (by omega))
    exact sr_vretR hA si_96_22 sq_r_96 ⟨h1_, h2_, fun j hj => h3_ j (by omega)⟩
  | succ m ih =>
    intro i gg h0_ h1_ h2_ h3_
    refine sr_iload_n hA si_96_6 rfl ?_
    refine sr_iload hA si_96_7 rfl ?_
    refine sr_icmp_geN (tgt := 22) hA si_96_9 (by decide) (by omega) (by omega) (fun c1 => absurd c1 (by omega)) (fun c1 => ?_)
    refine sr_aload_n hA si_96_12 rfl ?_
    refine sr_iload_n hA si_96_13 rfl ?_
    refine sr_lload_n hA si_96_14 rfl ?_
    refine sr_lastN (n := 2048) hA si_96_15 (by decide) rfl rfl (by omega) (by decide) ?_
    refine sr_iincN (x := i) (y := 1) (ls1 := [.ref 40, .long x, .null, .int (nI (i + 1)), .int (nI 2048)]) hA si_96_16 rfl rfl (by rw [sq_l_96]; decide) rfl ?_
    refine sr_goto (tgt := 6) hA si_96_19 (by decide) ?_
    exact ih (i + 1) _ (by omega) h1_ (fun c hc => (sp_wL_ne hc).trans (h2_ c hc)) (fun j hj => by
      show (if 40 = 40 ∧ j = i then x else gg.2 40 j) = x
      by_cases e : j = i
      · rw [if_pos ⟨rfl, e⟩]
      · rw [if_neg (fun q => e q.2)]; exact h3_ j (by omega))
set_option maxRecDepth 20000 in
theorem xb_fillJ (X : sp_X) (g : sp_G) (x : Int64) : sp_Ct X 0 96 [.ref 40, .long x] g (sp_Rv (fun g' => g'.1 = g.1 ∧ (∀ c, c ≠ 40 → g'.2 c = g.2 c) ∧ ∀ j, j < 2048 → g'.2 40 j = x)) := by
  refine sp_walkN (n := 5) sq_p_96 sq_l_96 (Nat.le_of_ble_eq_true rfl) (fun ac hA => ?_)
  show sp_Ev X ac 96 0 [.ref 40, .long x, .null, .null, .null] [] g
  refine sr_iconst (v := nI 0) hA si_96_0 (by decide) ?_
  refine sr_istore_n (ls1 := [.ref 40, .long x, .null, .int (nI 0), .null]) hA si_96_1 rfl (by rw [sq_l_96]; decide) rfl ?_
  refine sr_aload_n hA si_96_2 rfl ?_
  refine sr_alen (v := nI 2048) hA si_96_3 (by decide) (by decide) rfl ?_
  refine sr_istore (ls1 := [.ref 40, .long x, .null, .int (nI 0), .int (nI 2048)]) hA si_96_4 (by rw [sq_l_96]; decide) rfl ?_
  exact xl_fillJ hA 2048 0 g (by omega) rfl (fun _ _ => rfl) (fun j hj => absurd hj (by omega))
theorem sp_qs0 {n : Nat} {g g1 : sp_G} (q1 : g1.1 = g.1 ∧ (∀ c, c ≠ 40 → g1.2 c = g.2 c) ∧ ∀ j, j < 2048 → g1.2 40 j = -1) : sp_sx9 g (sp_wI g1 39 1 (nI 0)) ∧ sp_qs n (sp_wI g1 39 1 (nI 0)) [] := by
  refine ⟨⟨fun c hc => by rw [sp_wI_ne hc, q1.1], q1.2.1⟩, rfl, fun u hu => (by cases hu), fun j hj => Or.inl (q1.2.2 j hj), fun p hp => (by cases hp), ?_⟩
  have key : ∀ k, k ≤ 2048 → sp_cq (g1.2 40) k = 0 := fun k => by
    induction k with
    | zero => intro _; rfl
    | succ k ih =>
      intro hk
      show sp_cq (g1.2 40) k + (if g1.2 40 k = -1 then 0 else 1) = 0
      rw [ih (by omega), if_pos (q1.2.2 k (by omega))]
  exact key 2048 (Nat.le_refl _)
set_option maxRecDepth 20000 in
theorem xb_clr (X : sp_X) (g : sp_G) (n : Nat) : sp_Ct X 1 95 [.ref 39] g (sp_Rv (fun g' => sp_sx9 g g' ∧ sp_qs n g' [])) := by
  refine sp_walkN (n := 1) sq_p_95 sq_l_95 (Nat.le_of_ble_eq_true rfl) (fun ac hA => ?_)
  show sp_Ev X ac 95 0 [.ref 39] [] g
  refine sr_aload_n hA si_95_0 rfl ?_
  refine sr_getR (r := 40) hA si_95_1 sf_95_11 (by decide) (by decide) rfl rfl rfl ?_
  refine sr_ldc2 hA si_95_4 sc_95_15 ?_
  refine sr_SRv (as := [.ref 40, .long (-1)]) (st := []) hA si_95_7 ss_96 sk_95_17 (xb_fillJ X g (-1)) (by omega) rfl rfl (Nat.le_of_ble_eq_true rfl) (fun g1 q1 => ?_)
  refine sr_aload_n hA si_95_10 rfl ?_
  refine sr_iconst (v := nI 0) hA si_95_11 (by decide) ?_
  refine sr_putI hA si_95_12 sf_95_23 rfl rfl (by decide) (by decide) rfl rfl ?_
  exact sr_vretR hA si_95_15 sq_r_95 (sp_qs0 q1)
set_option maxRecDepth 20000 in
theorem xb_coA (X : sp_X) (g : sp_G) {d n : Nat} {K T P v : Nat → Int32} {w : Nat → Nat} {s : sp_Rs} (hd : d ≤ 4) (hK : sp_KX n K T P g) (hv : sp_h8 g (23 + d) (30 + d) v) (hbd : sp_bd n v) (hq : sp_qs n g s.2) (hl : s.2.length < 2048) : sp_Ct X 5 97 [.ref 17, .int (nI d), .int (nI 0)] g (sp_Ri (fun x g' => x = nI 1 ∧ sp_sx9 g g' ∧ sp_qs n g' (sp_lr n d v w s).2)) := by
  have hn6 := hK.2.1
  refine sp_walkN (n := 5) sq_p_97 sq_l_97 (Nat.le_of_ble_eq_true rfl) (fun a hA => ?_)
  show sp_Ev X a 97 0 [.ref 17, .int (nI d), .int (nI 0), .null, .null] [] g
  refine sr_iload_n hA si_97_0 rfl ?_
  refine sr_if_neN (tgt := 19) hA si_97_1 (by decide) (by omega) (fun c1 => absurd c1 (by omega)) (fun c1 => ?_)
  refine sr_aload_n hA si_97_4 rfl ?_
  refine sr_getR (r := 39) hA si_97_5 sf_97_34 (by decide) (by decide) rfl rfl rfl ?_
  refine sr_aload_n hA si_97_8 rfl ?_
  refine sr_getR (r := 22) hA si_97_9 sf_97_20 (by decide) (by decide) rfl rfl rfl ?_
  refine sr_iload_n hA si_97_12 rfl ?_
  refine sr_aaldN (r := (23 + d)) (n := 7) hA si_97_13 (by decide) (by decide) rfl (by omega) (by decide) (sp_bhr (by omega)) ?_
  refine sr_VRv (c := 39) (ci := 3) (as := [.ref (23 + d)]) (st := []) hA si_97_14 sv_98 sk_97_130 (xb_ad X g (s := 23 + d) (o := 30 + d) (d := d) (w := w) (st := s) (sp_bh (by omega)) hv hbd hn6 hq hl) (by omega) rfl (by decide) (by decide) rfl sq_c_98 rfl (Nat.le_of_ble_eq_true rfl) (fun g1 q1 => ?_)
  refine sr_iconst (v := nI 1) hA si_97_17 (by decide) ?_
  exact sr_iretR hA si_97_18 sq_r_97 ⟨rfl, q1⟩
set_option maxRecDepth 20000 in
theorem xl_co {X : sp_X} {ac : sp_Ac} {g : sp_G} {n d m A Bq : Nat} {K T P v : Nat → Int32} {w : Nat → Nat} {s : sp_Rs} (hd : d + (m + 1) ≤ 4) (hK : sp_KX n K T P g) (hv : sp_h8 g (23 + d) (30 + d) v) (hB : sp_oB n A Bq v) (hAb : A < 2 ^ 20) (hBb : Bq < 2 ^ 20) (hs : s.2.length + 6 ^ (m + 1) ≤ 2000) (IH : ∀ (v : Nat → Int32) (w : Nat → Nat) (g : sp_G) (s : sp_Rs), sp_KX n K T P g → sp_h8 g (23 + (d + 1)) (30 + (d + 1)) v → sp_oB n (A + 2) (Bq + 2) v → sp_qs n g s.2 → s.2.length + 6 ^ m ≤ 2000 → sp_Ct X (m + 5) 97 [.ref 17, .int (nI (d + 1)), .int (nI m)] g (sp_Ri (fun x g' => (∃ k, x = nI k ∧ (sp_go n K T P (sp_lr n) m (d + 1) v w s).1 = s.1 + k) ∧ sp_lvx (d + 1) g g' ∧ sp_qs n g' (sp_go n K T P (sp_lr n) m (d + 1) v w s).2))) (hA : sp_Act X 97 (m + 6) (sp_Ri (fun x g' => (∃ k, x = nI k ∧ (sp_go n K T P (sp_lr n) (m + 1) d v w s).1 = s.1 + k) ∧ sp_lvx d g g' ∧ sp_qs n g' (sp_go n K T P (sp_lr n) (m + 1) d v w s).2)) ac) : ∀ (k : Nat) (i : Nat) (gg : sp_G) (ak : Nat), i + k = n → sp_lvx d g gg → sp_qs n gg (sp_gs n K T P (sp_lr n) m d v w s i).2 → (sp_gs n K T P (sp_lr n) m d v w s i).1 = s.1 + ak → sp_Ev X ac 97 24 [.ref 17, .int (nI d), .int (nI (m + 1)), .int (nI ak), .int (nI i)] [] gg := by
  intro k
  induction k with
  | zero =>
    intro i gg ak h0_ h1_ h2_ h3_
    have hn6 := hK.2.1
    refine sr_iload hA si_97_24 rfl ?_
    refine sr_aload_n hA si_97_26 rfl ?_
    refine sr_getR (r := 18) hA si_97_27 sf_97_12 (by decide) (by decide) rfl rfl rfl ?_
    refine sr_getIv (v := nI n) hA si_97_30 sf_97_96 (by decide) (by decide) rfl (by decide) (hK.xa h1_.xa).1 ?_
    refine sr_icmp_geN (tgt := 65) hA si_97_33 (by decide) (by omega) (by omega) (fun c1 => ?_) (fun c1 => absurd c1 (by omega))
    refine sr_iload_n hA si_97_65 rfl ?_
    exact sr_iretR hA si_97_66 sq_r_97 ⟨⟨ak, rfl, by rw [← h3_, show i = n by omega]; rfl⟩, h1_, by rw [show i = n by omega] at h2_; exact h2_⟩
  | succ k ih =>
    intro i gg ak h0_ h1_ h2_ h3_
    have hn6 := hK.2.1
    refine sr_iload hA si_97_24 rfl ?_
    refine sr_aload_n hA si_97_26 rfl ?_
    refine sr_getR (r := 18) hA si_97_27 sf_97_12 (by decide) (by decide) rfl rfl rfl ?_
    refine sr_getIv (v := nI n) hA si_97_30 sf_97_96 (by decide) (by decide) rfl (by decide) (hK.xa h1_.xa).1 ?_
    refine sr_icmp_geN (tgt := 65) hA si_97_33 (by decide) (by omega) (by omega) (fun c1 => absurd c1 (by omega)) (fun c1 => ?_)
    refine sr_aload_n hA si_97_36 rfl ?_
    refine sr_iload_n hA si_97_37 rfl ?_
    refine sr_iload hA si_97_38 rfl ?_
    by_cases hcb : sp_cb (K i) (T i) (v i) = true
    · refine sr_VRi (c := 17) (ci := 4) (as := [.int (nI d), .int (nI i)]) (st := []) hA si_97_40 sv_88 sk_97_107 (xb_step1 X gg (d := d) (i := i) (by omega) (hK.xa h1_.xa) (by omega) (hv.dx h1_ (by omega)) hB (by omega) hcb) (by omega) rfl (by decide) (by decide) rfl sq_c_88 rfl (Nat.le_of_ble_eq_true rfl) (fun xs g1 qs => ?_)
      obtain ⟨exs, qs⟩ := qs
      subst exs
      have hl1 := h1_.tr (qs.dx (by omega))
      refine sr_if_eqN (tgt := 59) hA si_97_43 (by decide) (by omega) (fun c2 => absurd c2 (by omega)) (fun c2 => ?_)
      refine sr_iload_n hA si_97_46 rfl ?_
      refine sr_aload_n hA si_97_47 rfl ?_
      refine sr_iload_n hA si_97_48 rfl ?_
      refine sr_iconst (v := nI 1) hA si_97_49 (by decide) ?_
      refine sr_iaddN hA si_97_50 ?_
      refine sr_iload_n hA si_97_51 rfl ?_
      refine sr_iconst (v := nI 1) hA si_97_52 (by decide) ?_
      refine sr_isubN hA si_97_53 (by omega) ?_
      rw [show m + 1 - 1 = m by omega]
      refine sr_VRi (c := 17) (ci := 4) (as := [.int (nI (d + 1)), .int (nI m)]) (st := [.int (nI ak)]) hA si_97_54 sv_97 sk_97_126 (IH (sp_pl n K P v i) (sp_un w d i) g1 (sp_gs n K T P (sp_lr n) m d v w s i) (hK.xa hl1.xa) qs.2.2.2.2.1 (sp_oB.pl hB hn6 (by omega) (by omega) (by omega)) (h2_.stp qs (by omega)) (by have := sp_gs_le (K := K) (T := T) (P := P) (c := fun s : sp_Rs => s.2.length) (v := v) (w := w) (s := s) (m := m) (d := d) hn6 (sp_lr_le (n := n)) (show i < n by omega); omega)) (by omega) rfl (by decide) (by decide) rfl sq_c_97 rfl (Nat.le_of_ble_eq_true rfl) (fun xv g2 q2 => ?_)
      obtain ⟨⟨k2, exv, hk2⟩, hl2, hr2⟩ := q2
      subst exv
      refine sr_iaddN hA si_97_57 ?_
      refine sr_istore_n (ls1 := [.ref 17, .int (nI d), .int (nI (m + 1)), .int (nI (ak + k2)), .int (nI i)]) hA si_97_58 rfl (by rw [sq_l_97]; decide) rfl ?_
      refine sr_iincN (x := i) (y := 1) (ls1 := [.ref 17, .int (nI d), .int (nI (m + 1)), .int (nI (ak + k2)), .int (nI (i + 1))]) hA si_97_59 rfl rfl (by rw [sq_l_97]; decide) rfl ?_
      refine sr_goto (tgt := 24) hA si_97_62 (by decide) ?_
      exact ih (i + 1) g2 (ak + k2) (by omega) (hl1.tr (hl2.lo (by omega))) (by rw [sp_gs1 hcb]; exact hr2) (by rw [sp_gs1 hcb, hk2, h3_]; omega)
    · refine sr_VFi (c := 17) (ci := 4) (as := [.int (nI d), .int (nI i)]) (st := []) hA si_97_40 sv_88 sk_97_107 (xb_step0 X gg (d := d) (i := i) (by omega) (hK.xa h1_.xa) (by omega) (hv.dx h1_ (by omega)) hcb) (by omega) rfl (by decide) (by decide) rfl sq_c_88 rfl (Nat.le_of_ble_eq_true rfl) ?_
      refine sr_if_eqN (tgt := 59) hA si_97_43 (by decide) (by omega) (fun c3 => ?_) (fun c3 => absurd c3 (by omega))
      refine sr_iincN (x := i) (y := 1) (ls1 := [.ref 17, .int (nI d), .int (nI (m + 1)), .int (nI ak), .int (nI (i + 1))]) hA si_97_59 rfl rfl (by rw [sq_l_97]; decide) rfl ?_
      refine sr_goto (tgt := 24) hA si_97_62 (by decide) ?_
      exact ih (i + 1) gg ak (by omega) h1_ (by rw [sp_gs0 hcb]; exact h2_) (by rw [sp_gs0 hcb]; exact h3_)
set_option maxRecDepth 20000 in
theorem xb_coS {X : sp_X} {g : sp_G} {n d m A Bq : Nat} {K T P v : Nat → Int32} {w : Nat → Nat} {s : sp_Rs} (hd : d + (m + 1) ≤ 4) (hK : sp_KX n K T P g) (hv : sp_h8 g (23 + d) (30 + d) v) (hB : sp_oB n A Bq v) (hAb : A < 2 ^ 20) (hBb : Bq < 2 ^ 20) (hs : s.2.length + 6 ^ (m + 1) ≤ 2000) (hq0 : sp_qs n g s.2) (IH : ∀ (v : Nat → Int32) (w : Nat → Nat) (g : sp_G) (s : sp_Rs), sp_KX n K T P g → sp_h8 g (23 + (d + 1)) (30 + (d + 1)) v → sp_oB n (A + 2) (Bq + 2) v → sp_qs n g s.2 → s.2.length + 6 ^ m ≤ 2000 → sp_Ct X (m + 5) 97 [.ref 17, .int (nI (d + 1)), .int (nI m)] g (sp_Ri (fun x g' => (∃ k, x = nI k ∧ (sp_go n K T P (sp_lr n) m (d + 1) v w s).1 = s.1 + k) ∧ sp_lvx (d + 1) g g' ∧ sp_qs n g' (sp_go n K T P (sp_lr n) m (d + 1) v w s).2))) : sp_Ct X (m + 6) 97 [.ref 17, .int (nI d), .int (nI (m + 1))] g (sp_Ri (fun x g' => (∃ k, x = nI k ∧ (sp_go n K T P (sp_lr n) (m + 1) d v w s).1 = s.1 + k) ∧ sp_lvx d g g' ∧ sp_qs n g' (sp_go n K T P (sp_lr n) (m + 1) d v w s).2)) := by
  have hn6 := hK.2.1
  refine sp_walkN (n := 5) sq_p_97 sq_l_97 (Nat.le_of_ble_eq_true rfl) (fun ac hA => ?_)
  show sp_Ev X ac 97 0 [.ref 17, .int (nI d), .int (nI (m + 1)), .null, .null] [] g
  refine sr_iload_n hA si_97_0 rfl ?_
  refine sr_if_neN (tgt := 19) hA si_97_1 (by decide) (by omega) (fun c1 => ?_) (fun c1 => absurd c1 (by omega))
  refine sr_iconst (v := nI 0) hA si_97_19 (by decide) ?_
  refine sr_istore_n (ls1 := [.ref 17, .int (nI d), .int (nI (m + 1)), .int (nI 0), .null]) hA si_97_20 rfl (by rw [sq_l_97]; decide) rfl ?_
  refine sr_iconst (v := nI 0) hA si_97_21 (by decide) ?_
  refine sr_istore (ls1 := [.ref 17, .int (nI d), .int (nI (m + 1)), .int (nI 0), .int (nI 0)]) hA si_97_22 (by rw [sq_l_97]; decide) rfl ?_
  exact xl_co hd hK hv hB hAb hBb hs IH hA n 0 g 0 (by omega) sp_lvx.rf hq0 rfl
theorem sp_sx9.dx {d : Nat} {g g1 : sp_G} (h : sp_sx9 g g1) (hd : d ≤ 6) : sp_lvx d g g1 := ⟨fun c hc => h.1 c (by omega), fun j _ => by rw [h.1 37 (by decide)], h.2⟩
theorem xb_co (X : sp_X) {n : Nat} {K T P : Nat → Int32} : ∀ (m d A Bq : Nat) (v : Nat → Int32) (w : Nat → Nat) (g : sp_G) (s : sp_Rs), d + m ≤ 4 → A + 2 * m ≤ 1023 → Bq + 2 * m < 2 ^ 20 → sp_KX n K T P g → sp_h8 g (23 + d) (30 + d) v → sp_oB n A Bq v → sp_qs n g s.2 → s.2.length + 6 ^ m ≤ 2000 → sp_Ct X (m + 5) 97 [.ref 17, .int (nI d), .int (nI m)] g (sp_Ri (fun x g' => (∃ k, x = nI k ∧ (sp_go n K T P (sp_lr n) m d v w s).1 = s.1 + k) ∧ sp_lvx d g g' ∧ sp_qs n g' (sp_go n K T P (sp_lr n) m d v w s).2))
  | 0, d, A, Bq, v, w, g, s, hd, hA, hB, hK, hv, hO, hq0, hl => by
    refine (xb_coA X g (w := w) (s := s) (by omega) hK hv (hO.bd (by omega)) hq0 (by omega)).mono (fun r g' q1 => ?_)
    obtain ⟨x, e1, e2, e3, e4⟩ := q1
    exact ⟨x, e1, ⟨1, e2, rfl⟩, e3.dx (by omega), e4⟩
  | m + 1, d, A, Bq, v, w, g, s, hd, hA, hB, hK, hv, hO, hq0, hl => xb_coS hd hK hv hO (by omega) (by omega) hl hq0 (fun v' w' g' s' a1 a2 a3 a4 a5 => xb_co X m (d + 1) (A + 2) (Bq + 2) v' w' g' s' (by omega) (by omega) (by omega) a1 a2 a3 a4 a5)
set_option maxRecDepth 20000 in
theorem xb_cw (X : sp_X) (g : sp_G) {n q A Bq : Nat} {K T P v : Nat → Int32} (hq4 : q ≤ 4) (hK : sp_KX n K T P g) (hv : sp_h8 g 41 42 v) (hB : sp_oB n A Bq v) (hAb : A ≤ 1000) (hBb : Bq < 2 ^ 19) : sp_Ct X (q + 6) 94 [.ref 17, .ref 41, .int (nI q)] g (sp_Ri (fun x g' => x = nI (sp_go n K T P (sp_lr n) q 0 v (fun _ => 0) (0, [])).1 ∧ sp_xa g g' ∧ sp_qs n g' (sp_go n K T P (sp_lr n) q 0 v (fun _ => 0) (0, [])).2)) := by
  have hq6 : 0 + 6 ^ q ≤ 2000 := by
    have := Nat.pow_le_pow_right (n := 6) (by omega) hq4
    omega
  refine sp_walkN (n := 3) sq_p_94 sq_l_94 (Nat.le_of_ble_eq_true rfl) (fun ac hA => ?_)
  show sp_Ev X ac 94 0 [.ref 17, .ref 41, .int (nI q)] [] g
  refine sr_aload_n hA si_94_0 rfl ?_
  refine sr_aload_n hA si_94_1 rfl ?_
  refine sr_VRv (c := 17) (ci := 4) (as := [.ref 41]) (st := []) hA si_94_2 sv_78 sk_94_77 (xb_begin X g sp_sd41 (by unfold sp_ap; omega) hv) (by omega) rfl (by decide) (by decide) rfl sq_c_78 rfl (Nat.le_of_ble_eq_true rfl) (fun g1 q1 => ?_)
  refine sr_aload_n hA si_94_5 rfl ?_
  refine sr_getR (r := 39) hA si_94_6 sf_94_34 (by decide) (by decide) rfl rfl rfl ?_
  refine sr_VRv (c := 39) (ci := 3) (as := []) (st := []) hA si_94_9 sv_95 sk_94_123 (xb_clr X g1 n) (by omega) rfl (by decide) (by decide) rfl sq_c_95 rfl (Nat.le_of_ble_eq_true rfl) (fun g2 q2 => ?_)
  have ax2 := q1.xa.tr (q2.1.dx (d := 0) (by omega)).xa
  refine sr_aload_n hA si_94_12 rfl ?_
  refine sr_iconst (v := nI 0) hA si_94_13 (by decide) ?_
  refine sr_iload_n hA si_94_14 rfl ?_
  refine sr_VRi (c := 17) (ci := 4) (as := [.int (nI 0), .int (nI q)]) (st := []) hA si_94_15 sv_97 sk_94_126 (xb_co X q 0 A Bq v (fun _ => 0) g2 (0, []) (by omega) (by omega) (by omega) (hK.xa ax2) (sp_h8.dx (d := 0) q1.2.2.1 (q2.1.dx (by omega)) (by omega)) hB q2.2 hq6) (by omega) rfl (by decide) (by decide) rfl sq_c_97 rfl (Nat.le_of_ble_eq_true rfl) (fun xv g3 q3 => ?_)
  obtain ⟨⟨k2, exv, hk2⟩, hl2, hr2⟩ := q3
  subst exv
  exact sr_iretR hA si_94_18 sq_r_94 ⟨by rw [hk2]; show nI k2 = nI (0 + k2); rw [Nat.zero_add], ax2.tr hl2.xa, hr2⟩
set_option maxRecDepth 20000 in
theorem xb_us (X : sp_X) (g : sp_G) {z : Nat} (hz : g.1 39 1 = nI z) : sp_Ct X 0 99 [.ref 17] g (sp_Fi (nI z) g) := by
  refine sp_walkN (n := 1) sq_p_99 sq_l_99 (Nat.le_of_ble_eq_true rfl) (fun ac hA => ?_)
  show sp_Ev X ac 99 0 [.ref 17] [] g
  refine sr_aload_n hA si_99_0 rfl ?_
  refine sr_getR (r := 39) hA si_99_1 sf_99_34 (by decide) (by decide) rfl rfl rfl ?_
  refine sr_getIv (v := nI z) hA si_99_4 sf_99_129 (by decide) (by decide) rfl (by decide) hz ?_
  exact sr_iretF hA si_99_7 sq_r_99 rfl rfl
set_option maxRecDepth 20000 in
theorem xc_rows_a (X : sp_X) (g : sp_G) {q : Int32} (hq : q < 0) : sp_Ct X 9 93 [.ref 0, .int q] g (sp_Fi (-1) g) := by
  refine sp_walkN (n := 3) sq_p_93 sq_l_93 (Nat.le_of_ble_eq_true rfl) (fun a hA => ?_)
  show sp_Ev X a 93 0 [.ref 0, .int q, .null] [] g
  refine sr_iload_n hA si_93_0 rfl ?_
  refine sr_if_lt (tgt := 9) hA si_93_1 (by decide) (fun c1 => ?_) (fun c1 => absurd hq c1)
  refine sr_iconst (v := (-1)) hA si_93_9 (by decide) ?_
  exact sr_iretF hA si_93_10 sq_r_93 rfl rfl
set_option maxRecDepth 20000 in
theorem xc_rows_b (X : sp_X) (g : sp_G) {q : Nat} (hq : 5 ≤ q) (hqb : q < 2 ^ 31) : sp_Ct X 9 93 [.ref 0, .int (nI q)] g (sp_Fi (-1) g) := by
  refine sp_walkN (n := 3) sq_p_93 sq_l_93 (Nat.le_of_ble_eq_true rfl) (fun a hA => ?_)
  show sp_Ev X a 93 0 [.ref 0, .int (nI q), .null] [] g
  refine sr_iload_n hA si_93_0 rfl ?_
  refine sr_if_ltN (tgt := 9) hA si_93_1 (by decide) (by omega) ?_
  refine sr_iload_n hA si_93_4 rfl ?_
  refine sr_iconst (v := nI 4) hA si_93_5 (by decide) ?_
  refine sr_icmp_leN (tgt := 11) hA si_93_6 (by decide) (by omega) (by omega) (fun c2 => absurd c2 (by omega)) (fun c2 => ?_)
  refine sr_iconst (v := (-1)) hA si_93_9 (by decide) ?_
  exact sr_iretF hA si_93_10 sq_r_93 rfl rfl
set_option maxRecDepth 20000 in
theorem xc_rows_s (X : sp_X) (g : sp_G) {q : Nat} (hq4 : q ≤ 4) (hn : g.1 18 3 = nI 0) : sp_Ct X 9 93 [.ref 0, .int (nI q)] g (sp_Fi (-4) g) := by
  refine sp_walkN (n := 3) sq_p_93 sq_l_93 (Nat.le_of_ble_eq_true rfl) (fun a hA => ?_)
  show sp_Ev X a 93 0 [.ref 0, .int (nI q), .null] [] g
  refine sr_iload_n hA si_93_0 rfl ?_
  refine sr_if_ltN (tgt := 9) hA si_93_1 (by decide) (by omega) ?_
  refine sr_iload_n hA si_93_4 rfl ?_
  refine sr_iconst (v := nI 4) hA si_93_5 (by decide) ?_
  refine sr_icmp_leN (tgt := 11) hA si_93_6 (by decide) (by omega) (by omega) (fun c2 => ?_) (fun c2 => absurd c2 (by omega))
  refine sr_aload_n hA si_93_11 rfl ?_
  refine sr_getR (r := 18) hA si_93_12 sf_93_32 (by decide) (by decide) rfl rfl rfl ?_
  refine sr_getIv (v := nI 0) hA si_93_15 sf_93_145 (by decide) (by decide) rfl (by decide) hn ?_
  refine sr_if_neN (tgt := 24) hA si_93_18 (by decide) (by omega) (fun c3 => absurd c3 (by omega)) (fun c3 => ?_)
  refine sr_bipush (v := (-4)) hA si_93_21 (by decide) ?_
  exact sr_iretF hA si_93_23 sq_r_93 rfl rfl
set_option maxRecDepth 20000 in
theorem xc_rows_go (X : sp_X) (g : sp_G) {q : Nat} (hq4 : q ≤ 4) {n : Nat} (hn : g.1 18 3 = nI n) (hn0 : 0 < n) (hb : n ≤ 6) {K T P v : Nat → Int32} {A Bq : Nat} (hK : sp_KX n K T P g) (hv : sp_h8 g 41 42 v) (hB : sp_oB n A Bq v) (hAb : A ≤ 1000) (hBb : Bq < 2 ^ 19) : sp_Ct X (q + 8) 93 [.ref 0, .int (nI q)] g (sp_Ri (fun x g' => x = nI (sp_go n K T P (sp_lr n) q 0 v (fun _ => 0) (0, [])).1 ∧ ∃ gm, sp_xa g gm ∧ g' = sp_wI gm 0 12 (nI (sp_go n K T P (sp_lr n) q 0 v (fun _ => 0) (0, [])).2.length))) := by
  refine sp_walkN (n := 3) sq_p_93 sq_l_93 (Nat.le_of_ble_eq_true rfl) (fun ac hA => ?_)
  show sp_Ev X ac 93 0 [.ref 0, .int (nI q), .null] [] g
  refine sr_iload_n hA si_93_0 rfl ?_
  refine sr_if_ltN (tgt := 9) hA si_93_1 (by decide) (by omega) ?_
  refine sr_iload_n hA si_93_4 rfl ?_
  refine sr_iconst (v := nI 4) hA si_93_5 (by decide) ?_
  refine sr_icmp_leN (tgt := 11) hA si_93_6 (by decide) (by omega) (by omega) (fun c2 => ?_) (fun c2 => absurd c2 (by omega))
  refine sr_aload_n hA si_93_11 rfl ?_
  refine sr_getR (r := 18) hA si_93_12 sf_93_32 (by decide) (by decide) rfl rfl rfl ?_
  refine sr_getIv (v := nI n) hA si_93_15 sf_93_145 (by decide) (by decide) rfl (by decide) hn ?_
  refine sr_if_neN (tgt := 24) hA si_93_18 (by decide) (by omega) (fun c3 => ?_) (fun c3 => absurd c3 (by omega))
  refine sr_aload_n hA si_93_24 rfl ?_
  refine sr_getR (r := 17) hA si_93_25 sf_93_24 (by decide) (by decide) rfl rfl rfl ?_
  refine sr_aload_n hA si_93_28 rfl ?_
  refine sr_getR (r := 41) hA si_93_29 sf_93_36 (by decide) (by decide) rfl rfl rfl ?_
  refine sr_iload_n hA si_93_32 rfl ?_
  refine sr_VRi (c := 17) (ci := 4) (as := [.ref 41, .int (nI q)]) (st := []) hA si_93_33 sv_94 sk_93_248 (xb_cw X g (q := q) (v := v) hq4 hK hv hB hAb hBb) (by omega) rfl (by decide) (by decide) rfl sq_c_94 rfl (Nat.le_of_ble_eq_true rfl) (fun xv g1 q1 => ?_)
  obtain ⟨S, eS⟩ : ∃ z, z = (sp_go n K T P (sp_lr n) q 0 v (fun _ => 0) (0, [])) := ⟨_, rfl⟩
  rw [← eS] at q1
  obtain ⟨exv, ax, hqs⟩ := q1
  subst exv
  refine sr_istore_n (ls1 := [.ref 0, .int (nI q), .int (nI S.1)]) hA si_93_36 rfl (by rw [sq_l_93]; decide) rfl ?_
  refine sr_aload_n hA si_93_37 rfl ?_
  refine sr_aload_n hA si_93_38 rfl ?_
  refine sr_getR (r := 17) hA si_93_39 sf_93_24 (by decide) (by decide) rfl rfl rfl ?_
  refine sr_VFi (c := 17) (ci := 4) (as := []) (st := [.ref 0]) hA si_93_42 sv_99 sk_93_251 (xb_us X g1 hqs.1) (by omega) rfl (by decide) (by decide) rfl sq_c_99 rfl (Nat.le_of_ble_eq_true rfl) ?_
  refine sr_putI hA si_93_45 sf_93_92 rfl rfl (by decide) (by decide) rfl rfl ?_
  refine sr_iload_n hA si_93_48 rfl ?_
  exact sr_iretR hA si_93_49 sq_r_93 ⟨by rw [← eS], g1, ax, by rw [← eS]⟩
