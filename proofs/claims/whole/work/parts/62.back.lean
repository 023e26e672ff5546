/-! a search through all rows of notes -/
def sp_go {σ : Type} (n : Nat) (K T P : Nat → Int32) (lf : Nat → (Nat → Int32) → (Nat → Nat) → σ → σ) : Nat → Nat → (Nat → Int32) → (Nat → Nat) → σ → σ
  | 0, d, v, w, s => lf d v w s
  | m + 1, d, v, w, s => sp_kfo (fun i s => if sp_cb (K i) (T i) (v i) = true then sp_go n K T P lf m (d + 1) (sp_pl n K P v i) (sp_un w d i) s else s) s n
def sp_gs {σ : Type} (n : Nat) (K T P : Nat → Int32) (lf : Nat → (Nat → Int32) → (Nat → Nat) → σ → σ) (m d : Nat) (v : Nat → Int32) (w : Nat → Nat) (s : σ) (i : Nat) : σ := sp_kfo (fun i s => if sp_cb (K i) (T i) (v i) = true then sp_go n K T P lf m (d + 1) (sp_pl n K P v i) (sp_un w d i) s else s) s i
theorem sp_gs1 {σ : Type} {n : Nat} {K T P : Nat → Int32} {lf : Nat → (Nat → Int32) → (Nat → Nat) → σ → σ} {m d : Nat} {v : Nat → Int32} {w : Nat → Nat} {s : σ} {i : Nat} (h : sp_cb (K i) (T i) (v i) = true) : sp_gs n K T P lf m d v w s (i + 1) = sp_go n K T P lf m (d + 1) (sp_pl n K P v i) (sp_un w d i) (sp_gs n K T P lf m d v w s i) := if_pos h
theorem sp_gs0 {σ : Type} {n : Nat} {K T P : Nat → Int32} {lf : Nat → (Nat → Int32) → (Nat → Nat) → σ → σ} {m d : Nat} {v : Nat → Int32} {w : Nat → Nat} {s : σ} {i : Nat} (h : ¬ sp_cb (K i) (T i) (v i) = true) : sp_gs n K T P lf m d v w s (i + 1) = sp_gs n K T P lf m d v w s i := if_neg h
/-- a number that grows by one at a leaf at most -/
theorem sp_go_le {σ : Type} {n : Nat} {K T P : Nat → Int32} {lf : Nat → (Nat → Int32) → (Nat → Nat) → σ → σ} {c : σ → Nat} (hn : n ≤ 6) (h : ∀ d v w s, c (lf d v w s) ≤ c s + 1) : ∀ m d v w s, c (sp_go n K T P lf m d v w s) ≤ c s + 6 ^ m
  | 0, d, v, w, s => h d v w s
  | m + 1, d, v, w, s => by
    have key : ∀ i, c (sp_gs n K T P lf m d v w s i) ≤ c s + i * 6 ^ m := fun i => by
      induction i with
      | zero => rw [Nat.zero_mul]; exact Nat.le_refl _
      | succ i ih =>
        rw [Nat.succ_mul]
        by_cases hc : sp_cb (K i) (T i) (v i) = true
        · rw [sp_gs1 hc]
          have := sp_go_le (K := K) (T := T) (P := P) hn h m (d + 1) (sp_pl n K P v i) (sp_un w d i) (sp_gs n K T P lf m d v w s i)
          omega
        · rw [sp_gs0 hc]; exact Nat.le_trans ih (Nat.add_le_add_left (Nat.le_add_right _ _) _)
    have h1 := key n
    have h2 : n * 6 ^ m ≤ 6 * 6 ^ m := Nat.mul_le_mul_right _ hn
    have h3 : 6 ^ (m + 1) = 6 * 6 ^ m := by rw [Nat.pow_succ, Nat.mul_comm]
    show c (sp_gs n K T P lf m d v w s n) ≤ _
    omega
theorem sp_gs_le {σ : Type} {n : Nat} {K T P : Nat → Int32} {lf : Nat → (Nat → Int32) → (Nat → Nat) → σ → σ} {c : σ → Nat} (hn : n ≤ 6) (h : ∀ d v w s, c (lf d v w s) ≤ c s + 1) {m d : Nat} {v : Nat → Int32} {w : Nat → Nat} {s : σ} {i : Nat} (hi : i < n) : c (sp_gs n K T P lf m d v w s i) + 6 ^ m ≤ c s + 6 ^ (m + 1) := by
  have key : ∀ i, c (sp_gs n K T P lf m d v w s i) ≤ c s + i * 6 ^ m := fun i => by
    induction i with
    | zero => rw [Nat.zero_mul]; exact Nat.le_refl _
    | succ i ih =>
      rw [Nat.succ_mul]
      by_cases hc : sp_cb (K i) (T i) (v i) = true
      · rw [sp_gs1 hc]
        have := sp_go_le (K := K) (T := T) (P := P) hn h m (d + 1) (sp_pl n K P v i) (sp_un w d i) (sp_gs n K T P lf m d v w s i)
        omega
      · rw [sp_gs0 hc]; exact Nat.le_trans ih (Nat.add_le_add_left (Nat.le_add_right _ _) _)
  have h1 := key i
  have h2 : (i + 1) * 6 ^ m ≤ 6 * 6 ^ m := Nat.mul_le_mul_right _ (by omega)
  rw [Nat.succ_mul] at h2
  have h3 : 6 ^ (m + 1) = 6 * 6 ^ m := by rw [Nat.pow_succ, Nat.mul_comm]
  omega
theorem sp_h8.xa {g g1 : sp_G} {s o : Nat} {v : Nat → Int32} (h : sp_h8 g s o v) (k : sp_xa g g1) (h1 : ¬ sp_xs s) (h2 : ¬ sp_xs o) : sp_h8 g1 s o v := fun j hj => by
  rw [← h j hj]
  unfold sp_sv
  rw [k.i s h1, k.i o h2]
theorem sp_f8.xa {g g1 : sp_G} {f : Nat} {v : Nat → Int32} (h : sp_f8 g f v) (k : sp_xa g g1) : sp_f8 g1 f v := fun j hj => by
  rw [← h j hj]
  unfold sp_pv
  rw [k.i 75 (by unfold sp_xs; omega)]
/-! what was played: the rows of notes that lead to what lies now -/
abbrev sp_Bs : Type := Nat × Option (Nat → Nat)
def sp_lb (n : Nat) (u : Nat → Int32) (_ : Nat) (v : Nat → Int32) (w : Nat → Nat) (s : sp_Bs) : sp_Bs := if ∀ j, j < n → v j = u j then (s.1 + 1, some (s.2.getD w)) else s
theorem sp_lb_le {n : Nat} {u : Nat → Int32} (d : Nat) (v : Nat → Int32) (w : Nat → Nat) (s : sp_Bs) : (sp_lb n u d v w s).1 ≤ s.1 + 1 := by
  unfold sp_lb
  split
  · exact Nat.le_refl _
  · omega
theorem sp_lk_or (n : Nat) (v u : Nat → Int32) : (∀ j, j < n → v j = u j) ∨ ∃ b, b < n ∧ (∀ j, j < b → v j = u j) ∧ v b ≠ u b := by
  induction n with
  | zero => exact Or.inl (fun j hj => absurd hj (by omega))
  | succ n ih =>
    rcases ih with h | ⟨b, h1, h2, h3⟩
    · by_cases e : v n = u n
      · refine Or.inl (fun j hj => ?_)
        by_cases ej : j = n
        · subst ej; exact e
        · exact h j (by omega)
      · exact Or.inr ⟨n, by omega, h, e⟩
    · exact Or.inr ⟨b, by omega, h2, h3⟩
def sp_qx (q : Nat) (g : sp_G) (o : Option (Nat → Nat)) : Prop := match o with
  | none => g.1 17 5 = -1
  | some w => g.1 17 5 = nI q ∧ ∀ j, j < q → g.1 38 j = nI (w j)
theorem sp_qx.eq {q : Nat} {g g1 : sp_G} {o : Option (Nat → Nat)} (h : sp_qx q g o) (h1 : g1.1 17 5 = g.1 17 5) (h2 : g1.1 38 = g.1 38) : sp_qx q g1 o := by
  cases o with
  | none => exact h1.trans h
  | some w => exact ⟨h1.trans h.1, fun j hj => by rw [h2]; exact h.2 j hj⟩
theorem sp_qx.stp {q d i : Nat} {g g1 : sp_G} {o : Option (Nat → Nat)} {u : Nat → Int32} {p : Int32} (h : sp_qx q g o) (k : sp_stp d g g1 i u p) (hd : d < 6) : sp_qx q g1 o := h.eq (by rw [k.1 17 (by omega) (by omega) (by omega)]) (k.1 38 (by omega) (by omega) (by omega))
set_option maxRecDepth 20000 in
theorem xl_like1 {X : sp_X} {ac : sp_Ac} {g : sp_G} {s o t p n : Nat} {v u : Nat → Int32} (hs : sp_sd s o) (ht : sp_sd t p) (hn : n ≤ 6) (hv : sp_h8 g s o v) (hu : sp_h8 g t p u) (hq : ∀ j, j < n → v j = u j) (hA : sp_Act X 104 0 (sp_Fi (nI 1) g) ac) : ∀ (m : Nat) (i : Nat), i + m = n → sp_Ev X ac 104 2 [.ref s, .ref t, .int (nI n), .int (nI i)] [] g := by
  intro m
  induction m with
  | zero =>
    intro i h0_
    refine sr_iload_n hA si_104_2 rfl ?_
    refine sr_iload_n hA si_104_3 rfl ?_
    refine sr_icmp_geN (tgt := 30) hA si_104_4 (by decide) (by omega) (by omega) (fun c1 => ?_) (fun c1 => absurd c1 (by omega))
    refine sr_iconst (v := nI 1) hA si_104_30 (by decide) ?_
    exact sr_zretF hA si_104_31 sq_r_104 (by decide) rfl rfl
  | succ m ih =>
    intro i h0_
    refine sr_iload_n hA si_104_2 rfl ?_
    refine sr_iload_n hA si_104_3 rfl ?_
    refine sr_icmp_geN (tgt := 30) hA si_104_4 (by decide) (by omega) (by omega) (fun c1 => absurd c1 (by omega)) (fun c1 => ?_)
    refine sr_aload_n hA si_104_7 rfl ?_
    refine sr_getR (r := o) hA si_104_8 sf_104_9 (by decide) hs.1 hs.2.1 rfl hs.2.2.1 ?_
    refine sr_iload_n hA si_104_11 rfl ?_
    refine sr_ialdNv (v := v i) (n := 6) hA si_104_12 hs.2.2.2.1 hs.2.2.2.2.1 hs.2.2.2.2.2.1 (by omega) (by decide) (by have := hv i (by omega); unfold sp_sv at this; rw [if_pos (by omega)] at this; exact this) ?_
    refine sr_aload_n hA si_104_13 rfl ?_
    refine sr_getR (r := p) hA si_104_14 sf_104_9 (by decide) ht.1 ht.2.1 rfl ht.2.2.1 ?_
    refine sr_iload_n hA si_104_17 rfl ?_
    refine sr_ialdNv (v := u i) (n := 6) hA si_104_18 ht.2.2.2.1 ht.2.2.2.2.1 ht.2.2.2.2.2.1 (by omega) (by decide) (by have := hu i (by omega); unfold sp_sv at this; rw [if_pos (by omega)] at this; exact this) ?_
    refine sr_icmp_eq (tgt := 24) hA si_104_19 (by decide) (fun c2 => ?_) (fun c2 => absurd (hq i (by omega)) c2)
    refine sr_iincN (x := i) (y := 1) (ls1 := [.ref s, .ref t, .int (nI n), .int (nI (i + 1))]) hA si_104_24 rfl rfl (by rw [sq_l_104]; decide) rfl ?_
    refine sr_goto (tgt := 2) hA si_104_27 (by decide) ?_
    exact ih (i + 1) (by omega)
set_option maxRecDepth 20000 in
theorem xl_like0 {X : sp_X} {ac : sp_Ac} {g : sp_G} {s o t p n : Nat} {v u : Nat → Int32} (hs : sp_sd s o) (ht : sp_sd t p) (hn : n ≤ 6) (hv : sp_h8 g s o v) (hu : sp_h8 g t p u) {b : Nat} (hb : b < n) (hq : ∀ j, j < b → v j = u j) (hne : v b ≠ u b) (hA : sp_Act X 104 0 (sp_Fi (nI 0) g) ac) : ∀ (m : Nat) (i : Nat), i + m = b → sp_Ev X ac 104 2 [.ref s, .ref t, .int (nI n), .int (nI i)] [] g := by
  intro m
  induction m with
  | zero =>
    intro i h0_
    refine sr_iload_n hA si_104_2 rfl ?_
    refine sr_iload_n hA si_104_3 rfl ?_
    refine sr_icmp_geN (tgt := 30) hA si_104_4 (by decide) (by omega) (by omega) (fun c1 => absurd c1 (by omega)) (fun c1 => ?_)
    refine sr_aload_n hA si_104_7 rfl ?_
    refine sr_getR (r := o) hA si_104_8 sf_104_9 (by decide) hs.1 hs.2.1 rfl hs.2.2.1 ?_
    refine sr_iload_n hA si_104_11 rfl ?_
    refine sr_ialdNv (v := v i) (n := 6) hA si_104_12 hs.2.2.2.1 hs.2.2.2.2.1 hs.2.2.2.2.2.1 (by omega) (by decide) (by have := hv i (by omega); unfold sp_sv at this; rw [if_pos (by omega)] at this; exact this) ?_
    refine sr_aload_n hA si_104_13 rfl ?_
    refine sr_getR (r := p) hA si_104_14 sf_104_9 (by decide) ht.1 ht.2.1 rfl ht.2.2.1 ?_
    refine sr_iload_n hA si_104_17 rfl ?_
    refine sr_ialdNv (v := u i) (n := 6) hA si_104_18 ht.2.2.2.1 ht.2.2.2.2.1 ht.2.2.2.2.2.1 (by omega) (by decide) (by have := hu i (by omega); unfold sp_sv at this; rw [if_pos (by omega)] at this; exact this) ?_
    refine sr_icmp_eq (tgt := 24) hA si_104_19 (by decide) (fun c2 => absurd c2 (by rw [show i = b by omega]; exact hne)) (fun c2 => ?_)
    refine sr_iconst (v := nI 0) hA si_104_22 (by decide) ?_
    exact sr_zretF hA si_104_23 sq_r_104 (by decide) rfl rfl
  | succ m ih =>
    intro i h0_
    refine sr_iload_n hA si_104_2 rfl ?_
    refine sr_iload_n hA si_104_3 rfl ?_
    refine sr_icmp_geN (tgt := 30) hA si_104_4 (by decide) (by omega) (by omega) (fun c1 => absurd c1 (by omega)) (fun c1 => ?_)
    refine sr_aload_n hA si_104_7 rfl ?_
    refine sr_getR (r := o) hA si_104_8 sf_104_9 (by decide) hs.1 hs.2.1 rfl hs.2.2.1 ?_
    refine sr_iload_n hA si_104_11 rfl ?_
    refine sr_ialdNv (v := v i) (n := 6) hA si_104_12 hs.2.2.2.1 hs.2.2.2.2.1 hs.2.2.2.2.2.1 (by omega) (by decide) (by have := hv i (by omega); unfold sp_sv at this; rw [if_pos (by omega)] at this; exact this) ?_
    refine sr_aload_n hA si_104_13 rfl ?_
    refine sr_getR (r := p) hA si_104_14 sf_104_9 (by decide) ht.1 ht.2.1 rfl ht.2.2.1 ?_
    refine sr_iload_n hA si_104_17 rfl ?_
    refine sr_ialdNv (v := u i) (n := 6) hA si_104_18 ht.2.2.2.1 ht.2.2.2.2.1 ht.2.2.2.2.2.1 (by omega) (by decide) (by have := hu i (by omega); unfold sp_sv at this; rw [if_pos (by omega)] at this; exact this) ?_
    refine sr_icmp_eq (tgt := 24) hA si_104_19 (by decide) (fun c2 => ?_) (fun c2 => absurd (hq i (by omega)) c2)
    refine sr_iincN (x := i) (y := 1) (ls1 := [.ref s, .ref t, .int (nI n), .int (nI (i + 1))]) hA si_104_24 rfl rfl (by rw [sq_l_104]; decide) rfl ?_
    refine sr_goto (tgt := 2) hA si_104_27 (by decide) ?_
    exact ih (i + 1) (by omega)
set_option maxRecDepth 20000 in
theorem xb_like1 (X : sp_X) (g : sp_G) {s o t p n : Nat} {v u : Nat → Int32} (hs : sp_sd s o) (ht : sp_sd t p) (hn : n ≤ 6) (hv : sp_h8 g s o v) (hu : sp_h8 g t p u) (hq : ∀ j, j < n → v j = u j) : sp_Ct X 0 104 [.ref s, .ref t, .int (nI n)] g (sp_Fi (nI 1) g) := by
  refine sp_walkN (n := 4) sq_p_104 sq_l_104 (Nat.le_of_ble_eq_true rfl) (fun ac hA => ?_)
  show sp_Ev X ac 104 0 [.ref s, .ref t, .int (nI n), .null] [] g
  refine sr_iconst (v := nI 0) hA si_104_0 (by decide) ?_
  refine sr_istore_n (ls1 := [.ref s, .ref t, .int (nI n), .int (nI 0)]) hA si_104_1 rfl (by rw [sq_l_104]; decide) rfl ?_
  exact xl_like1 hs ht hn hv hu hq hA n 0 (by omega)
set_option maxRecDepth 20000 in
theorem xb_like0 (X : sp_X) (g : sp_G) {s o t p n : Nat} {v u : Nat → Int32} (hs : sp_sd s o) (ht : sp_sd t p) (hn : n ≤ 6) (hv : sp_h8 g s o v) (hu : sp_h8 g t p u) {b : Nat} (hb : b < n) (hq : ∀ j, j < b → v j = u j) (hne : v b ≠ u b) : sp_Ct X 0 104 [.ref s, .ref t, .int (nI n)] g (sp_Fi (nI 0) g) := by
  refine sp_walkN (n := 4) sq_p_104 sq_l_104 (Nat.le_of_ble_eq_true rfl) (fun ac hA => ?_)
  show sp_Ev X ac 104 0 [.ref s, .ref t, .int (nI n), .null] [] g
  refine sr_iconst (v := nI 0) hA si_104_0 (by decide) ?_
  refine sr_istore_n (ls1 := [.ref s, .ref t, .int (nI n), .int (nI 0)]) hA si_104_1 rfl (by rw [sq_l_104]; decide) rfl ?_
  exact xl_like0 hs ht hn hv hu hb hq hne hA b 0 (by omega)
set_option maxRecDepth 20000 in
theorem ml_nowZ {X : sp_X} {ac : sp_Ac} {g : sp_G} {f n : Nat} {v u : Nat → Int32} (hf : f < 15) (hn6 : n ≤ 6) (hn : g.1 64 11 = nI n) (hv : sp_f8 g f v) (hu : sp_f8 g 0 u) (hA : sp_Act X 211 1 (sp_Fi (nI 0) g) ac) : ∀ (m : Nat) (i : Nat), i + m = n → sp_Ev X ac 211 4 [.ref 64, .int (nI f), .int (nI 0), .int (nI i)] [] g := by
  intro m
  induction m with
  | zero =>
    intro i h0_
    refine sr_iload_n hA si_211_4 rfl ?_
    refine sr_aload_n hA si_211_5 rfl ?_
    refine sr_getIv (v := nI n) hA si_211_6 sf_211_142 (by decide) (by decide) rfl (by decide) hn ?_
    refine sr_icmp_geN (tgt := 43) hA si_211_9 (by decide) (by omega) (by omega) (fun c1 => ?_) (fun c1 => absurd c1 (by omega))
    refine sr_iload_n hA si_211_43 rfl ?_
    exact sr_zretF hA si_211_44 sq_r_211 (by decide) rfl rfl
  | succ m ih =>
    intro i h0_
    refine sr_iload_n hA si_211_4 rfl ?_
    refine sr_aload_n hA si_211_5 rfl ?_
    refine sr_getIv (v := nI n) hA si_211_6 sf_211_142 (by decide) (by decide) rfl (by decide) hn ?_
    refine sr_icmp_geN (tgt := 43) hA si_211_9 (by decide) (by omega) (by omega) (fun c1 => absurd c1 (by omega)) (fun c1 => ?_)
    refine sr_iload_n hA si_211_12 rfl ?_
    refine sr_if_eqN (tgt := 35) hA si_211_13 (by decide) (by omega) (fun c2 => ?_) (fun c2 => absurd c2 (by omega))
    refine sr_iconst (v := nI 0) hA si_211_35 (by decide) ?_
    refine sr_istore_n (ls1 := [.ref 64, .int (nI f), .int (nI 0), .int (nI i)]) hA si_211_36 rfl (by rw [sq_l_211]; decide) rfl ?_
    refine sr_iincN (x := i) (y := 1) (ls1 := [.ref 64, .int (nI f), .int (nI 0), .int (nI (i + 1))]) hA si_211_37 rfl rfl (by rw [sq_l_211]; decide) rfl ?_
    refine sr_goto (tgt := 4) hA si_211_40 (by decide) ?_
    exact ih (i + 1) (by omega)
set_option maxRecDepth 20000 in
theorem ml_now1 {X : sp_X} {ac : sp_Ac} {g : sp_G} {f n : Nat} {v u : Nat → Int32} (hf : f < 15) (hn6 : n ≤ 6) (hn : g.1 64 11 = nI n) (hv : sp_f8 g f v) (hu : sp_f8 g 0 u) (hq : ∀ j, j < n → v j = u j) (hA : sp_Act X 211 1 (sp_Fi (nI 1) g) ac) : ∀ (m : Nat) (i : Nat), i + m = n → sp_Ev X ac 211 4 [.ref 64, .int (nI f), .int (nI 1), .int (nI i)] [] g := by
  intro m
  induction m with
  | zero =>
    intro i h0_
    refine sr_iload_n hA si_211_4 rfl ?_
    refine sr_aload_n hA si_211_5 rfl ?_
    refine sr_getIv (v := nI n) hA si_211_6 sf_211_142 (by decide) (by decide) rfl (by decide) hn ?_
    refine sr_icmp_geN (tgt := 43) hA si_211_9 (by decide) (by omega) (by omega) (fun c1 => ?_) (fun c1 => absurd c1 (by omega))
    refine sr_iload_n hA si_211_43 rfl ?_
    exact sr_zretF hA si_211_44 sq_r_211 (by decide) rfl rfl
  | succ m ih =>
    intro i h0_
    refine sr_iload_n hA si_211_4 rfl ?_
    refine sr_aload_n hA si_211_5 rfl ?_
    refine sr_getIv (v := nI n) hA si_211_6 sf_211_142 (by decide) (by decide) rfl (by decide) hn ?_
    refine sr_icmp_geN (tgt := 43) hA si_211_9 (by decide) (by omega) (by omega) (fun c1 => absurd c1 (by omega)) (fun c1 => ?_)
    refine sr_iload_n hA si_211_12 rfl ?_
    refine sr_if_eqN (tgt := 35) hA si_211_13 (by decide) (by omega) (fun c2 => absurd c2 (by omega)) (fun c2 => ?_)
    refine sr_aload_n hA si_211_16 rfl ?_
    refine sr_iload_n hA si_211_17 rfl ?_
    refine sr_iload_n hA si_211_18 rfl ?_
    refine sr_VFi (c := 64) (ci := 8) (as := [.int (nI f), .int (nI i)]) (st := []) hA si_211_19 sv_164 sk_211_152 (by have h := mc_v X g (f := f) (i := i) (by omega); rw [show g.1 75 (9 * f + i) = v i from hv i (by omega)] at h; exact h) (by omega) rfl (by decide) (by decide) rfl sq_c_164 rfl (Nat.le_of_ble_eq_true rfl) ?_
    refine sr_aload_n hA si_211_22 rfl ?_
    refine sr_iconst (v := nI 0) hA si_211_23 (by decide) ?_
    refine sr_iload_n hA si_211_24 rfl ?_
    refine sr_VFi (c := 64) (ci := 8) (as := [.int (nI 0), .int (nI i)]) (st := [.int (v i)]) hA si_211_25 sv_164 sk_211_152 (by have h := mc_v X g (f := 0) (i := i) (by omega); rw [show g.1 75 (9 * 0 + i) = u i from hu i (by omega)] at h; exact h) (by omega) rfl (by decide) (by decide) rfl sq_c_164 rfl (Nat.le_of_ble_eq_true rfl) ?_
    refine sr_icmp_ne (tgt := 35) hA si_211_28 (by decide) (fun c3 => absurd (hq i (by omega)) c3) (fun c3 => ?_)
    refine sr_iconst (v := nI 1) hA si_211_31 (by decide) ?_
    refine sr_goto (tgt := 36) hA si_211_32 (by decide) ?_
    refine sr_istore_n (ls1 := [.ref 64, .int (nI f), .int (nI 1), .int (nI i)]) hA si_211_36 rfl (by rw [sq_l_211]; decide) rfl ?_
    refine sr_iincN (x := i) (y := 1) (ls1 := [.ref 64, .int (nI f), .int (nI 1), .int (nI (i + 1))]) hA si_211_37 rfl rfl (by rw [sq_l_211]; decide) rfl ?_
    refine sr_goto (tgt := 4) hA si_211_40 (by decide) ?_
    exact ih (i + 1) (by omega)
set_option maxRecDepth 20000 in
theorem ml_now0 {X : sp_X} {ac : sp_Ac} {g : sp_G} {f n : Nat} {v u : Nat → Int32} (hf : f < 15) (hn6 : n ≤ 6) (hn : g.1 64 11 = nI n) (hv : sp_f8 g f v) (hu : sp_f8 g 0 u) {b : Nat} (hb : b < n) (hq : ∀ j, j < b → v j = u j) (hne : v b ≠ u b) (hA : sp_Act X 211 1 (sp_Fi (nI 0) g) ac) : ∀ (m : Nat) (i : Nat), i + m = b → sp_Ev X ac 211 4 [.ref 64, .int (nI f), .int (nI 1), .int (nI i)] [] g := by
  intro m
  induction m with
  | zero =>
    intro i h0_
    refine sr_iload_n hA si_211_4 rfl ?_
    refine sr_aload_n hA si_211_5 rfl ?_
    refine sr_getIv (v := nI n) hA si_211_6 sf_211_142 (by decide) (by decide) rfl (by decide) hn ?_
    refine sr_icmp_geN (tgt := 43) hA si_211_9 (by decide) (by omega) (by omega) (fun c1 => absurd c1 (by omega)) (fun c1 => ?_)
    refine sr_iload_n hA si_211_12 rfl ?_
    refine sr_if_eqN (tgt := 35) hA si_211_13 (by decide) (by omega) (fun c2 => absurd c2 (by omega)) (fun c2 => ?_)
    refine sr_aload_n hA si_211_16 rfl ?_
    refine sr_iload_n hA si_211_17 rfl ?_
    refine sr_iload_n hA si_211_18 rfl ?_
    refine sr_VFi (c := 64) (ci := 8) (as := [.int (nI f), .int (nI i)]) (st := []) hA si_211_19 sv_164 sk_211_152 (by have h := mc_v X g (f := f) (i := i) (by omega); rw [show g.1 75 (9 * f + i) = v i from hv i (by omega)] at h; exact h) (by omega) rfl (by decide) (by decide) rfl sq_c_164 rfl (Nat.le_of_ble_eq_true rfl) ?_
    refine sr_aload_n hA si_211_22 rfl ?_
    refine sr_iconst (v := nI 0) hA si_211_23 (by decide) ?_
    refine sr_iload_n hA si_211_24 rfl ?_
    refine sr_VFi (c := 64) (ci := 8) (as := [.int (nI 0), .int (nI i)]) (st := [.int (v i)]) hA si_211_25 sv_164 sk_211_152 (by have h := mc_v X g (f := 0) (i := i) (by omega); rw [show g.1 75 (9 * 0 + i) = u i from hu i (by omega)] at h; exact h) (by omega) rfl (by decide) (by decide) rfl sq_c_164 rfl (Nat.le_of_ble_eq_true rfl) ?_
    refine sr_icmp_ne (tgt := 35) hA si_211_28 (by decide) (fun c3 => ?_) (fun c3 => absurd c3 (by rw [show i = b by omega]; exact hne))
    refine sr_iconst (v := nI 0) hA si_211_35 (by decide) ?_
    refine sr_istore_n (ls1 := [.ref 64, .int (nI f), .int (nI 0), .int (nI i)]) hA si_211_36 rfl (by rw [sq_l_211]; decide) rfl ?_
    refine sr_iincN (x := i) (y := 1) (ls1 := [.ref 64, .int (nI f), .int (nI 0), .int (nI (i + 1))]) hA si_211_37 rfl rfl (by rw [sq_l_211]; decide) rfl ?_
    refine sr_goto (tgt := 4) hA si_211_40 (by decide) ?_
    exact ml_nowZ hf hn6 hn hv hu hA (n - (i + 1)) (i + 1) (by omega)
  | succ m ih =>
    intro i h0_
    refine sr_iload_n hA si_211_4 rfl ?_
    refine sr_aload_n hA si_211_5 rfl ?_
    refine sr_getIv (v := nI n) hA si_211_6 sf_211_142 (by decide) (by decide) rfl (by decide) hn ?_
    refine sr_icmp_geN (tgt := 43) hA si_211_9 (by decide) (by omega) (by omega) (fun c1 => absurd c1 (by omega)) (fun c1 => ?_)
    refine sr_iload_n hA si_211_12 rfl ?_
    refine sr_if_eqN (tgt := 35) hA si_211_13 (by decide) (by omega) (fun c2 => absurd c2 (by omega)) (fun c2 => ?_)
    refine sr_aload_n hA si_211_16 rfl ?_
    refine sr_iload_n hA si_211_17 rfl ?_
    refine sr_iload_n hA si_211_18 rfl ?_
    refine sr_VFi (c := 64) (ci := 8) (as := [.int (nI f), .int (nI i)]) (st := []) hA si_211_19 sv_164 sk_211_152 (by have h := mc_v X g (f := f) (i := i) (by omega); rw [show g.1 75 (9 * f + i) = v i from hv i (by omega)] at h; exact h) (by omega) rfl (by decide) (by decide) rfl sq_c_164 rfl (Nat.le_of_ble_eq_true rfl) ?_
    refine sr_aload_n hA si_211_22 rfl ?_
    refine sr_iconst (v := nI 0) hA si_211_23 (by decide) ?_
    refine sr_iload_n hA si_211_24 rfl ?_
    refine sr_VFi (c := 64) (ci := 8) (as := [.int (nI 0), .int (nI i)]) (st := [.int (v i)]) hA si_211_25 sv_164 sk_211_152 (by have h := mc_v X g (f := 0) (i := i) (by omega); rw [show g.1 75 (9 * 0 + i) = u i from hu i (by omega)] at h; exact h) (by omega) rfl (by decide) (by decide) rfl sq_c_164 rfl (Nat.le_of_ble_eq_true rfl) ?_
    refine sr_icmp_ne (tgt := 35) hA si_211_28 (by decide) (fun c3 => absurd (hq i (by omega)) c3) (fun c3 => ?_)
    refine sr_iconst (v := nI 1) hA si_211_31 (by decide) ?_
    refine sr_goto (tgt := 36) hA si_211_32 (by decide) ?_
    refine sr_istore_n (ls1 := [.ref 64, .int (nI f), .int (nI 1), .int (nI i)]) hA si_211_36 rfl (by rw [sq_l_211]; decide) rfl ?_
    refine sr_iincN (x := i) (y := 1) (ls1 := [.ref 64, .int (nI f), .int (nI 1), .int (nI (i + 1))]) hA si_211_37 rfl rfl (by rw [sq_l_211]; decide) rfl ?_
    refine sr_goto (tgt := 4) hA si_211_40 (by decide) ?_
    exact ih (i + 1) (by omega)
set_option maxRecDepth 20000 in
theorem mb_now1 (X : sp_X) (g : sp_G) {f n : Nat} {v u : Nat → Int32} (hf : f < 15) (hn6 : n ≤ 6) (hn : g.1 64 11 = nI n) (hv : sp_f8 g f v) (hu : sp_f8 g 0 u) (hq : ∀ j, j < n → v j = u j) : sp_Ct X 1 211 [.ref 64, .int (nI f)] g (sp_Fi (nI 1) g) := by
  refine sp_walkN (n := 4) sq_p_211 sq_l_211 (Nat.le_of_ble_eq_true rfl) (fun ac hA => ?_)
  show sp_Ev X ac 211 0 [.ref 64, .int (nI f), .null, .null] [] g
  refine sr_iconst (v := nI 1) hA si_211_0 (by decide) ?_
  refine sr_istore_n (ls1 := [.ref 64, .int (nI f), .int (nI 1), .null]) hA si_211_1 rfl (by rw [sq_l_211]; decide) rfl ?_
  refine sr_iconst (v := nI 0) hA si_211_2 (by decide) ?_
  refine sr_istore_n (ls1 := [.ref 64, .int (nI f), .int (nI 1), .int (nI 0)]) hA si_211_3 rfl (by rw [sq_l_211]; decide) rfl ?_
  exact ml_now1 hf hn6 hn hv hu hq hA n 0 (by omega)
set_option maxRecDepth 20000 in
theorem mb_now0 (X : sp_X) (g : sp_G) {f n : Nat} {v u : Nat → Int32} (hf : f < 15) (hn6 : n ≤ 6) (hn : g.1 64 11 = nI n) (hv : sp_f8 g f v) (hu : sp_f8 g 0 u) {b : Nat} (hb : b < n) (hq : ∀ j, j < b → v j = u j) (hne : v b ≠ u b) : sp_Ct X 1 211 [.ref 64, .int (nI f)] g (sp_Fi (nI 0) g) := by
  refine sp_walkN (n := 4) sq_p_211 sq_l_211 (Nat.le_of_ble_eq_true rfl) (fun ac hA => ?_)
  show sp_Ev X ac 211 0 [.ref 64, .int (nI f), .null, .null] [] g
  refine sr_iconst (v := nI 1) hA si_211_0 (by decide) ?_
  refine sr_istore_n (ls1 := [.ref 64, .int (nI f), .int (nI 1), .null]) hA si_211_1 rfl (by rw [sq_l_211]; decide) rfl ?_
  refine sr_iconst (v := nI 0) hA si_211_2 (by decide) ?_
  refine sr_istore_n (ls1 := [.ref 64, .int (nI f), .int (nI 1), .int (nI 0)]) hA si_211_3 rfl (by rw [sq_l_211]; decide) rfl ?_
  exact ml_now0 hf hn6 hn hv hu hb hq hne hA b 0 (by omega)
set_option maxRecDepth 20000 in
theorem xb_toA (X : sp_X) (g : sp_G) {d n : Nat} {K T P v u : Nat → Int32} (hd : d ≤ 6) (hK : sp_KX n K T P g) (hv : sp_h8 g (23 + d) (30 + d) v) (hu : sp_h8 g 41 42 u) {b : Nat} (hb : b < n) (hq : ∀ j, j < b → v j = u j) (hne : v b ≠ u b) : sp_Ct X 5 103 [.ref 17, .int (nI d), .int (nI 0), .ref 41] g (sp_Fi (nI 0) g) := by
  have hn6 := hK.2.1
  refine sp_walkN (n := 6) sq_p_103 sq_l_103 (Nat.le_of_ble_eq_true rfl) (fun a hA => ?_)
  show sp_Ev X a 103 0 [.ref 17, .int (nI d), .int (nI 0), .ref 41, .null, .null] [] g
  refine sr_iload_n hA si_103_0 rfl ?_
  refine sr_if_neN (tgt := 40) hA si_103_1 (by decide) (by omega) (fun c1 => absurd c1 (by omega)) (fun c1 => ?_)
  refine sr_aload_n hA si_103_4 rfl ?_
  refine sr_getR (r := 22) hA si_103_5 sf_103_20 (by decide) (by decide) rfl rfl rfl ?_
  refine sr_iload_n hA si_103_8 rfl ?_
  refine sr_aaldN (r := (23 + d)) (n := 7) hA si_103_9 (by decide) (by decide) rfl (by omega) (by decide) (sp_bhr (by omega)) ?_
  refine sr_aload_n hA si_103_10 rfl ?_
  refine sr_aload_n hA si_103_11 rfl ?_
  refine sr_getR (r := 18) hA si_103_12 sf_103_12 (by decide) (by decide) rfl rfl rfl ?_
  refine sr_getIv (v := nI n) hA si_103_15 sf_103_96 (by decide) (by decide) rfl (by decide) hK.1 ?_
  refine sr_VFi (c := (23 + d)) (ci := 2) (as := [.ref 41, .int (nI n)]) (st := []) hA si_103_18 sv_104 sk_103_137 (xb_like0 X g (s := 23 + d) (o := 30 + d) (sp_bh (by omega)) sp_sd41 hn6 hv hu hb hq hne) (by omega) rfl (by decide) (sp_bh (by omega)).1 (sp_bh (by omega)).2.1 sq_c_104 rfl (Nat.le_of_ble_eq_true rfl) ?_
  refine sr_if_neN (tgt := 26) hA si_103_21 (by decide) (by omega) (fun c2 => absurd c2 (by omega)) (fun c2 => ?_)
  refine sr_iconst (v := nI 0) hA si_103_24 (by decide) ?_
  exact sr_iretF hA si_103_25 sq_r_103 rfl rfl
set_option maxRecDepth 20000 in
theorem xb_toB (X : sp_X) (g : sp_G) {d n : Nat} {K T P v u : Nat → Int32} (hd : d ≤ 6) (hK : sp_KX n K T P g) (hv : sp_h8 g (23 + d) (30 + d) v) (hu : sp_h8 g 41 42 u) (hq : ∀ j, j < n → v j = u j) (h5 : g.1 17 5 = -1) : sp_Ct X 5 103 [.ref 17, .int (nI d), .int (nI 0), .ref 41] g (sp_Ri (fun x g' => x = nI 1 ∧ sp_rmb d g g')) := by
  have hn6 := hK.2.1
  refine sp_walkN (n := 6) sq_p_103 sq_l_103 (Nat.le_of_ble_eq_true rfl) (fun a hA => ?_)
  show sp_Ev X a 103 0 [.ref 17, .int (nI d), .int (nI 0), .ref 41, .null, .null] [] g
  refine sr_iload_n hA si_103_0 rfl ?_
  refine sr_if_neN (tgt := 40) hA si_103_1 (by decide) (by omega) (fun c1 => absurd c1 (by omega)) (fun c1 => ?_)
  refine sr_aload_n hA si_103_4 rfl ?_
  refine sr_getR (r := 22) hA si_103_5 sf_103_20 (by decide) (by decide) rfl rfl rfl ?_
  refine sr_iload_n hA si_103_8 rfl ?_
  refine sr_aaldN (r := (23 + d)) (n := 7) hA si_103_9 (by decide) (by decide) rfl (by omega) (by decide) (sp_bhr (by omega)) ?_
  refine sr_aload_n hA si_103_10 rfl ?_
  refine sr_aload_n hA si_103_11 rfl ?_
  refine sr_getR (r := 18) hA si_103_12 sf_103_12 (by decide) (by decide) rfl rfl rfl ?_
  refine sr_getIv (v := nI n) hA si_103_15 sf_103_96 (by decide) (by decide) rfl (by decide) hK.1 ?_
  refine sr_VFi (c := (23 + d)) (ci := 2) (as := [.ref 41, .int (nI n)]) (st := []) hA si_103_18 sv_104 sk_103_137 (xb_like1 X g (s := 23 + d) (o := 30 + d) (sp_bh (by omega)) sp_sd41 hn6 hv hu hq) (by omega) rfl (by decide) (sp_bh (by omega)).1 (sp_bh (by omega)).2.1 sq_c_104 rfl (Nat.le_of_ble_eq_true rfl) ?_
  refine sr_if_neN (tgt := 26) hA si_103_21 (by decide) (by omega) (fun c2 => ?_) (fun c2 => absurd c2 (by omega))
  refine sr_aload_n hA si_103_26 rfl ?_
  refine sr_VFi (c := 17) (ci := 4) (as := []) (st := []) hA si_103_27 sv_82 sk_103_43 (xb_has0 X g h5) (by omega) rfl (by decide) (by decide) rfl sq_c_82 rfl (Nat.le_of_ble_eq_true rfl) ?_
  refine sr_if_neN (tgt := 38) hA si_103_30 (by decide) (by omega) (fun c3 => absurd c3 (by omega)) (fun c3 => ?_)
  refine sr_aload_n hA si_103_33 rfl ?_
  refine sr_iload_n hA si_103_34 rfl ?_
  refine sr_VRv (c := 17) (ci := 4) (as := [.int (nI d)]) (st := []) hA si_103_35 sv_80 sk_103_84 (xb_rmb X g (q := d) hd) (by omega) rfl (by decide) (by decide) rfl sq_c_80 rfl (Nat.le_of_ble_eq_true rfl) (fun g1 q1 => ?_)
  refine sr_iconst (v := nI 1) hA si_103_38 (by decide) ?_
  exact sr_iretR hA si_103_39 sq_r_103 ⟨rfl, q1⟩
set_option maxRecDepth 20000 in
theorem xb_toC (X : sp_X) (g : sp_G) {d n : Nat} {K T P v u : Nat → Int32} (hd : d ≤ 6) (hK : sp_KX n K T P g) (hv : sp_h8 g (23 + d) (30 + d) v) (hu : sp_h8 g 41 42 u) {q : Nat} (hq6 : q ≤ 6) (hq : ∀ j, j < n → v j = u j) (h5 : g.1 17 5 = nI q) : sp_Ct X 5 103 [.ref 17, .int (nI d), .int (nI 0), .ref 41] g (sp_Fi (nI 1) g) := by
  have hn6 := hK.2.1
  refine sp_walkN (n := 6) sq_p_103 sq_l_103 (Nat.le_of_ble_eq_true rfl) (fun a hA => ?_)
  show sp_Ev X a 103 0 [.ref 17, .int (nI d), .int (nI 0), .ref 41, .null, .null] [] g
  refine sr_iload_n hA si_103_0 rfl ?_
  refine sr_if_neN (tgt := 40) hA si_103_1 (by decide) (by omega) (fun c1 => absurd c1 (by omega)) (fun c1 => ?_)
  refine sr_aload_n hA si_103_4 rfl ?_
  refine sr_getR (r := 22) hA si_103_5 sf_103_20 (by decide) (by decide) rfl rfl rfl ?_
  refine sr_iload_n hA si_103_8 rfl ?_
  refine sr_aaldN (r := (23 + d)) (n := 7) hA si_103_9 (by decide) (by decide) rfl (by omega) (by decide) (sp_bhr (by omega)) ?_
  refine sr_aload_n hA si_103_10 rfl ?_
  refine sr_aload_n hA si_103_11 rfl ?_
  refine sr_getR (r := 18) hA si_103_12 sf_103_12 (by decide) (by decide) rfl rfl rfl ?_
  refine sr_getIv (v := nI n) hA si_103_15 sf_103_96 (by decide) (by decide) rfl (by decide) hK.1 ?_
  refine sr_VFi (c := (23 + d)) (ci := 2) (as := [.ref 41, .int (nI n)]) (st := []) hA si_103_18 sv_104 sk_103_137 (xb_like1 X g (s := 23 + d) (o := 30 + d) (sp_bh (by omega)) sp_sd41 hn6 hv hu hq) (by omega) rfl (by decide) (sp_bh (by omega)).1 (sp_bh (by omega)).2.1 sq_c_104 rfl (Nat.le_of_ble_eq_true rfl) ?_
  refine sr_if_neN (tgt := 26) hA si_103_21 (by decide) (by omega) (fun c2 => ?_) (fun c2 => absurd c2 (by omega))
  refine sr_aload_n hA si_103_26 rfl ?_
  refine sr_VFi (c := 17) (ci := 4) (as := []) (st := []) hA si_103_27 sv_82 sk_103_43 (xb_has1 X g hq6 h5) (by omega) rfl (by decide) (by decide) rfl sq_c_82 rfl (Nat.le_of_ble_eq_true rfl) ?_
  refine sr_if_neN (tgt := 38) hA si_103_30 (by decide) (by omega) (fun c3 => ?_) (fun c3 => absurd c3 (by omega))
  refine sr_iconst (v := nI 1) hA si_103_38 (by decide) ?_
  exact sr_iretF hA si_103_39 sq_r_103 rfl rfl
set_option maxRecDepth 20000 in
theorem xl_to {X : sp_X} {ac : sp_Ac} {g : sp_G} {n d m q A Bq : Nat} {K T P v u : Nat → Int32} {w : Nat → Nat} {s : sp_Bs} (hd : d + (m + 1) = q) (hq4 : q ≤ 4) (hK : sp_KX n K T P g) (hv : sp_h8 g (23 + d) (30 + d) v) (hB : sp_oB n A Bq v) (hAb : A < 2 ^ 20) (hBb : Bq < 2 ^ 20) (hw : sp_wy g d w) (hu : sp_h8 g 41 42 u) (IH : ∀ (v : Nat → Int32) (w : Nat → Nat) (g : sp_G) (s : sp_Bs), sp_KX n K T P g → sp_h8 g (23 + (d + 1)) (30 + (d + 1)) v → sp_oB n (A + 2) (Bq + 2) v → sp_wy g (d + 1) w → sp_h8 g 41 42 u → sp_qx q g s.2 → sp_Ct X (m + 5) 103 [.ref 17, .int (nI (d + 1)), .int (nI m), .ref 41] g (sp_Ri (fun x g' => (∃ k, x = nI k ∧ (sp_go n K T P (sp_lb n u) m (d + 1) v w s).1 = s.1 + k) ∧ sp_lvx (d + 1) g g' ∧ sp_qx q g' (sp_go n K T P (sp_lb n u) m (d + 1) v w s).2))) (hA : sp_Act X 103 (m + 6) (sp_Ri (fun x g' => (∃ k, x = nI k ∧ (sp_go n K T P (sp_lb n u) (m + 1) d v w s).1 = s.1 + k) ∧ sp_lvx d g g' ∧ sp_qx q g' (sp_go n K T P (sp_lb n u) (m + 1) d v w s).2)) ac) : ∀ (k : Nat) (i : Nat) (gg : sp_G) (ak : Nat), i + k = n → sp_lvx d g gg → sp_qx q gg (sp_gs n K T P (sp_lb n u) m d v w s i).2 → (sp_gs n K T P (sp_lb n u) m d v w s i).1 = s.1 + ak → sp_Ev X ac 103 46 [.ref 17, .int (nI d), .int (nI (m + 1)), .ref 41, .int (nI ak), .int (nI i)] [] gg := by
  intro k
  induction k with
  | zero =>
    intro i gg ak h0_ h1_ h2_ h3_
    have hn6 := hK.2.1
    refine sr_iload hA si_103_46 rfl ?_
    refine sr_aload_n hA si_103_48 rfl ?_
    refine sr_getR (r := 18) hA si_103_49 sf_103_12 (by decide) (by decide) rfl rfl rfl ?_
    refine sr_getIv (v := nI n) hA si_103_52 sf_103_96 (by decide) (by decide) rfl (by decide) (hK.xa h1_.xa).1 ?_
    refine sr_icmp_geN (tgt := 90) hA si_103_55 (by decide) (by omega) (by omega) (fun c1 => ?_) (fun c1 => absurd c1 (by omega))
    refine sr_iload hA si_103_90 rfl ?_
    exact sr_iretR hA si_103_92 sq_r_103 ⟨⟨ak, rfl, by rw [← h3_, show i = n by omega]; rfl⟩, h1_, by rw [show i = n by omega] at h2_; exact h2_⟩
  | succ k ih =>
    intro i gg ak h0_ h1_ h2_ h3_
    have hn6 := hK.2.1
    refine sr_iload hA si_103_46 rfl ?_
    refine sr_aload_n hA si_103_48 rfl ?_
    refine sr_getR (r := 18) hA si_103_49 sf_103_12 (by decide) (by decide) rfl rfl rfl ?_
    refine sr_getIv (v := nI n) hA si_103_52 sf_103_96 (by decide) (by decide) rfl (by decide) (hK.xa h1_.xa).1 ?_
    refine sr_icmp_geN (tgt := 90) hA si_103_55 (by decide) (by omega) (by omega) (fun c1 => absurd c1 (by omega)) (fun c1 => ?_)
    refine sr_aload_n hA si_103_58 rfl ?_
    refine sr_iload_n hA si_103_59 rfl ?_
    refine sr_iload hA si_103_60 rfl ?_
    by_cases hcb : sp_cb (K i) (T i) (v i) = true
    · refine sr_VRi (c := 17) (ci := 4) (as := [.int (nI d), .int (nI i)]) (st := []) hA si_103_62 sv_88 sk_103_107 (xb_step1 X gg (d := d) (i := i) (by omega) (hK.xa h1_.xa) (by omega) (hv.dx h1_ (by omega)) hB (by omega) hcb) (by omega) rfl (by decide) (by decide) rfl sq_c_88 rfl (Nat.le_of_ble_eq_true rfl) (fun xs g1 qs => ?_)
      obtain ⟨exs, qs⟩ := qs
      subst exs
      have hl1 := h1_.tr (qs.dx (by omega))
      refine sr_if_eqN (tgt := 84) hA si_103_65 (by decide) (by omega) (fun c2 => absurd c2 (by omega)) (fun c2 => ?_)
      refine sr_iload hA si_103_68 rfl ?_
      refine sr_aload_n hA si_103_70 rfl ?_
      refine sr_iload_n hA si_103_71 rfl ?_
      refine sr_iconst (v := nI 1) hA si_103_72 (by decide) ?_
      refine sr_iaddN hA si_103_73 ?_
      refine sr_iload_n hA si_103_74 rfl ?_
      refine sr_iconst (v := nI 1) hA si_103_75 (by decide) ?_
      refine sr_isubN hA si_103_76 (by omega) ?_
      rw [show m + 1 - 1 = m by omega]
      refine sr_aload_n hA si_103_77 rfl ?_
      refine sr_VRi (c := 17) (ci := 4) (as := [.int (nI (d + 1)), .int (nI m), .ref 41]) (st := [.int (nI ak)]) hA si_103_78 sv_103 sk_103_133 (IH (sp_pl n K P v i) (sp_un w d i) g1 (sp_gs n K T P (sp_lb n u) m d v w s i) (hK.xa hl1.xa) qs.2.2.2.2.1 (sp_oB.pl hB hn6 (by omega) (by omega) (by omega)) ((hw.dx h1_).stp qs) (hu.xa hl1.xa (by unfold sp_xs; omega) (by unfold sp_xs; omega)) (h2_.stp qs (by omega))) (by omega) rfl (by decide) (by decide) rfl sq_c_103 rfl (Nat.le_of_ble_eq_true rfl) (fun xv g2 q2 => ?_)
      obtain ⟨⟨k2, exv, hk2⟩, hl2, hr2⟩ := q2
      subst exv
      refine sr_iaddN hA si_103_81 ?_
      refine sr_istore (ls1 := [.ref 17, .int (nI d), .int (nI (m + 1)), .ref 41, .int (nI (ak + k2)), .int (nI i)]) hA si_103_82 (by rw [sq_l_103]; decide) rfl ?_
      refine sr_iincN (x := i) (y := 1) (ls1 := [.ref 17, .int (nI d), .int (nI (m + 1)), .ref 41, .int (nI (ak + k2)), .int (nI (i + 1))]) hA si_103_84 rfl rfl (by rw [sq_l_103]; decide) rfl ?_
      refine sr_goto (tgt := 46) hA si_103_87 (by decide) ?_
      exact ih (i + 1) g2 (ak + k2) (by omega) (hl1.tr (hl2.lo (by omega))) (by rw [sp_gs1 hcb]; exact hr2) (by rw [sp_gs1 hcb, hk2, h3_]; omega)
    · refine sr_VFi (c := 17) (ci := 4) (as := [.int (nI d), .int (nI i)]) (st := []) hA si_103_62 sv_88 sk_103_107 (xb_step0 X gg (d := d) (i := i) (by omega) (hK.xa h1_.xa) (by omega) (hv.dx h1_ (by omega)) hcb) (by omega) rfl (by decide) (by decide) rfl sq_c_88 rfl (Nat.le_of_ble_eq_true rfl) ?_
      refine sr_if_eqN (tgt := 84) hA si_103_65 (by decide) (by omega) (fun c3 => ?_) (fun c3 => absurd c3 (by omega))
      refine sr_iincN (x := i) (y := 1) (ls1 := [.ref 17, .int (nI d), .int (nI (m + 1)), .ref 41, .int (nI ak), .int (nI (i + 1))]) hA si_103_84 rfl rfl (by rw [sq_l_103]; decide) rfl ?_
      refine sr_goto (tgt := 46) hA si_103_87 (by decide) ?_
      exact ih (i + 1) gg ak (by omega) h1_ (by rw [sp_gs0 hcb]; exact h2_) (by rw [sp_gs0 hcb]; exact h3_)
set_option maxRecDepth 20000 in
theorem xb_toS {X : sp_X} {g : sp_G} {n d m q A Bq : Nat} {K T P v u : Nat → Int32} {w : Nat → Nat} {s : sp_Bs} (hd : d + (m + 1) = q) (hq4 : q ≤ 4) (hK : sp_KX n K T P g) (hv : sp_h8 g (23 + d) (30 + d) v) (hB : sp_oB n A Bq v) (hAb : A < 2 ^ 20) (hBb : Bq < 2 ^ 20) (hw : sp_wy g d w) (hu : sp_h8 g 41 42 u) (hq0 : sp_qx q g s.2) (IH : ∀ (v : Nat → Int32) (w : Nat → Nat) (g : sp_G) (s : sp_Bs), sp_KX n K T P g → sp_h8 g (23 + (d + 1)) (30 + (d + 1)) v → sp_oB n (A + 2) (Bq + 2) v → sp_wy g (d + 1) w → sp_h8 g 41 42 u → sp_qx q g s.2 → sp_Ct X (m + 5) 103 [.ref 17, .int (nI (d + 1)), .int (nI m), .ref 41] g (sp_Ri (fun x g' => (∃ k, x = nI k ∧ (sp_go n K T P (sp_lb n u) m (d + 1) v w s).1 = s.1 + k) ∧ sp_lvx (d + 1) g g' ∧ sp_qx q g' (sp_go n K T P (sp_lb n u) m (d + 1) v w s).2))) : sp_Ct X (m + 6) 103 [.ref 17, .int (nI d), .int (nI (m + 1)), .ref 41] g (sp_Ri (fun x g' => (∃ k, x = nI k ∧ (sp_go n K T P (sp_lb n u) (m + 1) d v w s).1 = s.1 + k) ∧ sp_lvx d g g' ∧ sp_qx q g' (sp_go n K T P (sp_lb n u) (m + 1) d v w s).2)) := by
  have hn6 := hK.2.1
  refine sp_walkN (n := 6) sq_p_103 sq_l_103 (Nat.le_of_ble_eq_true rfl) (fun ac hA => ?_)
  show sp_Ev X ac 103 0 [.ref 17, .int (nI d), .int (nI (m + 1)), .ref 41, .null, .null] [] g
  refine sr_iload_n hA si_103_0 rfl ?_
  refine sr_if_neN (tgt := 40) hA si_103_1 (by decide) (by omega) (fun c1 => ?_) (fun c1 => absurd c1 (by omega))
  refine sr_iconst (v := nI 0) hA si_103_40 (by decide) ?_
  refine sr_istore (ls1 := [.ref 17, .int (nI d), .int (nI (m + 1)), .ref 41, .int (nI 0), .null]) hA si_103_41 (by rw [sq_l_103]; decide) rfl ?_
  refine sr_iconst (v := nI 0) hA si_103_43 (by decide) ?_
  refine sr_istore (ls1 := [.ref 17, .int (nI d), .int (nI (m + 1)), .ref 41, .int (nI 0), .int (nI 0)]) hA si_103_44 (by rw [sq_l_103]; decide) rfl ?_
  exact xl_to hd hq4 hK hv hB hAb hBb hw hu IH hA n 0 g 0 (by omega) sp_lvx.rf hq0 rfl
theorem xb_to (X : sp_X) {n q : Nat} {K T P u : Nat → Int32} (hq4 : q ≤ 4) : ∀ (m d A Bq : Nat) (v : Nat → Int32) (w : Nat → Nat) (g : sp_G) (s : sp_Bs), d + m = q → A + 2 * m < 2 ^ 20 → Bq + 2 * m < 2 ^ 20 → sp_KX n K T P g → sp_h8 g (23 + d) (30 + d) v → sp_oB n A Bq v → sp_wy g d w → sp_h8 g 41 42 u → sp_qx q g s.2 → sp_Ct X (m + 5) 103 [.ref 17, .int (nI d), .int (nI m), .ref 41] g (sp_Ri (fun x g' => (∃ k, x = nI k ∧ (sp_go n K T P (sp_lb n u) m d v w s).1 = s.1 + k) ∧ sp_lvx d g g' ∧ sp_qx q g' (sp_go n K T P (sp_lb n u) m d v w s).2))
  | 0, d, A, Bq, v, w, g, s, hd, hA, hB, hK, hv, hO, hw, hu, hq0 => by
    rcases sp_lk_or n v u with hq | ⟨b, hb, hq, hne⟩
    · have e : sp_go n K T P (sp_lb n u) 0 d v w s = (s.1 + 1, some (s.2.getD w)) := if_pos hq
      rw [e]
      cases hs : s.2 with
      | none =>
        rw [hs] at hq0
        refine (xb_toB X g (by omega) hK hv hu hq hq0).mono (fun r g' q1 => ?_)
        obtain ⟨x, e1, e2, e3⟩ := q1
        refine ⟨x, e1, ⟨1, e2, rfl⟩, e3.dx (by omega), ?_, fun j hj => ?_⟩
        · rw [e3.2.2.2.1, show d = q by omega]
        · rw [e3.2.2.2.2 j (by omega)]; exact hw j (by omega)
      | some w0 =>
        rw [hs] at hq0
        refine (xb_toC X g (by omega) hK hv hu (q := q) (by omega) hq hq0.1).mono (fun r g' q1 => ?_)
        obtain ⟨e1, rfl⟩ := q1
        exact ⟨_, e1, ⟨1, rfl, rfl⟩, sp_lvx.rf, hq0⟩
    · have e : sp_go n K T P (sp_lb n u) 0 d v w s = s := if_neg (fun h => hne (h b hb))
      rw [e]
      refine (xb_toA X g (by omega) hK hv hu hb hq hne).mono (fun r g' q1 => ?_)
      obtain ⟨e1, rfl⟩ := q1
      exact ⟨_, e1, ⟨0, rfl, rfl⟩, sp_lvx.rf, hq0⟩
  | m + 1, d, A, Bq, v, w, g, s, hd, hA, hB, hK, hv, hO, hw, hu, hq0 => xb_toS hd hq4 hK hv hO (by omega) (by omega) hw hu hq0 (fun v' w' g' s' a1 a2 a3 a4 a5 a6 => xb_to X hq4 m (d + 1) (A + 2) (Bq + 2) v' w' g' s' (by omega) (by omega) (by omega) a1 a2 a3 a4 a5 a6)
def sp_qm (q : Nat) (g : sp_G) (s : sp_Bs) : Prop := g.1 64 32 = nI s.1 ∧ (s.1 = 0 ↔ s.2 = none) ∧ ∀ w, s.2 = some w → ∀ j, j < q → g.1 83 j = nI (w j)
theorem sp_qm.eq {q : Nat} {g g1 : sp_G} {s : sp_Bs} (h : sp_qm q g s) (h1 : g1.1 64 32 = g.1 64 32) (h2 : g1.1 83 = g.1 83) : sp_qm q g1 s := ⟨h1.trans h.1, h.2.1, fun w hw j hj => by rw [h2]; exact h.2.2 w hw j hj⟩
theorem sp_qm.sm {q F F' : Nat} {g g1 : sp_G} {s : sp_Bs} {u : Nat → Int32} {p : Int32} {d i : Nat} (h : sp_qm q g s) (k : sp_sm2 F F' g g1 u p) : sp_qm q (sp_wI g1 82 d (nI i)) s := h.eq (by show g1.1 64 32 = _; rw [k.1 64 (by decide)]) (by show g1.1 83 = _; rw [k.1 83 (by decide)])
set_option maxRecDepth 20000 in
theorem mb_bkA (X : sp_X) (g : sp_G) {d q n : Nat} {K T P v u : Nat → Int32} (hdq : d = q) (hq4 : q ≤ 4) (hK : sp_KM n K T P g) (hv : sp_f8 g (1 + d) v) (hu : sp_f8 g 0 u) {b : Nat} (hb : b < n) (hq : ∀ j, j < b → v j = u j) (hne : v b ≠ u b) : sp_Ct X 5 210 [.ref 64, .int (nI d), .int (nI q)] g (sp_Fv g) := by
  have hn6 := hK.2.1
  refine sp_walkN (n := 4) sq_p_210 sq_l_210 (Nat.le_of_ble_eq_true rfl) (fun a hA => ?_)
  show sp_Ev X a 210 0 [.ref 64, .int (nI d), .int (nI q), .null] [] g
  refine sr_iload_n hA si_210_0 rfl ?_
  refine sr_iload_n hA si_210_1 rfl ?_
  refine sr_icmp_neN (tgt := 38) hA si_210_2 (by decide) (by omega) (by omega) (fun c1 => absurd c1 (by omega)) (fun c1 => ?_)
  refine sr_aload_n hA si_210_5 rfl ?_
  refine sr_iconst (v := nI 1) hA si_210_6 (by decide) ?_
  refine sr_iload_n hA si_210_7 rfl ?_
  refine sr_iaddN hA si_210_8 ?_
  refine sr_VFi (c := 64) (ci := 8) (as := [.int (nI (1 + d))]) (st := []) hA si_210_9 sv_211 sk_210_256 (mb_now0 X g (f := 1 + d) (by omega) hn6 hK.1 hv hu hb hq hne) (by omega) rfl (by decide) (by decide) rfl sq_c_211 rfl (Nat.le_of_ble_eq_true rfl) ?_
  refine sr_if_eqN (tgt := 37) hA si_210_12 (by decide) (by omega) (fun c2 => ?_) (fun c2 => absurd c2 (by omega))
  exact sr_vretF hA si_210_37 sq_r_210 rfl
set_option maxRecDepth 20000 in
theorem mb_bkB (X : sp_X) (g : sp_G) {d q n : Nat} {K T P v u : Nat → Int32} (hdq : d = q) (hq4 : q ≤ 4) (hK : sp_KM n K T P g) (hv : sp_f8 g (1 + d) v) (hu : sp_f8 g 0 u) (hq : ∀ j, j < n → v j = u j) (h32 : g.1 64 32 = nI 0) : sp_Ct X 5 210 [.ref 64, .int (nI d), .int (nI q)] g (sp_Rv (fun g' => ∃ gg, sp_tt g gg q ∧ g' = sp_wI gg 64 32 (nI (0 + 1)))) := by
  have hn6 := hK.2.1
  refine sp_walkN (n := 4) sq_p_210 sq_l_210 (Nat.le_of_ble_eq_true rfl) (fun a hA => ?_)
  show sp_Ev X a 210 0 [.ref 64, .int (nI d), .int (nI q), .null] [] g
  refine sr_iload_n hA si_210_0 rfl ?_
  refine sr_iload_n hA si_210_1 rfl ?_
  refine sr_icmp_neN (tgt := 38) hA si_210_2 (by decide) (by omega) (by omega) (fun c1 => absurd c1 (by omega)) (fun c1 => ?_)
  refine sr_aload_n hA si_210_5 rfl ?_
  refine sr_iconst (v := nI 1) hA si_210_6 (by decide) ?_
  refine sr_iload_n hA si_210_7 rfl ?_
  refine sr_iaddN hA si_210_8 ?_
  refine sr_VFi (c := 64) (ci := 8) (as := [.int (nI (1 + d))]) (st := []) hA si_210_9 sv_211 sk_210_256 (mb_now1 X g (f := 1 + d) (by omega) hn6 hK.1 hv hu hq) (by omega) rfl (by decide) (by decide) rfl sq_c_211 rfl (Nat.le_of_ble_eq_true rfl) ?_
  refine sr_if_eqN (tgt := 37) hA si_210_12 (by decide) (by omega) (fun c2 => absurd c2 (by omega)) (fun c2 => ?_)
  refine sr_aload_n hA si_210_15 rfl ?_
  refine sr_getIv (v := nI 0) hA si_210_16 sf_210_247 (by decide) (by decide) rfl (by decide) h32 ?_
  refine sr_if_neN (tgt := 27) hA si_210_19 (by decide) (by omega) (fun c3 => absurd c3 (by omega)) (fun c3 => ?_)
  refine sr_aload_n hA si_210_22 rfl ?_
  refine sr_iload_n hA si_210_23 rfl ?_
  refine sr_VRv (c := 64) (ci := 8) (as := [.int (nI q)]) (st := []) hA si_210_24 sv_202 sk_210_228 (mb_tt X g (q := q) (by omega)) (by omega) rfl (by decide) (by decide) rfl sq_c_202 rfl (Nat.le_of_ble_eq_true rfl) (fun g1 q1 => ?_)
  refine sr_aload_n hA si_210_27 rfl ?_
  refine sr_dup hA si_210_28 rfl ?_
  refine sr_getIv (v := nI 0) hA si_210_29 sf_210_247 (by decide) (by decide) rfl (by decide) ((congrFun (q1.1 64 (by decide)) 32).trans h32) ?_
  refine sr_iconst (v := nI 1) hA si_210_32 (by decide) ?_
  refine sr_iaddN hA si_210_33 ?_
  refine sr_putI hA si_210_34 sf_210_247 rfl rfl (by decide) (by decide) rfl rfl ?_
  exact sr_vretR hA si_210_37 sq_r_210 ⟨g1, q1, rfl⟩
set_option maxRecDepth 20000 in
theorem mb_bkC (X : sp_X) (g : sp_G) {d q n : Nat} {K T P v u : Nat → Int32} (hdq : d = q) (hq4 : q ≤ 4) (hK : sp_KM n K T P g) (hv : sp_f8 g (1 + d) v) (hu : sp_f8 g 0 u) (hq : ∀ j, j < n → v j = u j) {c : Nat} (hc : 0 < c) (hcb : c < 2 ^ 30) (h32 : g.1 64 32 = nI c) : sp_Ct X 5 210 [.ref 64, .int (nI d), .int (nI q)] g (sp_Fv (sp_wI g 64 32 (nI (c + 1)))) := by
  have hn6 := hK.2.1
  refine sp_walkN (n := 4) sq_p_210 sq_l_210 (Nat.le_of_ble_eq_true rfl) (fun a hA => ?_)
  show sp_Ev X a 210 0 [.ref 64, .int (nI d), .int (nI q), .null] [] g
  refine sr_iload_n hA si_210_0 rfl ?_
  refine sr_iload_n hA si_210_1 rfl ?_
  refine sr_icmp_neN (tgt := 38) hA si_210_2 (by decide) (by omega) (by omega) (fun c1 => absurd c1 (by omega)) (fun c1 => ?_)
  refine sr_aload_n hA si_210_5 rfl ?_
  refine sr_iconst (v := nI 1) hA si_210_6 (by decide) ?_
  refine sr_iload_n hA si_210_7 rfl ?_
  refine sr_iaddN hA si_210_8 ?_
  refine sr_VFi (c := 64) (ci := 8) (as := [.int (nI (1 + d))]) (st := []) hA si_210_9 sv_211 sk_210_256 (mb_now1 X g (f := 1 + d) (by omega) hn6 hK.1 hv hu hq) (by omega) rfl (by decide) (by decide) rfl sq_c_211 rfl (Nat.le_of_ble_eq_true rfl) ?_
  refine sr_if_eqN (tgt := 37) hA si_210_12 (by decide) (by omega) (fun c2 => absurd c2 (by omega)) (fun c2 => ?_)
  refine sr_aload_n hA si_210_15 rfl ?_
  refine sr_getIv (v := nI c) hA si_210_16 sf_210_247 (by decide) (by decide) rfl (by decide) h32 ?_
  refine sr_if_neN (tgt := 27) hA si_210_19 (by decide) (by omega) (fun c3 => ?_) (fun c3 => absurd c3 (by omega))
  refine sr_aload_n hA si_210_27 rfl ?_
  refine sr_dup hA si_210_28 rfl ?_
  refine sr_getIv (v := nI c) hA si_210_29 sf_210_247 (by decide) (by decide) rfl (by decide) h32 ?_
  refine sr_iconst (v := nI 1) hA si_210_32 (by decide) ?_
  refine sr_iaddN hA si_210_33 ?_
  refine sr_putI hA si_210_34 sf_210_247 rfl rfl (by decide) (by decide) rfl rfl ?_
  exact sr_vretF hA si_210_37 sq_r_210 rfl
set_option maxRecDepth 20000 in
theorem ml_bk {X : sp_X} {ac : sp_Ac} {g : sp_G} {n d m q : Nat} {K T P v u : Nat → Int32} {w : Nat → Nat} {s : sp_Bs} (hd : d + (m + 1) = q) (hq4 : q ≤ 4) (hK : sp_KM n K T P g) (hv : sp_f8 g (1 + d) v) (hw : sp_tw g d w) (hu : sp_f8 g 0 u) (hs : s.1 + 6 ^ (m + 1) ≤ 2000) (IH : ∀ (v : Nat → Int32) (w : Nat → Nat) (g : sp_G) (s : sp_Bs), sp_KM n K T P g → sp_f8 g (1 + (d + 1)) v → sp_tw g (d + 1) w → sp_f8 g 0 u → sp_qm q g s → s.1 + 6 ^ m ≤ 2000 → sp_Ct X (m + 5) 210 [.ref 64, .int (nI (d + 1)), .int (nI q)] g (sp_Rv (fun g' => sp_dm (1 + (d + 1)) (d + 1) g g' ∧ sp_qm q g' (sp_go n K T P (sp_lb n u) m (d + 1) v w s)))) (hA : sp_Act X 210 (m + 6) (sp_Rv (fun g' => sp_dm (1 + d) d g g' ∧ sp_qm q g' (sp_go n K T P (sp_lb n u) (m + 1) d v w s))) ac) : ∀ (k : Nat) (i : Nat) (gg : sp_G), i + k = n → sp_dm (1 + d) d g gg → sp_qm q gg (sp_gs n K T P (sp_lb n u) m d v w s i) → sp_Ev X ac 210 40 [.ref 64, .int (nI d), .int (nI q), .int (nI i)] [] gg := by
  intro k
  induction k with
  | zero =>
    intro i gg h0_ h1_ h2_
    have hn6 := hK.2.1
    refine sr_iload_n hA si_210_40 rfl ?_
    refine sr_aload_n hA si_210_41 rfl ?_
    refine sr_getIv (v := nI n) hA si_210_42 sf_210_142 (by decide) (by decide) rfl (by decide) (hK.ma h1_.ma).1 ?_
    refine sr_icmp_geN (tgt := 98) hA si_210_45 (by decide) (by omega) (by omega) (fun c1 => ?_) (fun c1 => absurd c1 (by omega))
    exact sr_vretR hA si_210_98 sq_r_210 ⟨h1_, by rw [show i = n by omega] at h2_; exact h2_⟩
  | succ k ih =>
    intro i gg h0_ h1_ h2_
    have hn6 := hK.2.1
    refine sr_iload_n hA si_210_40 rfl ?_
    refine sr_aload_n hA si_210_41 rfl ?_
    refine sr_getIv (v := nI n) hA si_210_42 sf_210_142 (by decide) (by decide) rfl (by decide) (hK.ma h1_.ma).1 ?_
    refine sr_icmp_geN (tgt := 98) hA si_210_45 (by decide) (by omega) (by omega) (fun c1 => absurd c1 (by omega)) (fun c1 => ?_)
    refine sr_aload_n hA si_210_48 rfl ?_
    refine sr_iconst (v := nI 1) hA si_210_49 (by decide) ?_
    refine sr_iload_n hA si_210_50 rfl ?_
    refine sr_iaddN hA si_210_51 ?_
    refine sr_iload_n hA si_210_52 rfl ?_
    by_cases hcb : sp_cb (K i) (T i) (v i) = true
    · refine sr_VFi (c := 64) (ci := 8) (as := [.int (nI (1 + d)), .int (nI i)]) (st := []) hA si_210_53 sv_165 sk_210_155 (mb_can1 X gg (f := (1 + d)) (i := i) (by omega) (hK.ma h1_.ma) (by omega) (hv.dm h1_ (by omega)) hcb) (by omega) rfl (by decide) (by decide) rfl sq_c_165 rfl (Nat.le_of_ble_eq_true rfl) ?_
      refine sr_if_eqN (tgt := 92) hA si_210_56 (by decide) (by omega) (fun c2 => absurd c2 (by omega)) (fun c2 => ?_)
      refine sr_aload_n hA si_210_59 rfl ?_
      refine sr_iconst (v := nI 1) hA si_210_60 (by decide) ?_
      refine sr_iload_n hA si_210_61 rfl ?_
      refine sr_iaddN hA si_210_62 ?_
      refine sr_iconst (v := nI 2) hA si_210_63 (by decide) ?_
      refine sr_iload_n hA si_210_64 rfl ?_
      refine sr_iaddN hA si_210_65 ?_
      refine sr_VRv (c := 64) (ci := 8) (as := [.int (nI (1 + d)), .int (nI (2 + d))]) (st := []) hA si_210_66 sv_192 sk_210_212 (mb_copyTo X gg (f := (1 + d)) (t := (2 + d)) (by omega) (by omega) (by omega) (hv.dm h1_ (by omega))) (by omega) rfl (by decide) (by decide) rfl sq_c_192 rfl (Nat.le_of_ble_eq_true rfl) (fun g1 q1 => ?_)
      refine sr_aload_n hA si_210_69 rfl ?_
      refine sr_iconst (v := nI 2) hA si_210_70 (by decide) ?_
      refine sr_iload_n hA si_210_71 rfl ?_
      refine sr_iaddN hA si_210_72 ?_
      refine sr_iload_n hA si_210_73 rfl ?_
      refine sr_VRv (c := 64) (ci := 8) (as := [.int (nI (2 + d)), .int (nI i)]) (st := []) hA si_210_74 sv_175 sk_210_192 (mb_plays X g1 (f := (2 + d)) (i := i) (by omega) ((hK.ma h1_.ma).ma (sp_ma.rf.fx q1.1 (by omega))) (by omega) q1.2.1) (by omega) rfl (by decide) (by decide) rfl sq_c_175 rfl (Nat.le_of_ble_eq_true rfl) (fun g2 q2 => ?_)
      have qs := sp_sm2.mk (F := 1 + d) q1 q2
      have hl1 := h1_.tr (qs.dm (d := d) (by omega))
      refine sr_aload_n hA si_210_77 rfl ?_
      refine sr_getR (r := 82) hA si_210_78 sf_210_67 (by decide) (by decide) rfl rfl rfl ?_
      refine sr_iload_n hA si_210_81 rfl ?_
      refine sr_iload_n hA si_210_82 rfl ?_
      refine sr_iastN (n := 12) hA si_210_83 (by decide) rfl rfl (by omega) (by decide) ?_
      refine sr_aload_n hA si_210_84 rfl ?_
      refine sr_iload_n hA si_210_85 rfl ?_
      refine sr_iconst (v := nI 1) hA si_210_86 (by decide) ?_
      refine sr_iaddN hA si_210_87 ?_
      refine sr_iload_n hA si_210_88 rfl ?_
      refine sr_VRv (c := 64) (ci := 8) (as := [.int (nI (d + 1)), .int (nI q)]) (st := []) hA si_210_89 sv_210 sk_210_259 (IH (sp_pl n K P v i) (sp_un w d i) (sp_wI g2 82 d (nI i)) (sp_gs n K T P (sp_lb n u) m d v w s i) (hK.ma (hl1.wt (Nat.le_refl _)).ma) (by rw [show 1 + (d + 1) = 2 + d by omega]; exact qs.2.2.2.1) ((hw.dm h1_).un qs) ((hu.dm hl1 (by omega)).dm (sp_dm.wt (F := 1 + d) sp_dm.rf (Nat.le_refl d)) (by omega)) (h2_.sm qs) (by have := sp_gs_le (K := K) (T := T) (P := P) (c := fun s : sp_Bs => s.1) (v := v) (w := w) (s := s) (m := m) (d := d) hn6 (sp_lb_le (n := n) (u := u)) (show i < n by omega); omega)) (by omega) rfl (by decide) (by decide) rfl sq_c_210 rfl (Nat.le_of_ble_eq_true rfl) (fun g3 q3 => ?_)
      refine sr_iincN (x := i) (y := 1) (ls1 := [.ref 64, .int (nI d), .int (nI q), .int (nI (i + 1))]) hA si_210_92 rfl rfl (by rw [sq_l_210]; decide) rfl ?_
      refine sr_goto (tgt := 40) hA si_210_95 (by decide) ?_
      exact ih (i + 1) g3 (by omega) (((hl1.wt (Nat.le_refl _))).tr (q3.1.lo (by omega) (by omega))) (by rw [sp_gs1 hcb]; exact q3.2)
    · refine sr_VFi (c := 64) (ci := 8) (as := [.int (nI (1 + d)), .int (nI i)]) (st := []) hA si_210_53 sv_165 sk_210_155 (mb_can0 X gg (f := (1 + d)) (i := i) (by omega) (hK.ma h1_.ma) (by omega) (hv.dm h1_ (by omega)) hcb) (by omega) rfl (by decide) (by decide) rfl sq_c_165 rfl (Nat.le_of_ble_eq_true rfl) ?_
      refine sr_if_eqN (tgt := 92) hA si_210_56 (by decide) (by omega) (fun c3 => ?_) (fun c3 => absurd c3 (by omega))
      refine sr_iincN (x := i) (y := 1) (ls1 := [.ref 64, .int (nI d), .int (nI q), .int (nI (i + 1))]) hA si_210_92 rfl rfl (by rw [sq_l_210]; decide) rfl ?_
      refine sr_goto (tgt := 40) hA si_210_95 (by decide) ?_
      exact ih (i + 1) gg (by omega) h1_ (by rw [sp_gs0 hcb]; exact h2_)
set_option maxRecDepth 20000 in
theorem mb_bkS {X : sp_X} {g : sp_G} {n d m q : Nat} {K T P v u : Nat → Int32} {w : Nat → Nat} {s : sp_Bs} (hd : d + (m + 1) = q) (hq4 : q ≤ 4) (hK : sp_KM n K T P g) (hv : sp_f8 g (1 + d) v) (hw : sp_tw g d w) (hu : sp_f8 g 0 u) (hs : s.1 + 6 ^ (m + 1) ≤ 2000) (hq0 : sp_qm q g s) (IH : ∀ (v : Nat → Int32) (w : Nat → Nat) (g : sp_G) (s : sp_Bs), sp_KM n K T P g → sp_f8 g (1 + (d + 1)) v → sp_tw g (d + 1) w → sp_f8 g 0 u → sp_qm q g s → s.1 + 6 ^ m ≤ 2000 → sp_Ct X (m + 5) 210 [.ref 64, .int (nI (d + 1)), .int (nI q)] g (sp_Rv (fun g' => sp_dm (1 + (d + 1)) (d + 1) g g' ∧ sp_qm q g' (sp_go n K T P (sp_lb n u) m (d + 1) v w s)))) : sp_Ct X (m + 6) 210 [.ref 64, .int (nI d), .int (nI q)] g (sp_Rv (fun g' => sp_dm (1 + d) d g g' ∧ sp_qm q g' (sp_go n K T P (sp_lb n u) (m + 1) d v w s))) := by
  refine sp_walkN (n := 4) sq_p_210 sq_l_210 (Nat.le_of_ble_eq_true rfl) (fun ac hA => ?_)
  show sp_Ev X ac 210 0 [.ref 64, .int (nI d), .int (nI q), .null] [] g
  refine sr_iload_n hA si_210_0 rfl ?_
  refine sr_iload_n hA si_210_1 rfl ?_
  refine sr_icmp_neN (tgt := 38) hA si_210_2 (by decide) (by omega) (by omega) (fun c1 => ?_) (fun c1 => absurd c1 (by omega))
  refine sr_iconst (v := nI 0) hA si_210_38 (by decide) ?_
  refine sr_istore_n (ls1 := [.ref 64, .int (nI d), .int (nI q), .int (nI 0)]) hA si_210_39 rfl (by rw [sq_l_210]; decide) rfl ?_
  exact ml_bk hd hq4 hK hv hw hu hs IH hA n 0 g (by omega) sp_dm.rf hq0
theorem mb_bk (X : sp_X) {n q : Nat} {K T P u : Nat → Int32} (hq4 : q ≤ 4) : ∀ (m d : Nat) (v : Nat → Int32) (w : Nat → Nat) (g : sp_G) (s : sp_Bs), d + m = q → sp_KM n K T P g → sp_f8 g (1 + d) v → sp_tw g d w → sp_f8 g 0 u → sp_qm q g s → s.1 + 6 ^ m ≤ 2000 → sp_Ct X (m + 5) 210 [.ref 64, .int (nI d), .int (nI q)] g (sp_Rv (fun g' => sp_dm (1 + d) d g g' ∧ sp_qm q g' (sp_go n K T P (sp_lb n u) m d v w s)))
  | 0, d, v, w, g, s, hd, hK, hv, hw, hu, hq0, hs => by
    rcases sp_lk_or n v u with hq | ⟨b, hb, hq, hne⟩
    · have e : sp_go n K T P (sp_lb n u) 0 d v w s = (s.1 + 1, some (s.2.getD w)) := if_pos hq
      rw [e]
      obtain ⟨a1, a2, a3⟩ := hq0
      have hs' : s.1 < 2 ^ 30 := by omega
      by_cases h0 : s.1 = 0
      · have hnone := a2.mp h0
        refine (mb_bkB X g (by omega) hq4 hK hv hu hq (by rw [a1, h0])).mono (fun r g' q1 => ?_)
        obtain ⟨e1, gg, e2, rfl⟩ := q1
        refine ⟨e1, (sp_tt.dm e2).wf (by omega), by rw [h0]; rfl, ⟨fun h => absurd h (by show ¬ (s.1 + 1 = 0); omega), fun h => by cases h⟩, fun w' hw' j hj => ?_⟩
        rw [hnone] at hw'
        cases hw'
        show gg.1 83 j = nI (w j)
        rw [e2.2.2 j hj]; exact hw j (by omega)
      · refine (mb_bkC X g (by omega) hq4 hK hv hu hq (c := s.1) (by omega) hs' a1).mono (fun r g' q1 => ?_)
        obtain ⟨e1, rfl⟩ := q1
        refine ⟨e1, sp_dm.rf.wf (by omega), rfl, ⟨fun h => absurd h (by show ¬ (s.1 + 1 = 0); omega), fun h => by cases h⟩, fun w' hw' j hj => ?_⟩
        cases hs2 : s.2 with
        | none => exact absurd (a2.mpr hs2) h0
        | some w0 =>
          rw [hs2] at hw'
          cases hw'
          exact a3 _ hs2 j hj
    · have e : sp_go n K T P (sp_lb n u) 0 d v w s = s := if_neg (fun h => hne (h b hb))
      rw [e]
      refine (mb_bkA X g (by omega) hq4 hK hv hu hb hq hne).mono (fun r g' q1 => ?_)
      obtain ⟨e1, rfl⟩ := q1
      exact ⟨e1, sp_dm.rf, hq0⟩
  | m + 1, d, v, w, g, s, hd, hK, hv, hw, hu, hq0, hs => mb_bkS hd hq4 hK hv hw hu hs hq0 (fun v' w' g' s' a1 a2 a3 a4 a5 a6 => mb_bk X hq4 m (d + 1) v' w' g' s' (by omega) a1 a2 a3 a4 a5 a6)
