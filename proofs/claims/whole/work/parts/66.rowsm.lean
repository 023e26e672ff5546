/-! unlike sands, the reference's -/
def sp_ql (n : Nat) (g : sp_G) (l : List (Nat → Int32)) : Prop := g.1 64 33 = nI l.length ∧ ∀ (k : Nat) (u : Nat → Int32), l[k]? = some u → ∀ j, j < n → g.1 84 (6 * k + j) = u j
theorem sp_ql.eq {n : Nat} {g g1 : sp_G} {l : List (Nat → Int32)} (h : sp_ql n g l) (h1 : g1.1 64 33 = g.1 64 33) (h2 : g1.1 84 = g.1 84) : sp_ql n g1 l := ⟨h1.trans h.1, fun k u hk j hj => by rw [h2]; exact h.2 k u hk j hj⟩
theorem sp_ls_or (n : Nat) (v : Nat → Int32) (l : List (Nat → Int32)) : ((¬ ∃ u, u ∈ l ∧ ∀ j, j < n → u j = v j) ∧ ∀ (k : Nat) (u : Nat → Int32), l[k]? = some u → ∃ b, b < n ∧ (∀ j, j < b → u j = v j) ∧ u b ≠ v b) ∨ ((∃ u, u ∈ l ∧ ∀ j, j < n → u j = v j) ∧ ∃ (k0 : Nat) (u0 : Nat → Int32), l[k0]? = some u0 ∧ (∀ j, j < n → u0 j = v j) ∧ ∀ (k : Nat) (u : Nat → Int32), k < k0 → l[k]? = some u → ∃ b, b < n ∧ (∀ j, j < b → u j = v j) ∧ u b ≠ v b) := by
  by_cases hex : ∃ u, u ∈ l ∧ ∀ j, j < n → u j = v j
  · right
    refine ⟨hex, ?_⟩
    obtain ⟨u, u1, u2⟩ := hex
    obtain ⟨k, hk⟩ := List.getElem?_of_mem u1
    obtain ⟨t, a1, ⟨u0, a2, a3⟩, a4⟩ := sp_least (Q := fun k => ∃ u : Nat → Int32, l[k]? = some u ∧ ∀ j, j < n → u j = v j) (fun k => Classical.em _) k ⟨u, hk, u2⟩
    refine ⟨t, u0, a2, a3, fun k' u' hk' hu' => ?_⟩
    rcases sp_lk_or n u' v with h | h
    · exact absurd ⟨u', hu', h⟩ (a4 k' hk')
    · exact h
  · left
    refine ⟨hex, fun k u hk => ?_⟩
    rcases sp_lk_or n u v with h | h
    · exact absurd ⟨u, List.mem_of_getElem? hk, h⟩ hex
    · exact h
def sp_mcp (g gg : sp_G) (z : Nat) (v : Nat → Int32) (i : Nat) : Prop := (∀ c, c ≠ 84 → gg.1 c = g.1 c) ∧ gg.2 = g.2 ∧ (∀ x, x < 6 * z → gg.1 84 x = g.1 84 x) ∧ ∀ j, j < i → gg.1 84 (6 * z + j) = v j
theorem sp_mcp.step {g gg : sp_G} {z i : Nat} {v : Nat → Int32} (h : sp_mcp g gg z v i) : sp_mcp g (sp_wI gg 84 (6 * z + i) (v i)) z v (i + 1) := by
  obtain ⟨h1, h2, h3, h4⟩ := h
  refine ⟨fun c hc => by rw [sp_wI_ne hc]; exact h1 c hc, h2, fun x hx => by rw [sp_rd, if_neg (by omega)]; exact h3 x hx, fun j hj => ?_⟩
  rw [sp_rd]
  by_cases e : j = i
  · subst e; rw [if_pos ⟨rfl, rfl⟩]
  · rw [if_neg (by omega)]; exact h4 j (by omega)
set_option maxRecDepth 20000 in
theorem ml_msZ {X : sp_X} {dd : Nat} {ac : sp_Ac} {g : sp_G} {f n : Nat} {v : Nat → Int32} (hf : f < 15) (hn6 : n ≤ 6) (hn : g.1 64 11 = nI n) (hv : sp_f8 g f v) {s : Nat} {u : Nat → Int32} (hs : s < 1296) (hu : ∀ j, j < n → g.1 84 (6 * s + j) = u j) {Rt : sp_Rt} (hdd : 1 ≤ dd) (kk : sp_Ev X ac 208 71 [.ref 64, .int (nI f), .int (nI 1), .int (nI s), .int (nI 0), .null] [] g) (hA : sp_Act X 208 dd Rt ac) : ∀ (m : Nat) (i : Nat), i + m = n → sp_Ev X ac 208 22 [.ref 64, .int (nI f), .int (nI 1), .int (nI s), .int (nI 0), .int (nI i)] [] g := by
  intro m
  induction m with
  | zero =>
    intro i h0_
    refine sr_iload hA si_208_22 rfl ?_
    refine sr_aload_n hA si_208_24 rfl ?_
    refine sr_getIv (v := nI n) hA si_208_25 sf_208_142 (by decide) (by decide) rfl (by decide) hn ?_
    refine sr_icmp_geN (tgt := 71) hA si_208_28 (by decide) (by omega) (by omega) (fun c1 => ?_) (fun c1 => absurd c1 (by omega))
    refine sr_fg (ls1 := [.ref 64, .int (nI f), .int (nI 1), .int (nI s), .int (nI 0), .null]) ⟨Or.inr rfl, Or.inr rfl, Or.inr rfl, Or.inr rfl, Or.inr rfl, Or.inl rfl, trivial⟩ ?_
    exact kk
  | succ m ih =>
    intro i h0_
    refine sr_iload hA si_208_22 rfl ?_
    refine sr_aload_n hA si_208_24 rfl ?_
    refine sr_getIv (v := nI n) hA si_208_25 sf_208_142 (by decide) (by decide) rfl (by decide) hn ?_
    refine sr_icmp_geN (tgt := 71) hA si_208_28 (by decide) (by omega) (by omega) (fun c1 => absurd c1 (by omega)) (fun c1 => ?_)
    refine sr_iload hA si_208_31 rfl ?_
    refine sr_if_eqN (tgt := 62) hA si_208_33 (by decide) (by omega) (fun c2 => ?_) (fun c2 => absurd c2 (by omega))
    refine sr_iconst (v := nI 0) hA si_208_62 (by decide) ?_
    refine sr_istore (ls1 := [.ref 64, .int (nI f), .int (nI 1), .int (nI s), .int (nI 0), .int (nI i)]) hA si_208_63 (by rw [sq_l_208]; decide) rfl ?_
    refine sr_iincN (x := i) (y := 1) (ls1 := [.ref 64, .int (nI f), .int (nI 1), .int (nI s), .int (nI 0), .int (nI (i + 1))]) hA si_208_65 rfl rfl (by rw [sq_l_208]; decide) rfl ?_
    refine sr_goto (tgt := 22) hA si_208_68 (by decide) ?_
    exact ih (i + 1) (by omega)
set_option maxRecDepth 20000 in
theorem ml_ms1 {X : sp_X} {dd : Nat} {ac : sp_Ac} {g : sp_G} {f n : Nat} {v : Nat → Int32} (hf : f < 15) (hn6 : n ≤ 6) (hn : g.1 64 11 = nI n) (hv : sp_f8 g f v) {s : Nat} {u : Nat → Int32} (hs : s < 1296) (hu : ∀ j, j < n → g.1 84 (6 * s + j) = u j) (hq : ∀ j, j < n → u j = v j) {Rt : sp_Rt} (hdd : 1 ≤ dd) (kk : sp_Ev X ac 208 71 [.ref 64, .int (nI f), .int (nI 1), .int (nI s), .int (nI 1), .null] [] g) (hA : sp_Act X 208 dd Rt ac) : ∀ (m : Nat) (i : Nat), i + m = n → sp_Ev X ac 208 22 [.ref 64, .int (nI f), .int (nI 1), .int (nI s), .int (nI 1), .int (nI i)] [] g := by
  intro m
  induction m with
  | zero =>
    intro i h0_
    refine sr_iload hA si_208_22 rfl ?_
    refine sr_aload_n hA si_208_24 rfl ?_
    refine sr_getIv (v := nI n) hA si_208_25 sf_208_142 (by decide) (by decide) rfl (by decide) hn ?_
    refine sr_icmp_geN (tgt := 71) hA si_208_28 (by decide) (by omega) (by omega) (fun c1 => ?_) (fun c1 => absurd c1 (by omega))
    refine sr_fg (ls1 := [.ref 64, .int (nI f), .int (nI 1), .int (nI s), .int (nI 1), .null]) ⟨Or.inr rfl, Or.inr rfl, Or.inr rfl, Or.inr rfl, Or.inr rfl, Or.inl rfl, trivial⟩ ?_
    exact kk
  | succ m ih =>
    intro i h0_
    refine sr_iload hA si_208_22 rfl ?_
    refine sr_aload_n hA si_208_24 rfl ?_
    refine sr_getIv (v := nI n) hA si_208_25 sf_208_142 (by decide) (by decide) rfl (by decide) hn ?_
    refine sr_icmp_geN (tgt := 71) hA si_208_28 (by decide) (by omega) (by omega) (fun c1 => absurd c1 (by omega)) (fun c1 => ?_)
    refine sr_iload hA si_208_31 rfl ?_
    refine sr_if_eqN (tgt := 62) hA si_208_33 (by decide) (by omega) (fun c2 => absurd c2 (by omega)) (fun c2 => ?_)
    refine sr_aload_n hA si_208_36 rfl ?_
    refine sr_getR (r := 84) hA si_208_37 sf_208_73 (by decide) (by decide) rfl rfl rfl ?_
    refine sr_bipush (v := nI 6) hA si_208_40 (by decide) ?_
    refine sr_iload_n hA si_208_42 rfl ?_
    refine sr_imulN hA si_208_43 ?_
    refine sr_iload hA si_208_44 rfl ?_
    refine sr_iaddN hA si_208_46 ?_
    refine sr_ialdNv (v := u i) (n := 7776) hA si_208_47 (by decide) rfl rfl (by omega) (by decide) (hu i (by omega)) ?_
    refine sr_aload_n hA si_208_48 rfl ?_
    refine sr_iload_n hA si_208_49 rfl ?_
    refine sr_iload hA si_208_50 rfl ?_
    refine sr_VFi (c := 64) (ci := 8) (as := [.int (nI f), .int (nI i)]) (st := [.int (u i)]) hA si_208_52 sv_164 sk_208_152 (by have h := mc_v X g (f := f) (i := i) (by omega); rw [show g.1 75 (9 * f + i) = v i from hv i (by omega)] at h; exact h) (by omega) rfl (by decide) (by decide) rfl sq_c_164 rfl (Nat.le_of_ble_eq_true rfl) ?_
    refine sr_icmp_ne (tgt := 62) hA si_208_55 (by decide) (fun c3 => absurd (hq i (by omega)) c3) (fun c3 => ?_)
    refine sr_iconst (v := nI 1) hA si_208_58 (by decide) ?_
    refine sr_goto (tgt := 63) hA si_208_59 (by decide) ?_
    refine sr_istore (ls1 := [.ref 64, .int (nI f), .int (nI 1), .int (nI s), .int (nI 1), .int (nI i)]) hA si_208_63 (by rw [sq_l_208]; decide) rfl ?_
    refine sr_iincN (x := i) (y := 1) (ls1 := [.ref 64, .int (nI f), .int (nI 1), .int (nI s), .int (nI 1), .int (nI (i + 1))]) hA si_208_65 rfl rfl (by rw [sq_l_208]; decide) rfl ?_
    refine sr_goto (tgt := 22) hA si_208_68 (by decide) ?_
    exact ih (i + 1) (by omega)
set_option maxRecDepth 20000 in
theorem ml_ms0 {X : sp_X} {dd : Nat} {ac : sp_Ac} {g : sp_G} {f n : Nat} {v : Nat → Int32} (hf : f < 15) (hn6 : n ≤ 6) (hn : g.1 64 11 = nI n) (hv : sp_f8 g f v) {s : Nat} {u : Nat → Int32} (hs : s < 1296) (hu : ∀ j, j < n → g.1 84 (6 * s + j) = u j) {b : Nat} (hb : b < n) (hq : ∀ j, j < b → u j = v j) (hne : u b ≠ v b) {Rt : sp_Rt} (hdd : 1 ≤ dd) (kk : sp_Ev X ac 208 71 [.ref 64, .int (nI f), .int (nI 1), .int (nI s), .int (nI 0), .null] [] g) (hA : sp_Act X 208 dd Rt ac) : ∀ (m : Nat) (i : Nat), i + m = b → sp_Ev X ac 208 22 [.ref 64, .int (nI f), .int (nI 1), .int (nI s), .int (nI 1), .int (nI i)] [] g := by
  intro m
  induction m with
  | zero =>
    intro i h0_
    refine sr_iload hA si_208_22 rfl ?_
    refine sr_aload_n hA si_208_24 rfl ?_
    refine sr_getIv (v := nI n) hA si_208_25 sf_208_142 (by decide) (by decide) rfl (by decide) hn ?_
    refine sr_icmp_geN (tgt := 71) hA si_208_28 (by decide) (by omega) (by omega) (fun c1 => absurd c1 (by omega)) (fun c1 => ?_)
    refine sr_iload hA si_208_31 rfl ?_
    refine sr_if_eqN (tgt := 62) hA si_208_33 (by decide) (by omega) (fun c2 => absurd c2 (by omega)) (fun c2 => ?_)
    refine sr_aload_n hA si_208_36 rfl ?_
    refine sr_getR (r := 84) hA si_208_37 sf_208_73 (by decide) (by decide) rfl rfl rfl ?_
    refine sr_bipush (v := nI 6) hA si_208_40 (by decide) ?_
    refine sr_iload_n hA si_208_42 rfl ?_
    refine sr_imulN hA si_208_43 ?_
    refine sr_iload hA si_208_44 rfl ?_
    refine sr_iaddN hA si_208_46 ?_
    refine sr_ialdNv (v := u i) (n := 7776) hA si_208_47 (by decide) rfl rfl (by omega) (by decide) (hu i (by omega)) ?_
    refine sr_aload_n hA si_208_48 rfl ?_
    refine sr_iload_n hA si_208_49 rfl ?_
    refine sr_iload hA si_208_50 rfl ?_
    refine sr_VFi (c := 64) (ci := 8) (as := [.int (nI f), .int (nI i)]) (st := [.int (u i)]) hA si_208_52 sv_164 sk_208_152 (by have h := mc_v X g (f := f) (i := i) (by omega); rw [show g.1 75 (9 * f + i) = v i from hv i (by omega)] at h; exact h) (by omega) rfl (by decide) (by decide) rfl sq_c_164 rfl (Nat.le_of_ble_eq_true rfl) ?_
    refine sr_icmp_ne (tgt := 62) hA si_208_55 (by decide) (fun c3 => ?_) (fun c3 => absurd c3 (by rw [show i = b by omega]; exact hne))
    refine sr_iconst (v := nI 0) hA si_208_62 (by decide) ?_
    refine sr_istore (ls1 := [.ref 64, .int (nI f), .int (nI 1), .int (nI s), .int (nI 0), .int (nI i)]) hA si_208_63 (by rw [sq_l_208]; decide) rfl ?_
    refine sr_iincN (x := i) (y := 1) (ls1 := [.ref 64, .int (nI f), .int (nI 1), .int (nI s), .int (nI 0), .int (nI (i + 1))]) hA si_208_65 rfl rfl (by rw [sq_l_208]; decide) rfl ?_
    refine sr_goto (tgt := 22) hA si_208_68 (by decide) ?_
    exact ml_msZ hf hn6 hn hv hs hu hdd kk hA (n - (i + 1)) (i + 1) (by omega)
  | succ m ih =>
    intro i h0_
    refine sr_iload hA si_208_22 rfl ?_
    refine sr_aload_n hA si_208_24 rfl ?_
    refine sr_getIv (v := nI n) hA si_208_25 sf_208_142 (by decide) (by decide) rfl (by decide) hn ?_
    refine sr_icmp_geN (tgt := 71) hA si_208_28 (by decide) (by omega) (by omega) (fun c1 => absurd c1 (by omega)) (fun c1 => ?_)
    refine sr_iload hA si_208_31 rfl ?_
    refine sr_if_eqN (tgt := 62) hA si_208_33 (by decide) (by omega) (fun c2 => absurd c2 (by omega)) (fun c2 => ?_)
    refine sr_aload_n hA si_208_36 rfl ?_
    refine sr_getR (r := 84) hA si_208_37 sf_208_73 (by decide) (by decide) rfl rfl rfl ?_
    refine sr_bipush (v := nI 6) hA si_208_40 (by decide) ?_
    refine sr_iload_n hA si_208_42 rfl ?_
    refine sr_imulN hA si_208_43 ?_
    refine sr_iload hA si_208_44 rfl ?_
    refine sr_iaddN hA si_208_46 ?_
    refine sr_ialdNv (v := u i) (n := 7776) hA si_208_47 (by decide) rfl rfl (by omega) (by decide) (hu i (by omega)) ?_
    refine sr_aload_n hA si_208_48 rfl ?_
    refine sr_iload_n hA si_208_49 rfl ?_
    refine sr_iload hA si_208_50 rfl ?_
    refine sr_VFi (c := 64) (ci := 8) (as := [.int (nI f), .int (nI i)]) (st := [.int (u i)]) hA si_208_52 sv_164 sk_208_152 (by have h := mc_v X g (f := f) (i := i) (by omega); rw [show g.1 75 (9 * f + i) = v i from hv i (by omega)] at h; exact h) (by omega) rfl (by decide) (by decide) rfl sq_c_164 rfl (Nat.le_of_ble_eq_true rfl) ?_
    refine sr_icmp_ne (tgt := 62) hA si_208_55 (by decide) (fun c3 => absurd (hq i (by omega)) c3) (fun c3 => ?_)
    refine sr_iconst (v := nI 1) hA si_208_58 (by decide) ?_
    refine sr_goto (tgt := 63) hA si_208_59 (by decide) ?_
    refine sr_istore (ls1 := [.ref 64, .int (nI f), .int (nI 1), .int (nI s), .int (nI 1), .int (nI i)]) hA si_208_63 (by rw [sq_l_208]; decide) rfl ?_
    refine sr_iincN (x := i) (y := 1) (ls1 := [.ref 64, .int (nI f), .int (nI 1), .int (nI s), .int (nI 1), .int (nI (i + 1))]) hA si_208_65 rfl rfl (by rw [sq_l_208]; decide) rfl ?_
    refine sr_goto (tgt := 22) hA si_208_68 (by decide) ?_
    exact ih (i + 1) (by omega)
set_option maxRecDepth 20000 in
theorem ml_mo1 {X : sp_X} {dd : Nat} {ac : sp_Ac} {g : sp_G} {f n : Nat} {v : Nat → Int32} (hf : f < 15) (hn6 : n ≤ 6) (hn : g.1 64 11 = nI n) (hv : sp_f8 g f v) {l : List (Nat → Int32)} (hql : sp_ql n g l) (hl : l.length ≤ 1295) (hall : ∀ (k : Nat) (u : Nat → Int32), l[k]? = some u → ∃ b, b < n ∧ (∀ j, j < b → u j = v j) ∧ u b ≠ v b) {Rt : sp_Rt} (hdd : 1 ≤ dd) (kk : sp_Ev X ac 208 88 [.ref 64, .int (nI f), .int (nI 1), .null, .null, .null] [] g) (hA : sp_Act X 208 dd Rt ac) : ∀ (m : Nat) (s : Nat), s + m = l.length → sp_Ev X ac 208 4 [.ref 64, .int (nI f), .int (nI 1), .int (nI s), .null, .null] [] g := by
  intro m
  induction m with
  | zero =>
    intro s h0_
    refine sr_iload_n hA si_208_4 rfl ?_
    refine sr_aload_n hA si_208_5 rfl ?_
    refine sr_getIv (v := nI l.length) hA si_208_6 sf_208_244 (by decide) (by decide) rfl (by decide) hql.1 ?_
    refine sr_icmp_geN (tgt := 88) hA si_208_9 (by decide) (by omega) (by omega) (fun c1 => ?_) (fun c1 => absurd c1 (by omega))
    refine sr_fg (ls1 := [.ref 64, .int (nI f), .int (nI 1), .null, .null, .null]) ⟨Or.inr rfl, Or.inr rfl, Or.inr rfl, Or.inl rfl, Or.inl rfl, Or.inl rfl, trivial⟩ ?_
    exact kk
  | succ m ih =>
    intro s h0_
    have hsl : s < l.length := by omega
    obtain ⟨u, hu⟩ : ∃ u : Nat → Int32, l[s]? = some u := ⟨_, List.getElem?_eq_getElem hsl⟩
    obtain ⟨b, hb, hq, hne⟩ := hall s u hu
    refine sr_iload_n hA si_208_4 rfl ?_
    refine sr_aload_n hA si_208_5 rfl ?_
    refine sr_getIv (v := nI l.length) hA si_208_6 sf_208_244 (by decide) (by decide) rfl (by decide) hql.1 ?_
    refine sr_icmp_geN (tgt := 88) hA si_208_9 (by decide) (by omega) (by omega) (fun c1 => absurd c1 (by omega)) (fun c1 => ?_)
    refine sr_iload_n hA si_208_12 rfl ?_
    refine sr_if_eqN (tgt := 88) hA si_208_13 (by decide) (by omega) (fun c2 => absurd c2 (by omega)) (fun c2 => ?_)
    refine sr_iconst (v := nI 1) hA si_208_16 (by decide) ?_
    refine sr_istore (ls1 := [.ref 64, .int (nI f), .int (nI 1), .int (nI s), .int (nI 1), .null]) hA si_208_17 (by rw [sq_l_208]; decide) rfl ?_
    refine sr_iconst (v := nI 0) hA si_208_19 (by decide) ?_
    refine sr_istore (ls1 := [.ref 64, .int (nI f), .int (nI 1), .int (nI s), .int (nI 1), .int (nI 0)]) hA si_208_20 (by rw [sq_l_208]; decide) rfl ?_
    refine ml_ms0 hf hn6 hn hv (s := s) (u := u) (by omega) (hql.2 s u hu) hb hq hne hdd ?_ hA b 0 (by omega)
    refine sr_iload hA si_208_71 rfl ?_
    refine sr_if_neN (tgt := 80) hA si_208_73 (by decide) (by omega) (fun c3 => absurd c3 (by omega)) (fun c3 => ?_)
    refine sr_iconst (v := nI 1) hA si_208_76 (by decide) ?_
    refine sr_goto (tgt := 81) hA si_208_77 (by decide) ?_
    refine sr_istore_n (ls1 := [.ref 64, .int (nI f), .int (nI 1), .int (nI s), .int (nI 0), .null]) hA si_208_81 rfl (by rw [sq_l_208]; decide) rfl ?_
    refine sr_iincN (x := s) (y := 1) (ls1 := [.ref 64, .int (nI f), .int (nI 1), .int (nI (s + 1)), .int (nI 0), .null]) hA si_208_82 rfl rfl (by rw [sq_l_208]; decide) rfl ?_
    refine sr_goto (tgt := 4) hA si_208_85 (by decide) ?_
    refine sr_fg (ls1 := [.ref 64, .int (nI f), .int (nI 1), .int (nI (s + 1)), .null, .null]) ⟨Or.inr rfl, Or.inr rfl, Or.inr rfl, Or.inr rfl, Or.inl rfl, Or.inl rfl, trivial⟩ ?_
    exact ih (s + 1) (by omega)
set_option maxRecDepth 20000 in
theorem ml_mo0 {X : sp_X} {dd : Nat} {ac : sp_Ac} {g : sp_G} {f n : Nat} {v : Nat → Int32} (hf : f < 15) (hn6 : n ≤ 6) (hn : g.1 64 11 = nI n) (hv : sp_f8 g f v) {l : List (Nat → Int32)} (hql : sp_ql n g l) (hl : l.length ≤ 1295) {k0 : Nat} {u0 : Nat → Int32} (hk0 : l[k0]? = some u0) (hq0 : ∀ j, j < n → u0 j = v j) (hall : ∀ (k : Nat) (u : Nat → Int32), k < k0 → l[k]? = some u → ∃ b, b < n ∧ (∀ j, j < b → u j = v j) ∧ u b ≠ v b) {Rt : sp_Rt} (hdd : 1 ≤ dd) (kk : sp_Ev X ac 208 88 [.ref 64, .int (nI f), .int (nI 0), .null, .null, .null] [] g) (hA : sp_Act X 208 dd Rt ac) : ∀ (m : Nat) (s : Nat), s + m = k0 → sp_Ev X ac 208 4 [.ref 64, .int (nI f), .int (nI 1), .int (nI s), .null, .null] [] g := by
  intro m
  induction m with
  | zero =>
    intro s h0_
    have hkl : k0 < l.length := by
      by_cases e : k0 < l.length
      · exact e
      · rw [List.getElem?_eq_none (by omega)] at hk0; cases hk0
    obtain ⟨u, hu, hq⟩ : ∃ u : Nat → Int32, l[s]? = some u ∧ ∀ j, j < n → u j = v j := ⟨u0, by rw [show s = k0 by omega]; exact hk0, hq0⟩
    refine sr_iload_n hA si_208_4 rfl ?_
    refine sr_aload_n hA si_208_5 rfl ?_
    refine sr_getIv (v := nI l.length) hA si_208_6 sf_208_244 (by decide) (by decide) rfl (by decide) hql.1 ?_
    refine sr_icmp_geN (tgt := 88) hA si_208_9 (by decide) (by omega) (by omega) (fun c1 => absurd c1 (by omega)) (fun c1 => ?_)
    refine sr_iload_n hA si_208_12 rfl ?_
    refine sr_if_eqN (tgt := 88) hA si_208_13 (by decide) (by omega) (fun c2 => absurd c2 (by omega)) (fun c2 => ?_)
    refine sr_iconst (v := nI 1) hA si_208_16 (by decide) ?_
    refine sr_istore (ls1 := [.ref 64, .int (nI f), .int (nI 1), .int (nI s), .int (nI 1), .null]) hA si_208_17 (by rw [sq_l_208]; decide) rfl ?_
    refine sr_iconst (v := nI 0) hA si_208_19 (by decide) ?_
    refine sr_istore (ls1 := [.ref 64, .int (nI f), .int (nI 1), .int (nI s), .int (nI 1), .int (nI 0)]) hA si_208_20 (by rw [sq_l_208]; decide) rfl ?_
    refine ml_ms1 hf hn6 hn hv (s := s) (u := u) (by omega) (hql.2 s u hu) hq hdd ?_ hA n 0 (by omega)
    refine sr_iload hA si_208_71 rfl ?_
    refine sr_if_neN (tgt := 80) hA si_208_73 (by decide) (by omega) (fun c3 => ?_) (fun c3 => absurd c3 (by omega))
    refine sr_iconst (v := nI 0) hA si_208_80 (by decide) ?_
    refine sr_istore_n (ls1 := [.ref 64, .int (nI f), .int (nI 0), .int (nI s), .int (nI 1), .null]) hA si_208_81 rfl (by rw [sq_l_208]; decide) rfl ?_
    refine sr_iincN (x := s) (y := 1) (ls1 := [.ref 64, .int (nI f), .int (nI 0), .int (nI (s + 1)), .int (nI 1), .null]) hA si_208_82 rfl rfl (by rw [sq_l_208]; decide) rfl ?_
    refine sr_goto (tgt := 4) hA si_208_85 (by decide) ?_
    refine sr_iload_n hA si_208_4 rfl ?_
    refine sr_aload_n hA si_208_5 rfl ?_
    refine sr_getIv (v := nI l.length) hA si_208_6 sf_208_244 (by decide) (by decide) rfl (by decide) hql.1 ?_
    refine sr_icmp_geN (tgt := 88) hA si_208_9 (by decide) (by omega) (by omega) (fun c4 => ?_) (fun c4 => ?_)
    · refine sr_fg (ls1 := [.ref 64, .int (nI f), .int (nI 0), .null, .null, .null]) ⟨Or.inr rfl, Or.inr rfl, Or.inr rfl, Or.inl rfl, Or.inl rfl, Or.inl rfl, trivial⟩ ?_
      exact kk
    · refine sr_iload_n hA si_208_12 rfl ?_
      refine sr_if_eqN (tgt := 88) hA si_208_13 (by decide) (by omega) (fun c5 => ?_) (fun c5 => absurd c5 (by omega))
      refine sr_fg (ls1 := [.ref 64, .int (nI f), .int (nI 0), .null, .null, .null]) ⟨Or.inr rfl, Or.inr rfl, Or.inr rfl, Or.inl rfl, Or.inl rfl, Or.inl rfl, trivial⟩ ?_
      exact kk
  | succ m ih =>
    intro s h0_
    have hkl : k0 < l.length := by
      by_cases e : k0 < l.length
      · exact e
      · rw [List.getElem?_eq_none (by omega)] at hk0; cases hk0
    have hsl : s < l.length := by omega
    obtain ⟨u, hu⟩ : ∃ u : Nat → Int32, l[s]? = some u := ⟨_, List.getElem?_eq_getElem hsl⟩
    obtain ⟨b, hb, hq, hne⟩ := hall s u (by omega) hu
    refine sr_iload_n hA si_208_4 rfl ?_
    refine sr_aload_n hA si_208_5 rfl ?_
    refine sr_getIv (v := nI l.length) hA si_208_6 sf_208_244 (by decide) (by decide) rfl (by decide) hql.1 ?_
    refine sr_icmp_geN (tgt := 88) hA si_208_9 (by decide) (by omega) (by omega) (fun c1 => absurd c1 (by omega)) (fun c1 => ?_)
    refine sr_iload_n hA si_208_12 rfl ?_
    refine sr_if_eqN (tgt := 88) hA si_208_13 (by decide) (by omega) (fun c2 => absurd c2 (by omega)) (fun c2 => ?_)
    refine sr_iconst (v := nI 1) hA si_208_16 (by decide) ?_
    refine sr_istore (ls1 := [.ref 64, .int (nI f), .int (nI 1), .int (nI s), .int (nI 1), .null]) hA si_208_17 (by rw [sq_l_208]; decide) rfl ?_
    refine sr_iconst (v := nI 0) hA si_208_19 (by decide) ?_
    refine sr_istore (ls1 := [.ref 64, .int (nI f), .int (nI 1), .int (nI s), .int (nI 1), .int (nI 0)]) hA si_208_20 (by rw [sq_l_208]; decide) rfl ?_
    refine ml_ms0 hf hn6 hn hv (s := s) (u := u) (by omega) (hql.2 s u hu) hb hq hne hdd ?_ hA b 0 (by omega)
    refine sr_iload hA si_208_71 rfl ?_
    refine sr_if_neN (tgt := 80) hA si_208_73 (by decide) (by omega) (fun c3 => absurd c3 (by omega)) (fun c3 => ?_)
    refine sr_iconst (v := nI 1) hA si_208_76 (by decide) ?_
    refine sr_goto (tgt := 81) hA si_208_77 (by decide) ?_
    refine sr_istore_n (ls1 := [.ref 64, .int (nI f), .int (nI 1), .int (nI s), .int (nI 0), .null]) hA si_208_81 rfl (by rw [sq_l_208]; decide) rfl ?_
    refine sr_iincN (x := s) (y := 1) (ls1 := [.ref 64, .int (nI f), .int (nI 1), .int (nI (s + 1)), .int (nI 0), .null]) hA si_208_82 rfl rfl (by rw [sq_l_208]; decide) rfl ?_
    refine sr_goto (tgt := 4) hA si_208_85 (by decide) ?_
    refine sr_fg (ls1 := [.ref 64, .int (nI f), .int (nI 1), .int (nI (s + 1)), .null, .null]) ⟨Or.inr rfl, Or.inr rfl, Or.inr rfl, Or.inr rfl, Or.inl rfl, Or.inl rfl, trivial⟩ ?_
    exact ih (s + 1) (by omega)
set_option maxRecDepth 20000 in
theorem ml_mc {X : sp_X} {ac : sp_Ac} {g : sp_G} {f n : Nat} {v : Nat → Int32} (hf : f < 15) (hn6 : n ≤ 6) (hn : g.1 64 11 = nI n) (hv : sp_f8 g f v) {l : List (Nat → Int32)} (hql : sp_ql n g l) (hl : l.length ≤ 1295) (hA0 : True) (hA : sp_Act X 208 1 (sp_Rv (fun g' => ∃ gg, sp_mcp g gg l.length v n ∧ g' = sp_wI gg 64 33 (nI (l.length + 1)))) ac) : ∀ (m : Nat) (i : Nat) (gg : sp_G), i + m = n → sp_mcp g gg l.length v i → sp_Ev X ac 208 90 [.ref 64, .int (nI f), .int (nI 1), .int (nI i), .null, .null] [] gg := by
  intro m
  induction m with
  | zero =>
    intro i gg h0_ h1_
    refine sr_iload_n hA si_208_90 rfl ?_
    refine sr_aload_n hA si_208_91 rfl ?_
    refine sr_getIv (v := nI n) hA si_208_92 sf_208_142 (by decide) (by decide) rfl (by decide) ((congrFun (h1_.1 64 (by decide)) 11).trans hn) ?_
    refine sr_icmp_geN (tgt := 128) hA si_208_95 (by decide) (by omega) (by omega) (fun c1 => ?_) (fun c1 => absurd c1 (by omega))
    refine sr_aload_n hA si_208_128 rfl ?_
    refine sr_dup hA si_208_129 rfl ?_
    refine sr_getIv (v := nI l.length) hA si_208_130 sf_208_244 (by decide) (by decide) rfl (by decide) ((congrFun (h1_.1 64 (by decide)) 33).trans hql.1) ?_
    refine sr_iload_n hA si_208_133 rfl ?_
    refine sr_if_eqN (tgt := 141) hA si_208_134 (by decide) (by omega) (fun c2 => absurd c2 (by omega)) (fun c2 => ?_)
    refine sr_iconst (v := nI 1) hA si_208_137 (by decide) ?_
    refine sr_goto (tgt := 142) hA si_208_138 (by decide) ?_
    refine sr_iaddN hA si_208_142 ?_
    refine sr_putI hA si_208_143 sf_208_244 rfl rfl (by decide) (by decide) rfl rfl ?_
    exact sr_vretR hA si_208_146 sq_r_208 ⟨gg, by rw [show n = i by omega]; exact h1_, rfl⟩
  | succ m ih =>
    intro i gg h0_ h1_
    refine sr_iload_n hA si_208_90 rfl ?_
    refine sr_aload_n hA si_208_91 rfl ?_
    refine sr_getIv (v := nI n) hA si_208_92 sf_208_142 (by decide) (by decide) rfl (by decide) ((congrFun (h1_.1 64 (by decide)) 11).trans hn) ?_
    refine sr_icmp_geN (tgt := 128) hA si_208_95 (by decide) (by omega) (by omega) (fun c1 => absurd c1 (by omega)) (fun c1 => ?_)
    refine sr_iload_n hA si_208_98 rfl ?_
    refine sr_if_eqN (tgt := 128) hA si_208_99 (by decide) (by omega) (fun c2 => absurd c2 (by omega)) (fun c2 => ?_)
    refine sr_aload_n hA si_208_102 rfl ?_
    refine sr_getR (r := 84) hA si_208_103 sf_208_73 (by decide) (by decide) rfl rfl rfl ?_
    refine sr_bipush (v := nI 6) hA si_208_106 (by decide) ?_
    refine sr_aload_n hA si_208_108 rfl ?_
    refine sr_getIv (v := nI l.length) hA si_208_109 sf_208_244 (by decide) (by decide) rfl (by decide) ((congrFun (h1_.1 64 (by decide)) 33).trans hql.1) ?_
    refine sr_imulN hA si_208_112 ?_
    refine sr_iload_n hA si_208_113 rfl ?_
    refine sr_iaddN hA si_208_114 ?_
    refine sr_aload_n hA si_208_115 rfl ?_
    refine sr_iload_n hA si_208_116 rfl ?_
    refine sr_iload_n hA si_208_117 rfl ?_
    refine sr_VFi (c := 64) (ci := 8) (as := [.int (nI f), .int (nI i)]) (st := [.int (nI ((6 * l.length) + i)), .ref 84]) hA si_208_118 sv_164 sk_208_152 (by have h := mc_v X gg (f := f) (i := i) (by omega); rw [show gg.1 75 (9 * f + i) = v i from (congrFun (h1_.1 75 (by decide)) _).trans (hv i (by omega))] at h; exact h) (by omega) rfl (by decide) (by decide) rfl sq_c_164 rfl (Nat.le_of_ble_eq_true rfl) ?_
    refine sr_iastN (n := 7776) hA si_208_121 (by decide) rfl rfl (by omega) (by decide) ?_
    refine sr_iincN (x := i) (y := 1) (ls1 := [.ref 64, .int (nI f), .int (nI 1), .int (nI (i + 1)), .null, .null]) hA si_208_122 rfl rfl (by rw [sq_l_208]; decide) rfl ?_
    refine sr_goto (tgt := 90) hA si_208_125 (by decide) ?_
    exact ih (i + 1) _ (by omega) h1_.step
set_option maxRecDepth 20000 in
theorem mb_ms1 (X : sp_X) (g : sp_G) {f n : Nat} {v : Nat → Int32} (hf : f < 15) (hn6 : n ≤ 6) (hn : g.1 64 11 = nI n) (hv : sp_f8 g f v) {l : List (Nat → Int32)} (hql : sp_ql n g l) (hl : l.length ≤ 1295) (hall : ∀ (k : Nat) (u : Nat → Int32), l[k]? = some u → ∃ b, b < n ∧ (∀ j, j < b → u j = v j) ∧ u b ≠ v b) : sp_Ct X 1 208 [.ref 64, .int (nI f)] g (sp_Rv (fun g' => ∃ gg, sp_mcp g gg l.length v n ∧ g' = sp_wI gg 64 33 (nI (l.length + 1)))) := by
  refine sp_walkN (n := 6) sq_p_208 sq_l_208 (Nat.le_of_ble_eq_true rfl) (fun ac hA => ?_)
  show sp_Ev X ac 208 0 [.ref 64, .int (nI f), .null, .null, .null, .null] [] g
  refine sr_iconst (v := nI 1) hA si_208_0 (by decide) ?_
  refine sr_istore_n (ls1 := [.ref 64, .int (nI f), .int (nI 1), .null, .null, .null]) hA si_208_1 rfl (by rw [sq_l_208]; decide) rfl ?_
  refine sr_iconst (v := nI 0) hA si_208_2 (by decide) ?_
  refine sr_istore_n (ls1 := [.ref 64, .int (nI f), .int (nI 1), .int (nI 0), .null, .null]) hA si_208_3 rfl (by rw [sq_l_208]; decide) rfl ?_
  refine ml_mo1 hf hn6 hn hv hql hl hall (by omega) ?_ hA l.length 0 (by omega)
  refine sr_iconst (v := nI 0) hA si_208_88 (by decide) ?_
  refine sr_istore_n (ls1 := [.ref 64, .int (nI f), .int (nI 1), .int (nI 0), .null, .null]) hA si_208_89 rfl (by rw [sq_l_208]; decide) rfl ?_
  exact ml_mc hf hn6 hn hv hql hl trivial hA n 0 g (by omega) ⟨fun _ _ => rfl, rfl, fun _ _ => rfl, fun j hj => absurd hj (by omega)⟩
set_option maxRecDepth 20000 in
theorem mb_ms0 (X : sp_X) (g : sp_G) {f n : Nat} {v : Nat → Int32} (hf : f < 15) (hn6 : n ≤ 6) (hn : g.1 64 11 = nI n) (hv : sp_f8 g f v) {l : List (Nat → Int32)} (hql : sp_ql n g l) (hl : l.length ≤ 1295) {k0 : Nat} {u0 : Nat → Int32} (hk0 : l[k0]? = some u0) (hq0 : ∀ j, j < n → u0 j = v j) (hall : ∀ (k : Nat) (u : Nat → Int32), k < k0 → l[k]? = some u → ∃ b, b < n ∧ (∀ j, j < b → u j = v j) ∧ u b ≠ v b) (hn0 : 0 < n) : sp_Ct X 1 208 [.ref 64, .int (nI f)] g (sp_Fv (sp_wI g 64 33 (nI (l.length + 0)))) := by
  refine sp_walkN (n := 6) sq_p_208 sq_l_208 (Nat.le_of_ble_eq_true rfl) (fun ac hA => ?_)
  show sp_Ev X ac 208 0 [.ref 64, .int (nI f), .null, .null, .null, .null] [] g
  refine sr_iconst (v := nI 1) hA si_208_0 (by decide) ?_
  refine sr_istore_n (ls1 := [.ref 64, .int (nI f), .int (nI 1), .null, .null, .null]) hA si_208_1 rfl (by rw [sq_l_208]; decide) rfl ?_
  refine sr_iconst (v := nI 0) hA si_208_2 (by decide) ?_
  refine sr_istore_n (ls1 := [.ref 64, .int (nI f), .int (nI 1), .int (nI 0), .null, .null]) hA si_208_3 rfl (by rw [sq_l_208]; decide) rfl ?_
  refine ml_mo0 hf hn6 hn hv hql hl hk0 hq0 hall (by omega) ?_ hA k0 0 (by omega)
  refine sr_iconst (v := nI 0) hA si_208_88 (by decide) ?_
  refine sr_istore_n (ls1 := [.ref 64, .int (nI f), .int (nI 0), .int (nI 0), .null, .null]) hA si_208_89 rfl (by rw [sq_l_208]; decide) rfl ?_
  refine sr_iload_n hA si_208_90 rfl ?_
  refine sr_aload_n hA si_208_91 rfl ?_
  refine sr_getIv (v := nI n) hA si_208_92 sf_208_142 (by decide) (by decide) rfl (by decide) hn ?_
  refine sr_icmp_geN (tgt := 128) hA si_208_95 (by decide) (by omega) (by omega) (fun c1 => absurd c1 (by omega)) (fun c1 => ?_)
  refine sr_iload_n hA si_208_98 rfl ?_
  refine sr_if_eqN (tgt := 128) hA si_208_99 (by decide) (by omega) (fun c2 => ?_) (fun c2 => absurd c2 (by omega))
  refine sr_aload_n hA si_208_128 rfl ?_
  refine sr_dup hA si_208_129 rfl ?_
  refine sr_getIv (v := nI l.length) hA si_208_130 sf_208_244 (by decide) (by decide) rfl (by decide) hql.1 ?_
  refine sr_iload_n hA si_208_133 rfl ?_
  refine sr_if_eqN (tgt := 141) hA si_208_134 (by decide) (by omega) (fun c3 => ?_) (fun c3 => absurd c3 (by omega))
  refine sr_iconst (v := nI 0) hA si_208_141 (by decide) ?_
  refine sr_iaddN hA si_208_142 ?_
  refine sr_putI hA si_208_143 sf_208_244 rfl rfl (by decide) (by decide) rfl rfl ?_
  exact sr_vretF hA si_208_146 sq_r_208 rfl
theorem mb_ms (X : sp_X) (g : sp_G) {f n d : Nat} {K T P v : Nat → Int32} {w : Nat → Nat} {s : sp_Rs} (hf : f < 15) (hK : sp_KM n K T P g) (hn0 : 0 < n) (hv : sp_f8 g f v) (hql : sp_ql n g s.2) (hl : s.2.length ≤ 1295) : sp_Ct X 1 208 [.ref 64, .int (nI f)] g (sp_Rv (fun g' => (∀ c, c ≠ 64 → c ≠ 84 → g'.1 c = g.1 c) ∧ g'.2 = g.2 ∧ (∀ j, j ≠ 33 → g'.1 64 j = g.1 64 j) ∧ sp_ql n g' (sp_lr n d v w s).2)) := by
  rcases sp_ls_or n v s.2 with ⟨hno, hall⟩ | ⟨hex, k0, u0, a1, a2, a3⟩
  · have e : (sp_lr n d v w s).2 = s.2 ++ [v] := if_neg hno
    rw [e]
    refine (mb_ms1 X g hf hK.2.1 hK.1 hv hql hl hall).mono (fun r g' q => ?_)
    obtain ⟨e1, gg, ⟨c1, c2, c3, c4⟩, rfl⟩ := q
    refine ⟨e1, fun c h1 h2 => by rw [sp_wI_ne h1]; exact c1 c h2, c2, fun j hj => by rw [sp_rd, if_neg (fun q => hj q.2), c1 64 (by decide)], by rw [List.length_append]; rfl, fun k u hk j hj => ?_⟩
    show gg.1 84 (6 * k + j) = u j
    by_cases e2 : k < s.2.length
    · rw [List.getElem?_append_left e2] at hk
      rw [c3 _ (by have := hK.2.1; omega)]
      exact hql.2 k u hk j hj
    · rw [List.getElem?_append_right (by omega)] at hk
      have e3 : k - s.2.length = 0 := by
        by_cases e4 : k - s.2.length = 0
        · exact e4
        · rw [List.getElem?_eq_none (by simp; omega)] at hk; cases hk
      rw [e3] at hk
      cases hk
      rw [show k = s.2.length by omega]
      exact c4 j hj
  · have e : (sp_lr n d v w s).2 = s.2 := if_pos hex
    rw [e]
    refine (mb_ms0 X g hf hK.2.1 hK.1 hv hql hl a1 a2 a3 hn0).mono (fun r g' q => ?_)
    obtain ⟨e1, rfl⟩ := q
    exact ⟨e1, fun c h1 _ => sp_wI_ne h1, rfl, fun j hj => by rw [sp_rd, if_neg (fun q => hj q.2)], rfl, fun k u hk j hj => hql.2 k u hk j hj⟩
def sp_qn (n : Nat) (g : sp_G) (s : sp_Rs) : Prop := g.1 64 32 = nI s.1 ∧ sp_ql n g s.2
theorem sp_qn.sm {n F F' : Nat} {g g1 : sp_G} {s : sp_Rs} {u : Nat → Int32} {p : Int32} (h : sp_qn n g s) (k : sp_sm2 F F' g g1 u p) : sp_qn n g1 s := ⟨by rw [k.1 64 (by decide)]; exact h.1, h.2.eq (by rw [k.1 64 (by decide)]) (k.1 84 (by decide))⟩
set_option maxRecDepth 20000 in
theorem mb_lrA (X : sp_X) (g : sp_G) {d q n : Nat} {K T P v : Nat → Int32} {w : Nat → Nat} {s : sp_Rs} (hdq : d = q) (hq4 : q ≤ 4) (hK : sp_KM n K T P g) (hn0 : 0 < n) (hv : sp_f8 g d v) (hq0 : sp_qn n g s) (hl : s.2.length ≤ 1295) : sp_Ct X 5 207 [.ref 64, .int (nI d), .int (nI q)] g (sp_Rv (fun g' => sp_dm d 0 g g' ∧ sp_qn n g' (sp_lr n d v w s))) := by
  have hn6 := hK.2.1
  refine sp_walkN (n := 4) sq_p_207 sq_l_207 (Nat.le_of_ble_eq_true rfl) (fun ac hA => ?_)
  show sp_Ev X ac 207 0 [.ref 64, .int (nI d), .int (nI q), .null] [] g
  refine sr_iload_n hA si_207_0 rfl ?_
  refine sr_iload_n hA si_207_1 rfl ?_
  refine sr_icmp_neN (tgt := 21) hA si_207_2 (by decide) (by omega) (by omega) (fun c1 => absurd c1 (by omega)) (fun c1 => ?_)
  refine sr_aload_n hA si_207_5 rfl ?_
  refine sr_dup hA si_207_6 rfl ?_
  refine sr_getIv (v := nI s.1) hA si_207_7 sf_207_247 (by decide) (by decide) rfl (by decide) hq0.1 ?_
  refine sr_iconst (v := nI 1) hA si_207_10 (by decide) ?_
  refine sr_iaddN hA si_207_11 ?_
  refine sr_putI hA si_207_12 sf_207_247 rfl rfl (by decide) (by decide) rfl rfl ?_
  refine sr_aload_n hA si_207_15 rfl ?_
  refine sr_iload_n hA si_207_16 rfl ?_
  refine sr_VRv (c := 64) (ci := 8) (as := [.int (nI d)]) (st := []) hA si_207_17 sv_208 sk_207_250 (mb_ms X (sp_wI g 64 32 (nI (s.1 + 1))) (f := d) (d := d) (w := w) (s := s) (by omega) hK hn0 hv ⟨hq0.2.1, hq0.2.2⟩ hl) (by omega) rfl (by decide) (by decide) rfl sq_c_208 rfl (Nat.le_of_ble_eq_true rfl) (fun g1 q1 => ?_)
  exact sr_vretR hA si_207_20 sq_r_207 ⟨⟨fun c h1 h2 h3 => by rw [q1.1 c h1 (by omega), sp_wI_ne h1], fun j hj => by rw [q1.1 75 (by decide) (by decide), sp_wI_ne (by decide)], fun j hj => by rw [q1.2.2.1 j (by omega), sp_rd, if_neg (by omega)], fun j hj => absurd hj (by omega), fun c j _ => by rw [q1.2.1]; rfl⟩, by rw [q1.2.2.1 32 (by decide)]; rfl, q1.2.2.2⟩
set_option maxRecDepth 20000 in
theorem ml_lr {X : sp_X} {ac : sp_Ac} {g : sp_G} {n d m q : Nat} {K T P v : Nat → Int32} {w : Nat → Nat} {s : sp_Rs} (hd : d + (m + 1) = q) (hq4 : q ≤ 4) (hK : sp_KM n K T P g) (hv : sp_f8 g d v) (hs : s.2.length + 6 ^ (m + 1) ≤ 1296) (IH : ∀ (v : Nat → Int32) (w : Nat → Nat) (g : sp_G) (s : sp_Rs), sp_KM n K T P g → sp_f8 g (d + 1) v → sp_qn n g s → s.2.length + 6 ^ m ≤ 1296 → sp_Ct X (m + 5) 207 [.ref 64, .int (nI (d + 1)), .int (nI q)] g (sp_Rv (fun g' => sp_dm (d + 1) 0 g g' ∧ sp_qn n g' (sp_go n K T P (sp_lr n) m (d + 1) v w s)))) (hA : sp_Act X 207 (m + 6) (sp_Rv (fun g' => sp_dm d 0 g g' ∧ sp_qn n g' (sp_go n K T P (sp_lr n) (m + 1) d v w s))) ac) : ∀ (k : Nat) (i : Nat) (gg : sp_G), i + k = n → sp_dm d 0 g gg → sp_qn n gg (sp_gs n K T P (sp_lr n) m d v w s i) → sp_Ev X ac 207 23 [.ref 64, .int (nI d), .int (nI q), .int (nI i)] [] gg := by
  intro k
  induction k with
  | zero =>
    intro i gg h0_ h1_ h2_
    have hn6 := hK.2.1
    refine sr_iload_n hA si_207_23 rfl ?_
    refine sr_aload_n hA si_207_24 rfl ?_
    refine sr_getIv (v := nI n) hA si_207_25 sf_207_142 (by decide) (by decide) rfl (by decide) (hK.ma h1_.ma).1 ?_
    refine sr_icmp_geN (tgt := 70) hA si_207_28 (by decide) (by omega) (by omega) (fun c1 => ?_) (fun c1 => absurd c1 (by omega))
    exact sr_vretR hA si_207_70 sq_r_207 ⟨h1_, by rw [show i = n by omega] at h2_; exact h2_⟩
  | succ k ih =>
    intro i gg h0_ h1_ h2_
    have hn6 := hK.2.1
    refine sr_iload_n hA si_207_23 rfl ?_
    refine sr_aload_n hA si_207_24 rfl ?_
    refine sr_getIv (v := nI n) hA si_207_25 sf_207_142 (by decide) (by decide) rfl (by decide) (hK.ma h1_.ma).1 ?_
    refine sr_icmp_geN (tgt := 70) hA si_207_28 (by decide) (by omega) (by omega) (fun c1 => absurd c1 (by omega)) (fun c1 => ?_)
    refine sr_aload_n hA si_207_31 rfl ?_
    refine sr_iload_n hA si_207_32 rfl ?_
    refine sr_iload_n hA si_207_33 rfl ?_
    by_cases hcb : sp_cb (K i) (T i) (v i) = true
    · refine sr_VFi (c := 64) (ci := 8) (as := [.int (nI d), .int (nI i)]) (st := []) hA si_207_34 sv_165 sk_207_155 (mb_can1 X gg (f := d) (i := i) (by omega) (hK.ma h1_.ma) (by omega) (hv.dm h1_ (by omega)) hcb) (by omega) rfl (by decide) (by decide) rfl sq_c_165 rfl (Nat.le_of_ble_eq_true rfl) ?_
      refine sr_if_eqN (tgt := 64) hA si_207_37 (by decide) (by omega) (fun c2 => absurd c2 (by omega)) (fun c2 => ?_)
      refine sr_aload_n hA si_207_40 rfl ?_
      refine sr_iload_n hA si_207_41 rfl ?_
      refine sr_iload_n hA si_207_42 rfl ?_
      refine sr_iconst (v := nI 1) hA si_207_43 (by decide) ?_
      refine sr_iaddN hA si_207_44 ?_
      refine sr_VRv (c := 64) (ci := 8) (as := [.int (nI d), .int (nI (d + 1))]) (st := []) hA si_207_45 sv_192 sk_207_212 (mb_copyTo X gg (f := d) (t := d + 1) (by omega) (by omega) (by omega) (hv.dm h1_ (by omega))) (by omega) rfl (by decide) (by decide) rfl sq_c_192 rfl (Nat.le_of_ble_eq_true rfl) (fun g1 q1 => ?_)
      refine sr_aload_n hA si_207_48 rfl ?_
      refine sr_iload_n hA si_207_49 rfl ?_
      refine sr_iconst (v := nI 1) hA si_207_50 (by decide) ?_
      refine sr_iaddN hA si_207_51 ?_
      refine sr_iload_n hA si_207_52 rfl ?_
      refine sr_VRv (c := 64) (ci := 8) (as := [.int (nI (d + 1)), .int (nI i)]) (st := []) hA si_207_53 sv_175 sk_207_192 (mb_plays X g1 (f := d + 1) (i := i) (by omega) ((hK.ma h1_.ma).ma (sp_ma.rf.fx q1.1 (by omega))) (by omega) q1.2.1) (by omega) rfl (by decide) (by decide) rfl sq_c_175 rfl (Nat.le_of_ble_eq_true rfl) (fun g2 q2 => ?_)
      have qs := sp_sm2.mk (F := d) q1 q2
      have hl1 := h1_.tr (qs.dm (d := 0) (by omega))
      refine sr_aload_n hA si_207_56 rfl ?_
      refine sr_iload_n hA si_207_57 rfl ?_
      refine sr_iconst (v := nI 1) hA si_207_58 (by decide) ?_
      refine sr_iaddN hA si_207_59 ?_
      refine sr_iload_n hA si_207_60 rfl ?_
      refine sr_VRv (c := 64) (ci := 8) (as := [.int (nI (d + 1)), .int (nI q)]) (st := []) hA si_207_61 sv_207 sk_207_253 (IH (sp_pl n K P v i) (sp_un w d i) g2 (sp_gs n K T P (sp_lr n) m d v w s i) (hK.ma hl1.ma) qs.2.2.2.1 (h2_.sm qs) (by have := sp_gs_le (K := K) (T := T) (P := P) (c := fun s : sp_Rs => s.2.length) (v := v) (w := w) (s := s) (m := m) (d := d) hn6 (sp_lr_le (n := n)) (show i < n by omega); omega)) (by omega) rfl (by decide) (by decide) rfl sq_c_207 rfl (Nat.le_of_ble_eq_true rfl) (fun g3 q3 => ?_)
      refine sr_iincN (x := i) (y := 1) (ls1 := [.ref 64, .int (nI d), .int (nI q), .int (nI (i + 1))]) hA si_207_64 rfl rfl (by rw [sq_l_207]; decide) rfl ?_
      refine sr_goto (tgt := 23) hA si_207_67 (by decide) ?_
      exact ih (i + 1) g3 (by omega) (hl1.tr (q3.1.lo (by omega) (by omega))) (by rw [sp_gs1 hcb]; exact q3.2)
    · refine sr_VFi (c := 64) (ci := 8) (as := [.int (nI d), .int (nI i)]) (st := []) hA si_207_34 sv_165 sk_207_155 (mb_can0 X gg (f := d) (i := i) (by omega) (hK.ma h1_.ma) (by omega) (hv.dm h1_ (by omega)) hcb) (by omega) rfl (by decide) (by decide) rfl sq_c_165 rfl (Nat.le_of_ble_eq_true rfl) ?_
      refine sr_if_eqN (tgt := 64) hA si_207_37 (by decide) (by omega) (fun c3 => ?_) (fun c3 => absurd c3 (by omega))
      refine sr_iincN (x := i) (y := 1) (ls1 := [.ref 64, .int (nI d), .int (nI q), .int (nI (i + 1))]) hA si_207_64 rfl rfl (by rw [sq_l_207]; decide) rfl ?_
      refine sr_goto (tgt := 23) hA si_207_67 (by decide) ?_
      exact ih (i + 1) gg (by omega) h1_ (by rw [sp_gs0 hcb]; exact h2_)
set_option maxRecDepth 20000 in
theorem mb_lrS {X : sp_X} {g : sp_G} {n d m q : Nat} {K T P v : Nat → Int32} {w : Nat → Nat} {s : sp_Rs} (hd : d + (m + 1) = q) (hq4 : q ≤ 4) (hK : sp_KM n K T P g) (hv : sp_f8 g d v) (hs : s.2.length + 6 ^ (m + 1) ≤ 1296) (hq0 : sp_qn n g s) (IH : ∀ (v : Nat → Int32) (w : Nat → Nat) (g : sp_G) (s : sp_Rs), sp_KM n K T P g → sp_f8 g (d + 1) v → sp_qn n g s → s.2.length + 6 ^ m ≤ 1296 → sp_Ct X (m + 5) 207 [.ref 64, .int (nI (d + 1)), .int (nI q)] g (sp_Rv (fun g' => sp_dm (d + 1) 0 g g' ∧ sp_qn n g' (sp_go n K T P (sp_lr n) m (d + 1) v w s)))) : sp_Ct X (m + 6) 207 [.ref 64, .int (nI d), .int (nI q)] g (sp_Rv (fun g' => sp_dm d 0 g g' ∧ sp_qn n g' (sp_go n K T P (sp_lr n) (m + 1) d v w s))) := by
  refine sp_walkN (n := 4) sq_p_207 sq_l_207 (Nat.le_of_ble_eq_true rfl) (fun ac hA => ?_)
  show sp_Ev X ac 207 0 [.ref 64, .int (nI d), .int (nI q), .null] [] g
  refine sr_iload_n hA si_207_0 rfl ?_
  refine sr_iload_n hA si_207_1 rfl ?_
  refine sr_icmp_neN (tgt := 21) hA si_207_2 (by decide) (by omega) (by omega) (fun c1 => ?_) (fun c1 => absurd c1 (by omega))
  refine sr_iconst (v := nI 0) hA si_207_21 (by decide) ?_
  refine sr_istore_n (ls1 := [.ref 64, .int (nI d), .int (nI q), .int (nI 0)]) hA si_207_22 rfl (by rw [sq_l_207]; decide) rfl ?_
  exact ml_lr hd hq4 hK hv hs IH hA n 0 g (by omega) sp_dm.rf hq0
theorem mb_lr (X : sp_X) {n q : Nat} {K T P : Nat → Int32} (hq4 : q ≤ 4) (hn0 : 0 < n) : ∀ (m d : Nat) (v : Nat → Int32) (w : Nat → Nat) (g : sp_G) (s : sp_Rs), d + m = q → sp_KM n K T P g → sp_f8 g d v → sp_qn n g s → s.2.length + 6 ^ m ≤ 1296 → sp_Ct X (m + 5) 207 [.ref 64, .int (nI d), .int (nI q)] g (sp_Rv (fun g' => sp_dm d 0 g g' ∧ sp_qn n g' (sp_go n K T P (sp_lr n) m d v w s)))
  | 0, d, v, w, g, s, hd, hK, hv, hq0, hs => mb_lrA X g (by omega) hq4 hK hn0 hv hq0 (by omega)
  | m + 1, d, v, w, g, s, hd, hK, hv, hq0, hs => mb_lrS hd hq4 hK hv hs hq0 (fun v' w' g' s' a1 a2 a3 a4 => mb_lr X hq4 hn0 m (d + 1) v' w' g' s' (by omega) a1 a2 a3 a4)
set_option maxRecDepth 20000 in
theorem mc_rows_a (X : sp_X) (g : sp_G) {q : Int32} (hq : q < 0) : sp_Ct X 9 206 [.ref 64, .int q] g (sp_Fi (-1) g) := by
  refine sp_walkN (n := 2) sq_p_206 sq_l_206 (Nat.le_of_ble_eq_true rfl) (fun a hA => ?_)
  show sp_Ev X a 206 0 [.ref 64, .int q] [] g
  refine sr_iload_n hA si_206_0 rfl ?_
  refine sr_iconst (v := nI 0) hA si_206_1 (by decide) ?_
  refine sr_iconst (v := nI 4) hA si_206_2 (by decide) ?_
  refine sr_SFi (as := [.int q, .int (nI 0), .int (nI 4)]) (st := []) hA si_206_3 ss_135 sk_206_83 (mc_inM X g hq (by omega)) (by omega) rfl rfl (Nat.le_of_ble_eq_true rfl) ?_
  refine sr_if_neN (tgt := 11) hA si_206_6 (by decide) (by omega) (fun c1 => absurd c1 (by omega)) (fun c1 => ?_)
  refine sr_iconst (v := (-1)) hA si_206_9 (by decide) ?_
  exact sr_iretF hA si_206_10 sq_r_206 rfl rfl
set_option maxRecDepth 20000 in
theorem mc_rows_b (X : sp_X) (g : sp_G) {q : Nat} (hq : 5 ≤ q) (hqb : q < 2 ^ 31) : sp_Ct X 9 206 [.ref 64, .int (nI q)] g (sp_Fi (-1) g) := by
  refine sp_walkN (n := 2) sq_p_206 sq_l_206 (Nat.le_of_ble_eq_true rfl) (fun a hA => ?_)
  show sp_Ev X a 206 0 [.ref 64, .int (nI q)] [] g
  refine sr_iload_n hA si_206_0 rfl ?_
  refine sr_iconst (v := nI 0) hA si_206_1 (by decide) ?_
  refine sr_iconst (v := nI 4) hA si_206_2 (by decide) ?_
  refine sr_SFi (as := [.int (nI q), .int (nI 0), .int (nI 4)]) (st := []) hA si_206_3 ss_135 sk_206_83 (mc_inH X g (by omega) (by omega)) (by omega) rfl rfl (Nat.le_of_ble_eq_true rfl) ?_
  refine sr_if_neN (tgt := 11) hA si_206_6 (by decide) (by omega) (fun c1 => absurd c1 (by omega)) (fun c1 => ?_)
  refine sr_iconst (v := (-1)) hA si_206_9 (by decide) ?_
  exact sr_iretF hA si_206_10 sq_r_206 rfl rfl
set_option maxRecDepth 20000 in
theorem mc_rows_s (X : sp_X) (g : sp_G) {q : Nat} (hq4 : q ≤ 4) (hn : g.1 64 11 = nI 0) : sp_Ct X 9 206 [.ref 64, .int (nI q)] g (sp_Fi (-4) g) := by
  refine sp_walkN (n := 2) sq_p_206 sq_l_206 (Nat.le_of_ble_eq_true rfl) (fun a hA => ?_)
  show sp_Ev X a 206 0 [.ref 64, .int (nI q)] [] g
  refine sr_iload_n hA si_206_0 rfl ?_
  refine sr_iconst (v := nI 0) hA si_206_1 (by decide) ?_
  refine sr_iconst (v := nI 4) hA si_206_2 (by decide) ?_
  refine sr_SFi (as := [.int (nI q), .int (nI 0), .int (nI 4)]) (st := []) hA si_206_3 ss_135 sk_206_83 (mc_inN X g (by omega) (by omega) (by omega)) (by omega) rfl rfl (Nat.le_of_ble_eq_true rfl) ?_
  refine sr_if_neN (tgt := 11) hA si_206_6 (by decide) (by omega) (fun c1 => ?_) (fun c1 => absurd c1 (by omega))
  refine sr_aload_n hA si_206_11 rfl ?_
  refine sr_getIv (v := nI 0) hA si_206_12 sf_206_142 (by decide) (by decide) rfl (by decide) hn ?_
  refine sr_if_neN (tgt := 21) hA si_206_15 (by decide) (by omega) (fun c2 => absurd c2 (by omega)) (fun c2 => ?_)
  refine sr_bipush (v := (-4)) hA si_206_18 (by decide) ?_
  exact sr_iretF hA si_206_20 sq_r_206 rfl rfl
set_option maxRecDepth 20000 in
theorem mc_rows_go (X : sp_X) (g : sp_G) {q : Nat} (hq4 : q ≤ 4) {n : Nat} (hn : g.1 64 11 = nI n) (hn0 : 0 < n) (hb : n ≤ 6) {K T P v : Nat → Int32} (hK : sp_KM n K T P g) (hv : sp_f8 g 0 v) : sp_Ct X (q + 7) 206 [.ref 64, .int (nI q)] g (sp_Ri (fun x g' => x = nI (sp_go n K T P (sp_lr n) q 0 v (fun _ => 0) (0, [])).1 ∧ ∃ gm, sp_ma g gm ∧ g' = sp_wI gm 64 2 (nI (sp_go n K T P (sp_lr n) q 0 v (fun _ => 0) (0, [])).2.length))) := by
  have hq6 : 0 + 6 ^ q ≤ 1296 := by
    have := Nat.pow_le_pow_right (n := 6) (by omega) hq4
    omega
  refine sp_walkN (n := 2) sq_p_206 sq_l_206 (Nat.le_of_ble_eq_true rfl) (fun ac hA => ?_)
  show sp_Ev X ac 206 0 [.ref 64, .int (nI q)] [] g
  refine sr_iload_n hA si_206_0 rfl ?_
  refine sr_iconst (v := nI 0) hA si_206_1 (by decide) ?_
  refine sr_iconst (v := nI 4) hA si_206_2 (by decide) ?_
  refine sr_SFi (as := [.int (nI q), .int (nI 0), .int (nI 4)]) (st := []) hA si_206_3 ss_135 sk_206_83 (mc_inN X g (by omega) (by omega) (by omega)) (by omega) rfl rfl (Nat.le_of_ble_eq_true rfl) ?_
  refine sr_if_neN (tgt := 11) hA si_206_6 (by decide) (by omega) (fun c1 => ?_) (fun c1 => absurd c1 (by omega))
  refine sr_aload_n hA si_206_11 rfl ?_
  refine sr_getIv (v := nI n) hA si_206_12 sf_206_142 (by decide) (by decide) rfl (by decide) hn ?_
  refine sr_if_neN (tgt := 21) hA si_206_15 (by decide) (by omega) (fun c2 => ?_) (fun c2 => absurd c2 (by omega))
  refine sr_aload_n hA si_206_21 rfl ?_
  refine sr_iconst (v := nI 0) hA si_206_22 (by decide) ?_
  refine sr_putI hA si_206_23 sf_206_247 rfl rfl (by decide) (by decide) rfl rfl ?_
  refine sr_aload_n hA si_206_26 rfl ?_
  refine sr_iconst (v := nI 0) hA si_206_27 (by decide) ?_
  refine sr_putI hA si_206_28 sf_206_244 rfl rfl (by decide) (by decide) rfl rfl ?_
  refine sr_aload_n hA si_206_31 rfl ?_
  refine sr_iconst (v := nI 0) hA si_206_32 (by decide) ?_
  refine sr_iload_n hA si_206_33 rfl ?_
  have am : sp_ma g (sp_wI (sp_wI g 64 32 (nI 0)) 64 33 (nI 0)) := (sp_ma.rf.wI (by omega)).wI (by omega)
  refine sr_VRv (c := 64) (ci := 8) (as := [.int (nI 0), .int (nI q)]) (st := []) hA si_206_34 sv_207 sk_206_253 (mb_lr X hq4 hn0 q 0 v (fun _ => 0) (sp_wI (sp_wI g 64 32 (nI 0)) 64 33 (nI 0)) (0, []) (by omega) (hK.ma am) (fun j hj => hv j hj) ⟨rfl, rfl, fun k u hk => by simp at hk⟩ hq6) (by omega) rfl (by decide) (by decide) rfl sq_c_207 rfl (Nat.le_of_ble_eq_true rfl) (fun g1 q1 => ?_)
  obtain ⟨S, eS⟩ : ∃ z, z = (sp_go n K T P (sp_lr n) q 0 v (fun _ => 0) (0, [])) := ⟨_, rfl⟩
  rw [← eS] at q1
  have am1 := am.tr q1.1.ma
  refine sr_aload_n hA si_206_37 rfl ?_
  refine sr_aload_n hA si_206_38 rfl ?_
  refine sr_getIv (v := nI S.2.length) hA si_206_39 sf_206_244 (by decide) (by decide) rfl (by decide) q1.2.2.1 ?_
  refine sr_aload_n hA si_206_42 rfl ?_
  refine sr_getIv (v := nI S.1) hA si_206_43 sf_206_247 (by decide) (by decide) rfl (by decide) q1.2.1 ?_
  refine sr_VFi (c := 64) (ci := 8) (as := [.int (nI S.2.length), .int (nI S.1)]) (st := []) hA si_206_46 sv_144 sk_206_105 (mc_tells X g1 (nI S.2.length) (nI S.1)) (by omega) rfl (by decide) (by decide) rfl sq_c_144 rfl (Nat.le_of_ble_eq_true rfl) ?_
  exact sr_iretR hA si_206_49 sq_r_206 ⟨by rw [← eS], g1, am1, by rw [← eS]⟩
theorem sp_ma.w2 {g g1 : sp_G} (h : sp_ma g g1) {x : Int32} : sp_ma (sp_wI g 64 2 x) (sp_wI g1 64 2 x) := ⟨fun c h1 h2 h3 => by rw [sp_wI_ne h1, sp_wI_ne h1]; exact h.i c h1 h2 h3, fun j hj => by rw [sp_wI_ne (by decide), sp_wI_ne (by decide)]; exact h.f j hj, fun j hj => by
  rw [sp_rd, sp_rd]
  by_cases e : j = 2
  · rw [if_pos ⟨rfl, e⟩, if_pos ⟨rfl, e⟩]
  · rw [if_neg (fun q => e q.2), if_neg (fun q => e q.2)]; exact h.o j hj, h.l⟩
theorem sp_Rel.told2 {g g1 : sp_G} (h : sp_Rel g) {x : Int32} (am : sp_ma (sp_wI g 0 12 x) g1) : sp_Rel (sp_wI g1 64 2 x) := (h.told (u := x) rfl).ma am.w2
theorem pr_rows {X : sp_X} {g : sp_G} (h : sp_Rel g) (q : Int32) : sp_Pi X 93 206 [.int q] g := by
  obtain ⟨hF, hR, hT, n, dm, hK, hS, hP⟩ := id h
  obtain ⟨k1, k2, k3, k4⟩ := id hK
  have hS1 := hS.1
  rcases sp_cls q with hq | ⟨q, hqb, rfl⟩
  · exact sp_pF (xc_rows_a X g hq) (mc_rows_a X g hq) (by omega) (by omega) h
  by_cases hq : q ≤ 4
  rotate_left
  · exact sp_pF (xc_rows_b X g (by omega) hqb) (mc_rows_b X g (by omega) hqb) (by omega) (by omega) h
  rcases sp_n0 hK with ⟨z1, z2⟩ | ⟨hn0, -, -⟩
  · exact sp_pF (xc_rows_s X g hq z1) (mc_rows_s X g hq z2) (by omega) (by omega) h
  refine ⟨q + 8, _, by omega, xc_rows_go X g hq k2 hn0 k1 (sp_Rel.KX hK) hS.hS.d8 (sp_nowk hS) (by omega) (by omega), fun v g1 q1 => ?_⟩
  obtain ⟨rfl, gm, ax, rfl⟩ := q1
  have m1 := (sp_Rel.KM hK).xa ax
  have m3 := (sp_hP0 (g := g)).xa ax
  refine ⟨q + 7, _, by omega, mc_rows_go X (sp_wI gm 0 12 _) hq m1.1 hn0 k1 m1 m3.d8, fun v g2 q2 => ?_⟩
  obtain ⟨rfl, gn, am, rfl⟩ := q2
  exact ⟨rfl, (h.xa ax).told2 am⟩
