/-! sand: nine figures (six keys, beach, sea, earned), and what is done with them -/
def sp_lo (m x : Int32) : Int32 := if m < x then m else x
theorem sp_lo_min (m x : Int32) : (if x < m then x else m) = sp_lo m x := by
  unfold sp_lo
  by_cases h1 : x < m
  · have h2 : ¬ m < x := fun q => Int32.lt_irrefl (Int32.lt_trans h1 q)
    rw [if_pos h1, if_neg h2]
  · rw [if_neg h1]
    by_cases h2 : m < x
    · rw [if_pos h2]
    · rw [if_neg h2]
      exact Int32.le_antisymm (Int32.not_lt.mp h1) (Int32.not_lt.mp h2)
def sp_mv (v : Nat → Int32) (fr to : Nat) (m : Int32) : Nat → Int32 := upd (upd v fr (v fr - sp_lo m (v fr))) to (upd v fr (v fr - sp_lo m (v fr)) to + sp_lo m (v fr))
def sp_lf (i : Nat) : Nat := if i = 0 then 6 else i - 1
def sp_rg (n i : Nat) : Nat := if i + 1 = n then 6 else i + 1
def sp_ef (n : Nat) (k : Int32) (i : Nat) (v : Nat → Int32) : Nat → Int32 :=
  if k = 0 then sp_mv v i (sp_rg n i) (nI 1) else if k = 1 then sp_mv v i (sp_lf i) (nI 2) else if k = 3 then sp_mv v (sp_lf i) i (nI 1) else if k = 4 then sp_mv (sp_mv v i (sp_lf i) (nI 1)) i (sp_rg n i) (nI 1) else v
def sp_pl (n : Nat) (K P : Nat → Int32) (v : Nat → Int32) (i : Nat) : Nat → Int32 := upd (sp_ef n (K i) i v) 8 (sp_ef n (K i) i v 8 + P i)
def sp_cp (k s x : Int32) : Prop := k = 5 ∨ x ≤ s + (if k = 2 then nI 2 else nI 0)
/-! a frame of the reference's -/
def sp_pv (g : sp_G) (f : Nat) : Nat → Int32 := fun i => g.1 75 (9 * f + i)
def sp_sP (g : sp_G) (f : Nat) (v : Nat → Int32) : sp_G := sp_wA g 75 (fun j => if 9 * f ≤ j ∧ j < 9 * f + 9 then v (j - 9 * f) else g.1 75 j)
theorem sp_sP_rd {g : sp_G} {f c j : Nat} {v : Nat → Int32} : (sp_sP g f v).1 c j = if c = 75 ∧ 9 * f ≤ j ∧ j < 9 * f + 9 then v (j - 9 * f) else g.1 c j := by
  unfold sp_sP
  rw [sp_rdW]
  by_cases h : c = 75
  · subst h
    by_cases h2 : 9 * f ≤ j ∧ j < 9 * f + 9 <;> simp [h2]
  · simp [h]
theorem sp_sP_o {g : sp_G} {f c : Nat} {v : Nat → Int32} (h : c ≠ 75) : (sp_sP g f v).1 c = g.1 c := funext fun j => by rw [sp_sP_rd, if_neg (fun q => h q.1)]
theorem sp_sP_w {g : sp_G} {f i : Nat} {v : Nat → Int32} {x : Int32} (h : i < 9) : sp_wI (sp_sP g f v) 75 (9 * f + i) x = sp_sP g f (upd v i x) := sp_gext (fun c j => by
  rw [sp_rd, sp_sP_rd, sp_sP_rd]
  by_cases hc : c = 75 ∧ j = 9 * f + i
  · rw [if_pos hc, if_pos (by omega), hc.2, show 9 * f + i - 9 * f = i by omega]
    simp [upd]
  · rw [if_neg hc]
    by_cases h2 : c = 75 ∧ 9 * f ≤ j ∧ j < 9 * f + 9
    · rw [if_pos h2, if_pos h2, pk_un (by omega)]
    · rw [if_neg h2, if_neg h2]) rfl
theorem sp_sP_0 {g : sp_G} {f : Nat} : sp_sP g f (sp_pv g f) = g := sp_gext (fun c j => by
  rw [sp_sP_rd]
  by_cases h2 : c = 75 ∧ 9 * f ≤ j ∧ j < 9 * f + 9
  · rw [if_pos h2]
    unfold sp_pv
    rw [h2.1, show 9 * f + (j - 9 * f) = j by omega]
  · rw [if_neg h2]) rfl
theorem sp_pv_s {g : sp_G} {f i : Nat} {v : Nat → Int32} (h : i < 9) : sp_pv (sp_sP g f v) f i = v i := by
  unfold sp_pv
  rw [sp_sP_rd, if_pos (by omega), show 9 * f + i - 9 * f = i by omega]
theorem sp_pv_ne {g : sp_G} {f f' i : Nat} {v : Nat → Int32} (h : i < 9) (hf : f' ≠ f) : sp_pv (sp_sP g f v) f' i = sp_pv g f' i := by
  unfold sp_pv
  rw [sp_sP_rd, if_neg (by omega)]
theorem sp_sP_c {g : sp_G} {f : Nat} {v w : Nat → Int32} (h : ∀ i, i < 9 → v i = w i) : sp_sP g f v = sp_sP g f w := sp_gext (fun c j => by
  rw [sp_sP_rd, sp_sP_rd]
  by_cases h2 : c = 75 ∧ 9 * f ≤ j ∧ j < 9 * f + 9
  · rw [if_pos h2, if_pos h2, h _ (by omega)]
  · rw [if_neg h2, if_neg h2]) rfl
theorem sp_sP_2 {g : sp_G} {f : Nat} {v w : Nat → Int32} : sp_sP (sp_sP g f v) f w = sp_sP g f w := sp_gext (fun c j => by
  rw [sp_sP_rd, sp_sP_rd, sp_sP_rd]
  by_cases h2 : c = 75 ∧ 9 * f ≤ j ∧ j < 9 * f + 9
  · rw [if_pos h2, if_pos h2]
  · rw [if_neg h2, if_neg h2, if_neg h2]) rfl
/-! a Sand of the class's -/
def sp_sS (g : sp_G) (s o : Nat) (v : Nat → Int32) : sp_G := (fun c j => if c = o ∧ j < 6 then v j else if c = s ∧ 1 ≤ j ∧ j ≤ 3 then v (j + 5) else g.1 c j, g.2)
theorem sp_sS_rd {g : sp_G} {s o c j : Nat} {v : Nat → Int32} : (sp_sS g s o v).1 c j = if c = o ∧ j < 6 then v j else if c = s ∧ 1 ≤ j ∧ j ≤ 3 then v (j + 5) else g.1 c j := rfl
theorem sp_sS_o {g : sp_G} {s o c : Nat} {v : Nat → Int32} (h : c ≠ s) (h2 : c ≠ o) : (sp_sS g s o v).1 c = g.1 c := funext fun j => by rw [sp_sS_rd, if_neg (fun q => h2 q.1), if_neg (fun q => h q.1)]
theorem sp_sS_w {g : sp_G} {s o i : Nat} {v : Nat → Int32} {x : Int32} (h : i < 6) : sp_wI (sp_sS g s o v) o i x = sp_sS g s o (upd v i x) := sp_gext (fun c j => by
  rw [sp_rd, sp_sS_rd, sp_sS_rd]
  by_cases hc : c = o ∧ j = i
  · rw [if_pos hc, if_pos (by omega), hc.2]
    simp [upd]
  · rw [if_neg hc]
    by_cases h2 : c = o ∧ j < 6
    · rw [if_pos h2, if_pos h2, pk_un (by omega)]
    · rw [if_neg h2, if_neg h2]
      by_cases h3 : c = s ∧ 1 ≤ j ∧ j ≤ 3
      · rw [if_pos h3, if_pos h3, pk_un (by omega)]
      · rw [if_neg h3, if_neg h3]) rfl
theorem sp_sS_w2 {g : sp_G} {s o i : Nat} {v : Nat → Int32} {x : Int32} (hso : o ≠ s) (h1 : 1 ≤ i) (h : i ≤ 3) : sp_wI (sp_sS g s o v) s i x = sp_sS g s o (upd v (i + 5) x) := sp_gext (fun c j => by
  rw [sp_rd, sp_sS_rd, sp_sS_rd]
  by_cases hc : c = s ∧ j = i
  · rw [if_pos hc, if_neg (by omega), if_pos (by omega), hc.2]
    simp [upd]
  · rw [if_neg hc]
    by_cases h2 : c = o ∧ j < 6
    · rw [if_pos h2, if_pos h2, pk_un (by omega)]
    · rw [if_neg h2, if_neg h2]
      by_cases h3 : c = s ∧ 1 ≤ j ∧ j ≤ 3
      · rw [if_pos h3, if_pos h3, pk_un (by omega)]
      · rw [if_neg h3, if_neg h3]) rfl
theorem sp_sS_0 {g : sp_G} {s o : Nat} (hso : o ≠ s) : sp_sS g s o (sp_sv g s o) = g := sp_gext (fun c j => by
  rw [sp_sS_rd]
  unfold sp_sv
  by_cases h2 : c = o ∧ j < 6
  · rw [if_pos h2, if_pos h2.2, h2.1]
  · rw [if_neg h2]
    by_cases h3 : c = s ∧ 1 ≤ j ∧ j ≤ 3
    · rw [if_pos h3, if_neg (by omega), h3.1, show j + 5 - 5 = j by omega]
    · rw [if_neg h3]) rfl
theorem sp_sv_s {g : sp_G} {s o i : Nat} {v : Nat → Int32} (hso : o ≠ s) (h : i < 9) : sp_sv (sp_sS g s o v) s o i = v i := by
  unfold sp_sv
  by_cases h6 : i < 6
  · rw [if_pos h6, sp_sS_rd, if_pos ⟨rfl, h6⟩]
  · rw [if_neg h6, sp_sS_rd, if_neg (by omega), if_pos (by omega), show i - 5 + 5 = i by omega]
theorem sp_sv_ne {g : sp_G} {s o s' o' : Nat} {v : Nat → Int32} (h1 : s' ≠ s) (h2 : s' ≠ o) (h3 : o' ≠ s) (h4 : o' ≠ o) : sp_sv (sp_sS g s o v) s' o' = sp_sv g s' o' := funext fun i => by
  unfold sp_sv
  rw [sp_sS_o h1 h2, sp_sS_o h3 h4]
theorem sp_sS_c {g : sp_G} {s o : Nat} {v w : Nat → Int32} (h : ∀ i, i < 9 → v i = w i) : sp_sS g s o v = sp_sS g s o w := sp_gext (fun c j => by
  rw [sp_sS_rd, sp_sS_rd]
  by_cases h2 : c = o ∧ j < 6
  · rw [if_pos h2, if_pos h2, h _ (by omega)]
  · rw [if_neg h2, if_neg h2]
    by_cases h3 : c = s ∧ 1 ≤ j ∧ j ≤ 3
    · rw [if_pos h3, if_pos h3, h _ (by omega)]
    · rw [if_neg h3, if_neg h3]) rfl
theorem sp_sS_2 {g : sp_G} {s o : Nat} {v w : Nat → Int32} : sp_sS (sp_sS g s o v) s o w = sp_sS g s o w := sp_gext (fun c j => by
  rw [sp_sS_rd, sp_sS_rd, sp_sS_rd]
  by_cases h2 : c = o ∧ j < 6
  · rw [if_pos h2, if_pos h2]
  · by_cases h3 : c = s ∧ 1 ≤ j ∧ j ≤ 3
    · rw [if_neg h2, if_pos h3, if_neg h2, if_pos h3]
    · rw [if_neg h2, if_neg h3, if_neg h2, if_neg h3, if_neg h2, if_neg h3]) rfl
/-! the same functions of figures that agree -/
theorem sp_mv_c {v w : Nat → Int32} (h : ∀ i, i < 9 → v i = w i) {fr to : Nat} (hf : fr < 9) (ht : to < 9) (m : Int32) : ∀ i, i < 9 → sp_mv v fr to m i = sp_mv w fr to m i := fun i hi => by
  unfold sp_mv upd
  rw [h fr hf, h to ht, h i hi]
theorem sp_lf_lt {i : Nat} (h : i < 6) : sp_lf i < 9 := by unfold sp_lf; split <;> omega
theorem sp_rg_lt {n i : Nat} (h : i < 6) : sp_rg n i < 9 := by unfold sp_rg; split <;> omega
theorem sp_ef_c {v w : Nat → Int32} (h : ∀ i, i < 9 → v i = w i) (n : Nat) (k : Int32) {i : Nat} (hi : i < 6) : ∀ j, j < 9 → sp_ef n k i v j = sp_ef n k i w j := fun j hj => by
  unfold sp_ef
  split
  · exact sp_mv_c h (by omega) (sp_rg_lt hi) _ j hj
  split
  · exact sp_mv_c h (by omega) (sp_lf_lt hi) _ j hj
  split
  · exact sp_mv_c h (sp_lf_lt hi) (by omega) _ j hj
  split
  · exact sp_mv_c (sp_mv_c h (by omega) (sp_lf_lt hi) _) (by omega) (sp_rg_lt hi) _ j hj
  · exact h j hj
theorem sp_pl_c {v w : Nat → Int32} (h : ∀ i, i < 9 → v i = w i) (n : Nat) {K P K' P' : Nat → Int32} {i : Nat} (hi : i < 6) (hK : K i = K' i) (hP : P i = P' i) : ∀ j, j < 9 → sp_pl n K P v i j = sp_pl n K' P' w i j := fun j hj => by
  unfold sp_pl upd
  rw [hK, hP, sp_ef_c h n (K' i) hi 8 (by omega), sp_ef_c h n (K' i) hi j hj]

theorem sp_mvP {g : sp_G} {f fr to : Nat} {q : Int32} (h1 : fr < 9) (h2 : to < 9) : sp_wI (sp_wI g 75 (9 * f + fr) (g.1 75 (9 * f + fr) + -q)) 75 (9 * f + to) ((sp_wI g 75 (9 * f + fr) (g.1 75 (9 * f + fr) + -q)).1 75 (9 * f + to) + q) = sp_sP g f (upd (upd (sp_pv g f) fr (sp_pv g f fr - q)) to (upd (sp_pv g f) fr (sp_pv g f fr - q) to + q)) := by
  have e1 : sp_wI g 75 (9 * f + fr) (g.1 75 (9 * f + fr) + -q) = sp_sP g f (upd (sp_pv g f) fr (sp_pv g f fr - q)) := by
    have := sp_sP_w (g := g) (f := f) (v := sp_pv g f) (x := g.1 75 (9 * f + fr) + -q) h1
    rw [sp_sP_0] at this
    rw [this, Int32.sub_eq_add_neg]
    rfl
  rw [e1, sp_sP_w h2]
  have e2 : (sp_sP g f (upd (sp_pv g f) fr (sp_pv g f fr - q))).1 75 (9 * f + to) = upd (sp_pv g f) fr (sp_pv g f fr - q) to := by
    rw [sp_sP_rd, if_pos (by omega), show 9 * f + to - 9 * f = to by omega]
  rw [e2]
set_option maxRecDepth 20000 in
theorem mc_moves (X : sp_X) (g : sp_G) {f fr to : Nat} (hf : f < 15) (h1 : fr < 9) (h2 : to < 9) (m : Int32) : sp_Ct X 1 177 [.ref 64, .int (nI f), .int (nI fr), .int (nI to), .int m] g (sp_Fi (sp_lo m (sp_pv g f fr)) (sp_sP g f (sp_mv (sp_pv g f) fr to m))) := by
  refine sp_walkN (n := 6) sq_p_177 sq_l_177 (Nat.le_of_ble_eq_true rfl) (fun a hA => ?_)
  show sp_Ev X a 177 0 [.ref 64, .int (nI f), .int (nI fr), .int (nI to), .int m, .null] [] g
  refine sr_iload hA si_177_0 rfl ?_
  refine sr_aload_n hA si_177_2 rfl ?_
  refine sr_iload_n hA si_177_3 rfl ?_
  refine sr_iload_n hA si_177_4 rfl ?_
  refine sr_VFi (c := 64) (ci := 8) (as := [.int (nI f), .int (nI fr)]) (st := [.int m]) hA si_177_5 sv_164 sk_177_152 (mc_v X g (f := f) (i := fr) (by omega)) (by omega) rfl (by decide) (by decide) rfl sq_c_164 rfl (Nat.le_of_ble_eq_true rfl) ?_
  refine sr_SFi (as := [.int m, .int (g.1 75 (9 * f + fr))]) (st := []) hA si_177_8 ss_167 sk_177_158 (mc_lesser X g m (g.1 75 (9 * f + fr))) (by omega) rfl rfl (Nat.le_of_ble_eq_true rfl) ?_
  refine sr_istore (ls1 := [.ref 64, .int (nI f), .int (nI fr), .int (nI to), .int m, .int (if m < (g.1 75 (9 * f + fr)) then m else (g.1 75 (9 * f + fr)))]) hA si_177_11 (by rw [sq_l_177]; decide) rfl ?_
  refine sr_aload_n hA si_177_13 rfl ?_
  refine sr_iload_n hA si_177_14 rfl ?_
  refine sr_iload_n hA si_177_15 rfl ?_
  refine sr_iload hA si_177_16 rfl ?_
  refine sr_ineg hA si_177_18 ?_
  refine sr_VFv (c := 64) (ci := 8) (as := [.int (nI f), .int (nI fr), .int (-(if m < (g.1 75 (9 * f + fr)) then m else (g.1 75 (9 * f + fr))))]) (st := []) hA si_177_19 sv_178 sk_177_161 (mc_add X g (f := f) (i := fr) (by omega) (-(if m < (g.1 75 (9 * f + fr)) then m else (g.1 75 (9 * f + fr))))) (by omega) rfl (by decide) (by decide) rfl sq_c_178 rfl (Nat.le_of_ble_eq_true rfl) ?_
  refine sr_aload_n hA si_177_22 rfl ?_
  refine sr_iload_n hA si_177_23 rfl ?_
  refine sr_iload_n hA si_177_24 rfl ?_
  refine sr_iload hA si_177_25 rfl ?_
  refine sr_VFv (c := 64) (ci := 8) (as := [.int (nI f), .int (nI to), .int (if m < (g.1 75 (9 * f + fr)) then m else (g.1 75 (9 * f + fr)))]) (st := []) hA si_177_27 sv_178 sk_177_161 (mc_add X (sp_wI g 75 (9 * f + fr) (g.1 75 (9 * f + fr) + (-(if m < (g.1 75 (9 * f + fr)) then m else (g.1 75 (9 * f + fr)))))) (f := f) (i := to) (by omega) (if m < (g.1 75 (9 * f + fr)) then m else (g.1 75 (9 * f + fr)))) (by omega) rfl (by decide) (by decide) rfl sq_c_178 rfl (Nat.le_of_ble_eq_true rfl) ?_
  refine sr_iload hA si_177_30 rfl ?_
  exact sr_iretF hA si_177_32 sq_r_177 rfl (sp_mvP h1 h2)
theorem sp_pfin0 {g : sp_G} {f : Nat} {x : Int32} (hf : f < 15) : sp_wI g 75 (9 * f + 8) (g.1 75 (9 * f + 8) + x) = sp_sP g f (upd (sp_pv g f) 8 (sp_pv g f 8 + x)) := by
  have := sp_sP_w (g := g) (f := f) (i := 8) (v := sp_pv g f) (x := g.1 75 (9 * f + 8) + x) (by omega)
  rw [sp_sP_0] at this
  exact this
theorem sp_pfin1 {g : sp_G} {f : Nat} {v : Nat → Int32} {x : Int32} (hf : f < 15) : sp_wI (sp_sP g f v) 75 (9 * f + 8) ((sp_sP g f v).1 75 (9 * f + 8) + x) = sp_sP g f (upd v 8 (v 8 + x)) := by
  have e2 : (sp_sP g f v).1 75 (9 * f + 8) = v 8 := by
    rw [sp_sP_rd, if_pos (by omega), show 9 * f + 8 - 9 * f = 8 by omega]
  rw [e2, sp_sP_w (by omega)]
theorem sp_pfin2 {g : sp_G} {f fr to : Nat} {v : Nat → Int32} {m x : Int32} (hf : f < 15) (h1 : fr < 9) (h2 : to < 9) : sp_wI (sp_sP (sp_sP g f v) f (sp_mv (sp_pv (sp_sP g f v) f) fr to m)) 75 (9 * f + 8) ((sp_sP (sp_sP g f v) f (sp_mv (sp_pv (sp_sP g f v) f) fr to m)).1 75 (9 * f + 8) + x) = sp_sP g f (upd (sp_mv v fr to m) 8 (sp_mv v fr to m 8 + x)) := by
  rw [sp_sP_2, sp_sP_c (sp_mv_c (w := v) (fun i hi => sp_pv_s hi) h1 h2 m), sp_pfin1 hf]
set_option maxRecDepth 20000 in
theorem mc_plays0L (X : sp_X) (g : sp_G) {f i n : Nat} (hn : g.1 64 11 = nI n) (hb : n ≤ 6) (hi : i < n) (hf : f < 14) (hk : g.1 71 i = nI 0) (hl : i + 1 = n) : sp_Ct X 2 175 [.ref 64, .int (nI f), .int (nI i)] g (sp_Fv (sp_sP g f (upd (sp_mv (sp_pv g f) i 6 (nI 1)) 8 ((sp_mv (sp_pv g f) i 6 (nI 1)) 8 + g.1 73 i)))) := by
  refine sp_walkN (n := 3) sq_p_175 sq_l_175 (Nat.le_of_ble_eq_true rfl) (fun a hA => ?_)
  show sp_Ev X a 175 0 [.ref 64, .int (nI f), .int (nI i)] [] g
  refine sr_aload_n hA si_175_0 rfl ?_
  refine sr_getR (r := 71) hA si_175_1 sf_175_33 (by decide) (by decide) rfl rfl rfl ?_
  refine sr_iload_n hA si_175_4 rfl ?_
  refine sr_ialdNv (v := nI 0) (n := 6) hA si_175_5 (by decide) rfl rfl (by omega) (by decide) hk ?_
  refine sr_tswI (c := nI 0) (tgt := 40) hA si_175_6 rfl (by decide) (by decide) rfl (by decide) ?_
  refine sr_aload_n hA si_175_40 rfl ?_
  refine sr_iload_n hA si_175_41 rfl ?_
  refine sr_iload_n hA si_175_42 rfl ?_
  refine sr_aload_n hA si_175_43 rfl ?_
  refine sr_iload_n hA si_175_44 rfl ?_
  refine sr_VFi (c := 64) (ci := 8) (as := [.int (nI i)]) (st := [.int (nI i), .int (nI f), .ref 64]) hA si_175_45 sv_176 sk_175_164 (mc_rightOfL X g (i := i) hn (by omega) (by omega)) (by omega) rfl (by decide) (by decide) rfl sq_c_176 rfl (Nat.le_of_ble_eq_true rfl) ?_
  refine sr_iconst (v := nI 1) hA si_175_48 (by decide) ?_
  refine sr_VFi (c := 64) (ci := 8) (as := [.int (nI f), .int (nI i), .int (nI 6), .int (nI 1)]) (st := []) hA si_175_49 sv_177 sk_175_167 (mc_moves X g (f := f) (fr := i) (to := 6) (by omega) (by omega) (by omega) (nI 1)) (by omega) rfl (by decide) (by decide) rfl sq_c_177 rfl (Nat.le_of_ble_eq_true rfl) ?_
  refine sr_pop hA si_175_52 rfl ?_
  refine sr_goto (tgt := 117) hA si_175_53 (by decide) ?_
  refine sr_aload_n hA si_175_117 rfl ?_
  refine sr_iload_n hA si_175_118 rfl ?_
  refine sr_bipush (v := nI 8) hA si_175_119 (by decide) ?_
  refine sr_aload_n hA si_175_121 rfl ?_
  refine sr_getR (r := 73) hA si_175_122 sf_175_39 (by decide) (by decide) rfl rfl rfl ?_
  refine sr_iload_n hA si_175_125 rfl ?_
  refine sr_ialdNv (v := g.1 73 i) (n := 6) hA si_175_126 (by decide) rfl rfl (by omega) (by decide) (by rw [sp_sP_o (by decide)]) ?_
  refine sr_VFv (c := 64) (ci := 8) (as := [.int (nI f), .int (nI 8), .int (g.1 73 i)]) (st := []) hA si_175_127 sv_178 sk_175_161 (mc_add X (sp_sP g f (sp_mv (sp_pv g f) i 6 (nI 1))) (f := f) (i := 8) (by omega) (g.1 73 i)) (by omega) rfl (by decide) (by decide) rfl sq_c_178 rfl (Nat.le_of_ble_eq_true rfl) ?_
  exact sr_vretF hA si_175_130 sq_r_175 (sp_pfin1 (by omega))
set_option maxRecDepth 20000 in
theorem mc_plays0R (X : sp_X) (g : sp_G) {f i n : Nat} (hn : g.1 64 11 = nI n) (hb : n ≤ 6) (hi : i < n) (hf : f < 14) (hk : g.1 71 i = nI 0) (hl : i + 1 < n) : sp_Ct X 2 175 [.ref 64, .int (nI f), .int (nI i)] g (sp_Fv (sp_sP g f (upd (sp_mv (sp_pv g f) i (i + 1) (nI 1)) 8 ((sp_mv (sp_pv g f) i (i + 1) (nI 1)) 8 + g.1 73 i)))) := by
  refine sp_walkN (n := 3) sq_p_175 sq_l_175 (Nat.le_of_ble_eq_true rfl) (fun a hA => ?_)
  show sp_Ev X a 175 0 [.ref 64, .int (nI f), .int (nI i)] [] g
  refine sr_aload_n hA si_175_0 rfl ?_
  refine sr_getR (r := 71) hA si_175_1 sf_175_33 (by decide) (by decide) rfl rfl rfl ?_
  refine sr_iload_n hA si_175_4 rfl ?_
  refine sr_ialdNv (v := nI 0) (n := 6) hA si_175_5 (by decide) rfl rfl (by omega) (by decide) hk ?_
  refine sr_tswI (c := nI 0) (tgt := 40) hA si_175_6 rfl (by decide) (by decide) rfl (by decide) ?_
  refine sr_aload_n hA si_175_40 rfl ?_
  refine sr_iload_n hA si_175_41 rfl ?_
  refine sr_iload_n hA si_175_42 rfl ?_
  refine sr_aload_n hA si_175_43 rfl ?_
  refine sr_iload_n hA si_175_44 rfl ?_
  refine sr_VFi (c := 64) (ci := 8) (as := [.int (nI i)]) (st := [.int (nI i), .int (nI f), .ref 64]) hA si_175_45 sv_176 sk_175_164 (mc_rightOf X g (i := i) hn (by omega) (by omega)) (by omega) rfl (by decide) (by decide) rfl sq_c_176 rfl (Nat.le_of_ble_eq_true rfl) ?_
  refine sr_iconst (v := nI 1) hA si_175_48 (by decide) ?_
  refine sr_VFi (c := 64) (ci := 8) (as := [.int (nI f), .int (nI i), .int (nI (i + 1)), .int (nI 1)]) (st := []) hA si_175_49 sv_177 sk_175_167 (mc_moves X g (f := f) (fr := i) (to := (i + 1)) (by omega) (by omega) (by omega) (nI 1)) (by omega) rfl (by decide) (by decide) rfl sq_c_177 rfl (Nat.le_of_ble_eq_true rfl) ?_
  refine sr_pop hA si_175_52 rfl ?_
  refine sr_goto (tgt := 117) hA si_175_53 (by decide) ?_
  refine sr_aload_n hA si_175_117 rfl ?_
  refine sr_iload_n hA si_175_118 rfl ?_
  refine sr_bipush (v := nI 8) hA si_175_119 (by decide) ?_
  refine sr_aload_n hA si_175_121 rfl ?_
  refine sr_getR (r := 73) hA si_175_122 sf_175_39 (by decide) (by decide) rfl rfl rfl ?_
  refine sr_iload_n hA si_175_125 rfl ?_
  refine sr_ialdNv (v := g.1 73 i) (n := 6) hA si_175_126 (by decide) rfl rfl (by omega) (by decide) (by rw [sp_sP_o (by decide)]) ?_
  refine sr_VFv (c := 64) (ci := 8) (as := [.int (nI f), .int (nI 8), .int (g.1 73 i)]) (st := []) hA si_175_127 sv_178 sk_175_161 (mc_add X (sp_sP g f (sp_mv (sp_pv g f) i (i + 1) (nI 1))) (f := f) (i := 8) (by omega) (g.1 73 i)) (by omega) rfl (by decide) (by decide) rfl sq_c_178 rfl (Nat.le_of_ble_eq_true rfl) ?_
  exact sr_vretF hA si_175_130 sq_r_175 (sp_pfin1 (by omega))
set_option maxRecDepth 20000 in
theorem mc_plays10 (X : sp_X) (g : sp_G) {f n : Nat} (hn : g.1 64 11 = nI n) (hb : n ≤ 6) (hi : 0 < n) (hf : f < 14) (hk : g.1 71 0 = nI 1)  : sp_Ct X 2 175 [.ref 64, .int (nI f), .int (nI 0)] g (sp_Fv (sp_sP g f (upd (sp_mv (sp_pv g f) 0 6 (nI 2)) 8 ((sp_mv (sp_pv g f) 0 6 (nI 2)) 8 + g.1 73 0)))) := by
  refine sp_walkN (n := 3) sq_p_175 sq_l_175 (Nat.le_of_ble_eq_true rfl) (fun a hA => ?_)
  show sp_Ev X a 175 0 [.ref 64, .int (nI f), .int (nI 0)] [] g
  refine sr_aload_n hA si_175_0 rfl ?_
  refine sr_getR (r := 71) hA si_175_1 sf_175_33 (by decide) (by decide) rfl rfl rfl ?_
  refine sr_iload_n hA si_175_4 rfl ?_
  refine sr_ialdNv (v := nI 1) (n := 6) hA si_175_5 (by decide) rfl rfl (by omega) (by decide) hk ?_
  refine sr_tswI (c := nI 1) (tgt := 56) hA si_175_6 rfl (by decide) (by decide) rfl (by decide) ?_
  refine sr_aload_n hA si_175_56 rfl ?_
  refine sr_iload_n hA si_175_57 rfl ?_
  refine sr_iload_n hA si_175_58 rfl ?_
  refine sr_aload_n hA si_175_59 rfl ?_
  refine sr_iload_n hA si_175_60 rfl ?_
  refine sr_VFi (c := 64) (ci := 8) (as := [.int (nI 0)]) (st := [.int (nI 0), .int (nI f), .ref 64]) hA si_175_61 sv_169 sk_175_171 (mc_leftOf0 X g) (by omega) rfl (by decide) (by decide) rfl sq_c_169 rfl (Nat.le_of_ble_eq_true rfl) ?_
  refine sr_iconst (v := nI 2) hA si_175_64 (by decide) ?_
  refine sr_VFi (c := 64) (ci := 8) (as := [.int (nI f), .int (nI 0), .int (nI 6), .int (nI 2)]) (st := []) hA si_175_65 sv_177 sk_175_167 (mc_moves X g (f := f) (fr := 0) (to := 6) (by omega) (by omega) (by omega) (nI 2)) (by omega) rfl (by decide) (by decide) rfl sq_c_177 rfl (Nat.le_of_ble_eq_true rfl) ?_
  refine sr_pop hA si_175_68 rfl ?_
  refine sr_goto (tgt := 117) hA si_175_69 (by decide) ?_
  refine sr_aload_n hA si_175_117 rfl ?_
  refine sr_iload_n hA si_175_118 rfl ?_
  refine sr_bipush (v := nI 8) hA si_175_119 (by decide) ?_
  refine sr_aload_n hA si_175_121 rfl ?_
  refine sr_getR (r := 73) hA si_175_122 sf_175_39 (by decide) (by decide) rfl rfl rfl ?_
  refine sr_iload_n hA si_175_125 rfl ?_
  refine sr_ialdNv (v := g.1 73 0) (n := 6) hA si_175_126 (by decide) rfl rfl (by omega) (by decide) (by rw [sp_sP_o (by decide)]) ?_
  refine sr_VFv (c := 64) (ci := 8) (as := [.int (nI f), .int (nI 8), .int (g.1 73 0)]) (st := []) hA si_175_127 sv_178 sk_175_161 (mc_add X (sp_sP g f (sp_mv (sp_pv g f) 0 6 (nI 2))) (f := f) (i := 8) (by omega) (g.1 73 0)) (by omega) rfl (by decide) (by decide) rfl sq_c_178 rfl (Nat.le_of_ble_eq_true rfl) ?_
  exact sr_vretF hA si_175_130 sq_r_175 (sp_pfin1 (by omega))
set_option maxRecDepth 20000 in
theorem mc_plays1P (X : sp_X) (g : sp_G) {f i n : Nat} (hn : g.1 64 11 = nI n) (hb : n ≤ 6) (hi : i < n) (hf : f < 14) (hk : g.1 71 i = nI 1) (hl : 0 < i) : sp_Ct X 2 175 [.ref 64, .int (nI f), .int (nI i)] g (sp_Fv (sp_sP g f (upd (sp_mv (sp_pv g f) i (i - 1) (nI 2)) 8 ((sp_mv (sp_pv g f) i (i - 1) (nI 2)) 8 + g.1 73 i)))) := by
  refine sp_walkN (n := 3) sq_p_175 sq_l_175 (Nat.le_of_ble_eq_true rfl) (fun a hA => ?_)
  show sp_Ev X a 175 0 [.ref 64, .int (nI f), .int (nI i)] [] g
  refine sr_aload_n hA si_175_0 rfl ?_
  refine sr_getR (r := 71) hA si_175_1 sf_175_33 (by decide) (by decide) rfl rfl rfl ?_
  refine sr_iload_n hA si_175_4 rfl ?_
  refine sr_ialdNv (v := nI 1) (n := 6) hA si_175_5 (by decide) rfl rfl (by omega) (by decide) hk ?_
  refine sr_tswI (c := nI 1) (tgt := 56) hA si_175_6 rfl (by decide) (by decide) rfl (by decide) ?_
  refine sr_aload_n hA si_175_56 rfl ?_
  refine sr_iload_n hA si_175_57 rfl ?_
  refine sr_iload_n hA si_175_58 rfl ?_
  refine sr_aload_n hA si_175_59 rfl ?_
  refine sr_iload_n hA si_175_60 rfl ?_
  refine sr_VFi (c := 64) (ci := 8) (as := [.int (nI i)]) (st := [.int (nI i), .int (nI f), .ref 64]) hA si_175_61 sv_169 sk_175_171 (mc_leftOf X g (i := i) (by omega) (by omega)) (by omega) rfl (by decide) (by decide) rfl sq_c_169 rfl (Nat.le_of_ble_eq_true rfl) ?_
  refine sr_iconst (v := nI 2) hA si_175_64 (by decide) ?_
  refine sr_VFi (c := 64) (ci := 8) (as := [.int (nI f), .int (nI i), .int (nI (i - 1)), .int (nI 2)]) (st := []) hA si_175_65 sv_177 sk_175_167 (mc_moves X g (f := f) (fr := i) (to := (i - 1)) (by omega) (by omega) (by omega) (nI 2)) (by omega) rfl (by decide) (by decide) rfl sq_c_177 rfl (Nat.le_of_ble_eq_true rfl) ?_
  refine sr_pop hA si_175_68 rfl ?_
  refine sr_goto (tgt := 117) hA si_175_69 (by decide) ?_
  refine sr_aload_n hA si_175_117 rfl ?_
  refine sr_iload_n hA si_175_118 rfl ?_
  refine sr_bipush (v := nI 8) hA si_175_119 (by decide) ?_
  refine sr_aload_n hA si_175_121 rfl ?_
  refine sr_getR (r := 73) hA si_175_122 sf_175_39 (by decide) (by decide) rfl rfl rfl ?_
  refine sr_iload_n hA si_175_125 rfl ?_
  refine sr_ialdNv (v := g.1 73 i) (n := 6) hA si_175_126 (by decide) rfl rfl (by omega) (by decide) (by rw [sp_sP_o (by decide)]) ?_
  refine sr_VFv (c := 64) (ci := 8) (as := [.int (nI f), .int (nI 8), .int (g.1 73 i)]) (st := []) hA si_175_127 sv_178 sk_175_161 (mc_add X (sp_sP g f (sp_mv (sp_pv g f) i (i - 1) (nI 2))) (f := f) (i := 8) (by omega) (g.1 73 i)) (by omega) rfl (by decide) (by decide) rfl sq_c_178 rfl (Nat.le_of_ble_eq_true rfl) ?_
  exact sr_vretF hA si_175_130 sq_r_175 (sp_pfin1 (by omega))
set_option maxRecDepth 20000 in
theorem mc_plays2 (X : sp_X) (g : sp_G) {f i n : Nat} (hn : g.1 64 11 = nI n) (hb : n ≤ 6) (hi : i < n) (hf : f < 14) (hk : g.1 71 i = nI 2)  : sp_Ct X 2 175 [.ref 64, .int (nI f), .int (nI i)] g (sp_Fv (sp_sP g f (upd (sp_pv g f) 8 ((sp_pv g f) 8 + g.1 73 i)))) := by
  refine sp_walkN (n := 3) sq_p_175 sq_l_175 (Nat.le_of_ble_eq_true rfl) (fun a hA => ?_)
  show sp_Ev X a 175 0 [.ref 64, .int (nI f), .int (nI i)] [] g
  refine sr_aload_n hA si_175_0 rfl ?_
  refine sr_getR (r := 71) hA si_175_1 sf_175_33 (by decide) (by decide) rfl rfl rfl ?_
  refine sr_iload_n hA si_175_4 rfl ?_
  refine sr_ialdNv (v := nI 2) (n := 6) hA si_175_5 (by decide) rfl rfl (by omega) (by decide) hk ?_
  refine sr_tswI (c := nI 2) (tgt := 117) hA si_175_6 rfl (by decide) (by decide) rfl (by decide) ?_
  refine sr_aload_n hA si_175_117 rfl ?_
  refine sr_iload_n hA si_175_118 rfl ?_
  refine sr_bipush (v := nI 8) hA si_175_119 (by decide) ?_
  refine sr_aload_n hA si_175_121 rfl ?_
  refine sr_getR (r := 73) hA si_175_122 sf_175_39 (by decide) (by decide) rfl rfl rfl ?_
  refine sr_iload_n hA si_175_125 rfl ?_
  refine sr_ialdNv (v := g.1 73 i) (n := 6) hA si_175_126 (by decide) rfl rfl (by omega) (by decide) rfl ?_
  refine sr_VFv (c := 64) (ci := 8) (as := [.int (nI f), .int (nI 8), .int (g.1 73 i)]) (st := []) hA si_175_127 sv_178 sk_175_161 (mc_add X g (f := f) (i := 8) (by omega) (g.1 73 i)) (by omega) rfl (by decide) (by decide) rfl sq_c_178 rfl (Nat.le_of_ble_eq_true rfl) ?_
  exact sr_vretF hA si_175_130 sq_r_175 (sp_pfin0 (by omega))
set_option maxRecDepth 20000 in
theorem mc_plays5 (X : sp_X) (g : sp_G) {f i n : Nat} (hn : g.1 64 11 = nI n) (hb : n ≤ 6) (hi : i < n) (hf : f < 14) (hk : g.1 71 i = nI 5)  : sp_Ct X 2 175 [.ref 64, .int (nI f), .int (nI i)] g (sp_Fv (sp_sP g f (upd (sp_pv g f) 8 ((sp_pv g f) 8 + g.1 73 i)))) := by
  refine sp_walkN (n := 3) sq_p_175 sq_l_175 (Nat.le_of_ble_eq_true rfl) (fun a hA => ?_)
  show sp_Ev X a 175 0 [.ref 64, .int (nI f), .int (nI i)] [] g
  refine sr_aload_n hA si_175_0 rfl ?_
  refine sr_getR (r := 71) hA si_175_1 sf_175_33 (by decide) (by decide) rfl rfl rfl ?_
  refine sr_iload_n hA si_175_4 rfl ?_
  refine sr_ialdNv (v := nI 5) (n := 6) hA si_175_5 (by decide) rfl rfl (by omega) (by decide) hk ?_
  refine sr_tswO (tgt := 117) hA si_175_6 (by decide) (by decide) ?_
  refine sr_aload_n hA si_175_117 rfl ?_
  refine sr_iload_n hA si_175_118 rfl ?_
  refine sr_bipush (v := nI 8) hA si_175_119 (by decide) ?_
  refine sr_aload_n hA si_175_121 rfl ?_
  refine sr_getR (r := 73) hA si_175_122 sf_175_39 (by decide) (by decide) rfl rfl rfl ?_
  refine sr_iload_n hA si_175_125 rfl ?_
  refine sr_ialdNv (v := g.1 73 i) (n := 6) hA si_175_126 (by decide) rfl rfl (by omega) (by decide) rfl ?_
  refine sr_VFv (c := 64) (ci := 8) (as := [.int (nI f), .int (nI 8), .int (g.1 73 i)]) (st := []) hA si_175_127 sv_178 sk_175_161 (mc_add X g (f := f) (i := 8) (by omega) (g.1 73 i)) (by omega) rfl (by decide) (by decide) rfl sq_c_178 rfl (Nat.le_of_ble_eq_true rfl) ?_
  exact sr_vretF hA si_175_130 sq_r_175 (sp_pfin0 (by omega))
set_option maxRecDepth 20000 in
theorem mc_plays30 (X : sp_X) (g : sp_G) {f n : Nat} (hn : g.1 64 11 = nI n) (hb : n ≤ 6) (hi : 0 < n) (hf : f < 14) (hk : g.1 71 0 = nI 3)  : sp_Ct X 2 175 [.ref 64, .int (nI f), .int (nI 0)] g (sp_Fv (sp_sP g f (upd (sp_mv (sp_pv g f) 6 0 (nI 1)) 8 ((sp_mv (sp_pv g f) 6 0 (nI 1)) 8 + g.1 73 0)))) := by
  refine sp_walkN (n := 3) sq_p_175 sq_l_175 (Nat.le_of_ble_eq_true rfl) (fun a hA => ?_)
  show sp_Ev X a 175 0 [.ref 64, .int (nI f), .int (nI 0)] [] g
  refine sr_aload_n hA si_175_0 rfl ?_
  refine sr_getR (r := 71) hA si_175_1 sf_175_33 (by decide) (by decide) rfl rfl rfl ?_
  refine sr_iload_n hA si_175_4 rfl ?_
  refine sr_ialdNv (v := nI 3) (n := 6) hA si_175_5 (by decide) rfl rfl (by omega) (by decide) hk ?_
  refine sr_tswI (c := nI 3) (tgt := 72) hA si_175_6 rfl (by decide) (by decide) rfl (by decide) ?_
  refine sr_aload_n hA si_175_72 rfl ?_
  refine sr_iload_n hA si_175_73 rfl ?_
  refine sr_aload_n hA si_175_74 rfl ?_
  refine sr_iload_n hA si_175_75 rfl ?_
  refine sr_VFi (c := 64) (ci := 8) (as := [.int (nI 0)]) (st := [.int (nI f), .ref 64]) hA si_175_76 sv_169 sk_175_171 (mc_leftOf0 X g) (by omega) rfl (by decide) (by decide) rfl sq_c_169 rfl (Nat.le_of_ble_eq_true rfl) ?_
  refine sr_iload_n hA si_175_79 rfl ?_
  refine sr_iconst (v := nI 1) hA si_175_80 (by decide) ?_
  refine sr_VFi (c := 64) (ci := 8) (as := [.int (nI f), .int (nI 6), .int (nI 0), .int (nI 1)]) (st := []) hA si_175_81 sv_177 sk_175_167 (mc_moves X g (f := f) (fr := 6) (to := 0) (by omega) (by omega) (by omega) (nI 1)) (by omega) rfl (by decide) (by decide) rfl sq_c_177 rfl (Nat.le_of_ble_eq_true rfl) ?_
  refine sr_pop hA si_175_84 rfl ?_
  refine sr_goto (tgt := 117) hA si_175_85 (by decide) ?_
  refine sr_aload_n hA si_175_117 rfl ?_
  refine sr_iload_n hA si_175_118 rfl ?_
  refine sr_bipush (v := nI 8) hA si_175_119 (by decide) ?_
  refine sr_aload_n hA si_175_121 rfl ?_
  refine sr_getR (r := 73) hA si_175_122 sf_175_39 (by decide) (by decide) rfl rfl rfl ?_
  refine sr_iload_n hA si_175_125 rfl ?_
  refine sr_ialdNv (v := g.1 73 0) (n := 6) hA si_175_126 (by decide) rfl rfl (by omega) (by decide) (by rw [sp_sP_o (by decide)]) ?_
  refine sr_VFv (c := 64) (ci := 8) (as := [.int (nI f), .int (nI 8), .int (g.1 73 0)]) (st := []) hA si_175_127 sv_178 sk_175_161 (mc_add X (sp_sP g f (sp_mv (sp_pv g f) 6 0 (nI 1))) (f := f) (i := 8) (by omega) (g.1 73 0)) (by omega) rfl (by decide) (by decide) rfl sq_c_178 rfl (Nat.le_of_ble_eq_true rfl) ?_
  exact sr_vretF hA si_175_130 sq_r_175 (sp_pfin1 (by omega))
set_option maxRecDepth 20000 in
theorem mc_plays3P (X : sp_X) (g : sp_G) {f i n : Nat} (hn : g.1 64 11 = nI n) (hb : n ≤ 6) (hi : i < n) (hf : f < 14) (hk : g.1 71 i = nI 3) (hl : 0 < i) : sp_Ct X 2 175 [.ref 64, .int (nI f), .int (nI i)] g (sp_Fv (sp_sP g f (upd (sp_mv (sp_pv g f) (i - 1) i (nI 1)) 8 ((sp_mv (sp_pv g f) (i - 1) i (nI 1)) 8 + g.1 73 i)))) := by
  refine sp_walkN (n := 3) sq_p_175 sq_l_175 (Nat.le_of_ble_eq_true rfl) (fun a hA => ?_)
  show sp_Ev X a 175 0 [.ref 64, .int (nI f), .int (nI i)] [] g
  refine sr_aload_n hA si_175_0 rfl ?_
  refine sr_getR (r := 71) hA si_175_1 sf_175_33 (by decide) (by decide) rfl rfl rfl ?_
  refine sr_iload_n hA si_175_4 rfl ?_
  refine sr_ialdNv (v := nI 3) (n := 6) hA si_175_5 (by decide) rfl rfl (by omega) (by decide) hk ?_
  refine sr_tswI (c := nI 3) (tgt := 72) hA si_175_6 rfl (by decide) (by decide) rfl (by decide) ?_
  refine sr_aload_n hA si_175_72 rfl ?_
  refine sr_iload_n hA si_175_73 rfl ?_
  refine sr_aload_n hA si_175_74 rfl ?_
  refine sr_iload_n hA si_175_75 rfl ?_
  refine sr_VFi (c := 64) (ci := 8) (as := [.int (nI i)]) (st := [.int (nI f), .ref 64]) hA si_175_76 sv_169 sk_175_171 (mc_leftOf X g (i := i) (by omega) (by omega)) (by omega) rfl (by decide) (by decide) rfl sq_c_169 rfl (Nat.le_of_ble_eq_true rfl) ?_
  refine sr_iload_n hA si_175_79 rfl ?_
  refine sr_iconst (v := nI 1) hA si_175_80 (by decide) ?_
  refine sr_VFi (c := 64) (ci := 8) (as := [.int (nI f), .int (nI (i - 1)), .int (nI i), .int (nI 1)]) (st := []) hA si_175_81 sv_177 sk_175_167 (mc_moves X g (f := f) (fr := (i - 1)) (to := i) (by omega) (by omega) (by omega) (nI 1)) (by omega) rfl (by decide) (by decide) rfl sq_c_177 rfl (Nat.le_of_ble_eq_true rfl) ?_
  refine sr_pop hA si_175_84 rfl ?_
  refine sr_goto (tgt := 117) hA si_175_85 (by decide) ?_
  refine sr_aload_n hA si_175_117 rfl ?_
  refine sr_iload_n hA si_175_118 rfl ?_
  refine sr_bipush (v := nI 8) hA si_175_119 (by decide) ?_
  refine sr_aload_n hA si_175_121 rfl ?_
  refine sr_getR (r := 73) hA si_175_122 sf_175_39 (by decide) (by decide) rfl rfl rfl ?_
  refine sr_iload_n hA si_175_125 rfl ?_
  refine sr_ialdNv (v := g.1 73 i) (n := 6) hA si_175_126 (by decide) rfl rfl (by omega) (by decide) (by rw [sp_sP_o (by decide)]) ?_
  refine sr_VFv (c := 64) (ci := 8) (as := [.int (nI f), .int (nI 8), .int (g.1 73 i)]) (st := []) hA si_175_127 sv_178 sk_175_161 (mc_add X (sp_sP g f (sp_mv (sp_pv g f) (i - 1) i (nI 1))) (f := f) (i := 8) (by omega) (g.1 73 i)) (by omega) rfl (by decide) (by decide) rfl sq_c_178 rfl (Nat.le_of_ble_eq_true rfl) ?_
  exact sr_vretF hA si_175_130 sq_r_175 (sp_pfin1 (by omega))
set_option maxRecDepth 20000 in
theorem mc_plays40L (X : sp_X) (g : sp_G) {f n : Nat} (hn : g.1 64 11 = nI n) (hb : n ≤ 6) (hi : 0 < n) (hf : f < 14) (hk : g.1 71 0 = nI 4) (hl : 1 = n) : sp_Ct X 2 175 [.ref 64, .int (nI f), .int (nI 0)] g (sp_Fv (sp_sP g f (upd (sp_mv (sp_mv (sp_pv g f) 0 6 (nI 1)) 0 6 (nI 1)) 8 ((sp_mv (sp_mv (sp_pv g f) 0 6 (nI 1)) 0 6 (nI 1)) 8 + g.1 73 0)))) := by
  refine sp_walkN (n := 3) sq_p_175 sq_l_175 (Nat.le_of_ble_eq_true rfl) (fun a hA => ?_)
  show sp_Ev X a 175 0 [.ref 64, .int (nI f), .int (nI 0)] [] g
  refine sr_aload_n hA si_175_0 rfl ?_
  refine sr_getR (r := 71) hA si_175_1 sf_175_33 (by decide) (by decide) rfl rfl rfl ?_
  refine sr_iload_n hA si_175_4 rfl ?_
  refine sr_ialdNv (v := nI 4) (n := 6) hA si_175_5 (by decide) rfl rfl (by omega) (by decide) hk ?_
  refine sr_tswI (c := nI 4) (tgt := 88) hA si_175_6 rfl (by decide) (by decide) rfl (by decide) ?_
  refine sr_aload_n hA si_175_88 rfl ?_
  refine sr_iload_n hA si_175_89 rfl ?_
  refine sr_iload_n hA si_175_90 rfl ?_
  refine sr_aload_n hA si_175_91 rfl ?_
  refine sr_iload_n hA si_175_92 rfl ?_
  refine sr_VFi (c := 64) (ci := 8) (as := [.int (nI 0)]) (st := [.int (nI 0), .int (nI f), .ref 64]) hA si_175_93 sv_169 sk_175_171 (mc_leftOf0 X g) (by omega) rfl (by decide) (by decide) rfl sq_c_169 rfl (Nat.le_of_ble_eq_true rfl) ?_
  refine sr_iconst (v := nI 1) hA si_175_96 (by decide) ?_
  refine sr_VFi (c := 64) (ci := 8) (as := [.int (nI f), .int (nI 0), .int (nI 6), .int (nI 1)]) (st := []) hA si_175_97 sv_177 sk_175_167 (mc_moves X g (f := f) (fr := 0) (to := 6) (by omega) (by omega) (by omega) (nI 1)) (by omega) rfl (by decide) (by decide) rfl sq_c_177 rfl (Nat.le_of_ble_eq_true rfl) ?_
  refine sr_pop hA si_175_100 rfl ?_
  refine sr_aload_n hA si_175_101 rfl ?_
  refine sr_iload_n hA si_175_102 rfl ?_
  refine sr_iload_n hA si_175_103 rfl ?_
  refine sr_aload_n hA si_175_104 rfl ?_
  refine sr_iload_n hA si_175_105 rfl ?_
  refine sr_VFi (c := 64) (ci := 8) (as := [.int (nI 0)]) (st := [.int (nI 0), .int (nI f), .ref 64]) hA si_175_106 sv_176 sk_175_164 (mc_rightOfL X (sp_sP g f (sp_mv (sp_pv g f) 0 6 (nI 1))) (i := 0) (by rw [sp_sP_o (by decide)]; exact hn) (by omega) (by omega)) (by omega) rfl (by decide) (by decide) rfl sq_c_176 rfl (Nat.le_of_ble_eq_true rfl) ?_
  refine sr_iconst (v := nI 1) hA si_175_109 (by decide) ?_
  refine sr_VFi (c := 64) (ci := 8) (as := [.int (nI f), .int (nI 0), .int (nI 6), .int (nI 1)]) (st := []) hA si_175_110 sv_177 sk_175_167 (mc_moves X (sp_sP g f (sp_mv (sp_pv g f) 0 6 (nI 1))) (f := f) (fr := 0) (to := 6) (by omega) (by omega) (by omega) (nI 1)) (by omega) rfl (by decide) (by decide) rfl sq_c_177 rfl (Nat.le_of_ble_eq_true rfl) ?_
  refine sr_pop hA si_175_113 rfl ?_
  refine sr_goto (tgt := 117) hA si_175_114 (by decide) ?_
  refine sr_aload_n hA si_175_117 rfl ?_
  refine sr_iload_n hA si_175_118 rfl ?_
  refine sr_bipush (v := nI 8) hA si_175_119 (by decide) ?_
  refine sr_aload_n hA si_175_121 rfl ?_
  refine sr_getR (r := 73) hA si_175_122 sf_175_39 (by decide) (by decide) rfl rfl rfl ?_
  refine sr_iload_n hA si_175_125 rfl ?_
  refine sr_ialdNv (v := g.1 73 0) (n := 6) hA si_175_126 (by decide) rfl rfl (by omega) (by decide) (by rw [sp_sP_o (by decide)]; rw [sp_sP_o (by decide)]) ?_
  refine sr_VFv (c := 64) (ci := 8) (as := [.int (nI f), .int (nI 8), .int (g.1 73 0)]) (st := []) hA si_175_127 sv_178 sk_175_161 (mc_add X (sp_sP (sp_sP g f (sp_mv (sp_pv g f) 0 6 (nI 1))) f (sp_mv (sp_pv (sp_sP g f (sp_mv (sp_pv g f) 0 6 (nI 1))) f) 0 6 (nI 1))) (f := f) (i := 8) (by omega) (g.1 73 0)) (by omega) rfl (by decide) (by decide) rfl sq_c_178 rfl (Nat.le_of_ble_eq_true rfl) ?_
  exact sr_vretF hA si_175_130 sq_r_175 (sp_pfin2 (by omega) (by omega) (by omega))
set_option maxRecDepth 20000 in
theorem mc_plays40R (X : sp_X) (g : sp_G) {f n : Nat} (hn : g.1 64 11 = nI n) (hb : n ≤ 6) (hi : 0 < n) (hf : f < 14) (hk : g.1 71 0 = nI 4) (hl : 1 < n) : sp_Ct X 2 175 [.ref 64, .int (nI f), .int (nI 0)] g (sp_Fv (sp_sP g f (upd (sp_mv (sp_mv (sp_pv g f) 0 6 (nI 1)) 0 (0 + 1) (nI 1)) 8 ((sp_mv (sp_mv (sp_pv g f) 0 6 (nI 1)) 0 (0 + 1) (nI 1)) 8 + g.1 73 0)))) := by
  refine sp_walkN (n := 3) sq_p_175 sq_l_175 (Nat.le_of_ble_eq_true rfl) (fun a hA => ?_)
  show sp_Ev X a 175 0 [.ref 64, .int (nI f), .int (nI 0)] [] g
  refine sr_aload_n hA si_175_0 rfl ?_
  refine sr_getR (r := 71) hA si_175_1 sf_175_33 (by decide) (by decide) rfl rfl rfl ?_
  refine sr_iload_n hA si_175_4 rfl ?_
  refine sr_ialdNv (v := nI 4) (n := 6) hA si_175_5 (by decide) rfl rfl (by omega) (by decide) hk ?_
  refine sr_tswI (c := nI 4) (tgt := 88) hA si_175_6 rfl (by decide) (by decide) rfl (by decide) ?_
  refine sr_aload_n hA si_175_88 rfl ?_
  refine sr_iload_n hA si_175_89 rfl ?_
  refine sr_iload_n hA si_175_90 rfl ?_
  refine sr_aload_n hA si_175_91 rfl ?_
  refine sr_iload_n hA si_175_92 rfl ?_
  refine sr_VFi (c := 64) (ci := 8) (as := [.int (nI 0)]) (st := [.int (nI 0), .int (nI f), .ref 64]) hA si_175_93 sv_169 sk_175_171 (mc_leftOf0 X g) (by omega) rfl (by decide) (by decide) rfl sq_c_169 rfl (Nat.le_of_ble_eq_true rfl) ?_
  refine sr_iconst (v := nI 1) hA si_175_96 (by decide) ?_
  refine sr_VFi (c := 64) (ci := 8) (as := [.int (nI f), .int (nI 0), .int (nI 6), .int (nI 1)]) (st := []) hA si_175_97 sv_177 sk_175_167 (mc_moves X g (f := f) (fr := 0) (to := 6) (by omega) (by omega) (by omega) (nI 1)) (by omega) rfl (by decide) (by decide) rfl sq_c_177 rfl (Nat.le_of_ble_eq_true rfl) ?_
  refine sr_pop hA si_175_100 rfl ?_
  refine sr_aload_n hA si_175_101 rfl ?_
  refine sr_iload_n hA si_175_102 rfl ?_
  refine sr_iload_n hA si_175_103 rfl ?_
  refine sr_aload_n hA si_175_104 rfl ?_
  refine sr_iload_n hA si_175_105 rfl ?_
  refine sr_VFi (c := 64) (ci := 8) (as := [.int (nI 0)]) (st := [.int (nI 0), .int (nI f), .ref 64]) hA si_175_106 sv_176 sk_175_164 (mc_rightOf X (sp_sP g f (sp_mv (sp_pv g f) 0 6 (nI 1))) (i := 0) (by rw [sp_sP_o (by decide)]; exact hn) (by omega) (by omega)) (by omega) rfl (by decide) (by decide) rfl sq_c_176 rfl (Nat.le_of_ble_eq_true rfl) ?_
  refine sr_iconst (v := nI 1) hA si_175_109 (by decide) ?_
  refine sr_VFi (c := 64) (ci := 8) (as := [.int (nI f), .int (nI 0), .int (nI (0 + 1)), .int (nI 1)]) (st := []) hA si_175_110 sv_177 sk_175_167 (mc_moves X (sp_sP g f (sp_mv (sp_pv g f) 0 6 (nI 1))) (f := f) (fr := 0) (to := (0 + 1)) (by omega) (by omega) (by omega) (nI 1)) (by omega) rfl (by decide) (by decide) rfl sq_c_177 rfl (Nat.le_of_ble_eq_true rfl) ?_
  refine sr_pop hA si_175_113 rfl ?_
  refine sr_goto (tgt := 117) hA si_175_114 (by decide) ?_
  refine sr_aload_n hA si_175_117 rfl ?_
  refine sr_iload_n hA si_175_118 rfl ?_
  refine sr_bipush (v := nI 8) hA si_175_119 (by decide) ?_
  refine sr_aload_n hA si_175_121 rfl ?_
  refine sr_getR (r := 73) hA si_175_122 sf_175_39 (by decide) (by decide) rfl rfl rfl ?_
  refine sr_iload_n hA si_175_125 rfl ?_
  refine sr_ialdNv (v := g.1 73 0) (n := 6) hA si_175_126 (by decide) rfl rfl (by omega) (by decide) (by rw [sp_sP_o (by decide)]; rw [sp_sP_o (by decide)]) ?_
  refine sr_VFv (c := 64) (ci := 8) (as := [.int (nI f), .int (nI 8), .int (g.1 73 0)]) (st := []) hA si_175_127 sv_178 sk_175_161 (mc_add X (sp_sP (sp_sP g f (sp_mv (sp_pv g f) 0 6 (nI 1))) f (sp_mv (sp_pv (sp_sP g f (sp_mv (sp_pv g f) 0 6 (nI 1))) f) 0 (0 + 1) (nI 1))) (f := f) (i := 8) (by omega) (g.1 73 0)) (by omega) rfl (by decide) (by decide) rfl sq_c_178 rfl (Nat.le_of_ble_eq_true rfl) ?_
  exact sr_vretF hA si_175_130 sq_r_175 (sp_pfin2 (by omega) (by omega) (by omega))
set_option maxRecDepth 20000 in
theorem mc_plays4PL (X : sp_X) (g : sp_G) {f i n : Nat} (hn : g.1 64 11 = nI n) (hb : n ≤ 6) (hi : i < n) (hf : f < 14) (hk : g.1 71 i = nI 4) (hl : 0 < i) (hl2 : i + 1 = n) : sp_Ct X 2 175 [.ref 64, .int (nI f), .int (nI i)] g (sp_Fv (sp_sP g f (upd (sp_mv (sp_mv (sp_pv g f) i (i - 1) (nI 1)) i 6 (nI 1)) 8 ((sp_mv (sp_mv (sp_pv g f) i (i - 1) (nI 1)) i 6 (nI 1)) 8 + g.1 73 i)))) := by
  refine sp_walkN (n := 3) sq_p_175 sq_l_175 (Nat.le_of_ble_eq_true rfl) (fun a hA => ?_)
  show sp_Ev X a 175 0 [.ref 64, .int (nI f), .int (nI i)] [] g
  refine sr_aload_n hA si_175_0 rfl ?_
  refine sr_getR (r := 71) hA si_175_1 sf_175_33 (by decide) (by decide) rfl rfl rfl ?_
  refine sr_iload_n hA si_175_4 rfl ?_
  refine sr_ialdNv (v := nI 4) (n := 6) hA si_175_5 (by decide) rfl rfl (by omega) (by decide) hk ?_
  refine sr_tswI (c := nI 4) (tgt := 88) hA si_175_6 rfl (by decide) (by decide) rfl (by decide) ?_
  refine sr_aload_n hA si_175_88 rfl ?_
  refine sr_iload_n hA si_175_89 rfl ?_
  refine sr_iload_n hA si_175_90 rfl ?_
  refine sr_aload_n hA si_175_91 rfl ?_
  refine sr_iload_n hA si_175_92 rfl ?_
  refine sr_VFi (c := 64) (ci := 8) (as := [.int (nI i)]) (st := [.int (nI i), .int (nI f), .ref 64]) hA si_175_93 sv_169 sk_175_171 (mc_leftOf X g (i := i) (by omega) (by omega)) (by omega) rfl (by decide) (by decide) rfl sq_c_169 rfl (Nat.le_of_ble_eq_true rfl) ?_
  refine sr_iconst (v := nI 1) hA si_175_96 (by decide) ?_
  refine sr_VFi (c := 64) (ci := 8) (as := [.int (nI f), .int (nI i), .int (nI (i - 1)), .int (nI 1)]) (st := []) hA si_175_97 sv_177 sk_175_167 (mc_moves X g (f := f) (fr := i) (to := (i - 1)) (by omega) (by omega) (by omega) (nI 1)) (by omega) rfl (by decide) (by decide) rfl sq_c_177 rfl (Nat.le_of_ble_eq_true rfl) ?_
  refine sr_pop hA si_175_100 rfl ?_
  refine sr_aload_n hA si_175_101 rfl ?_
  refine sr_iload_n hA si_175_102 rfl ?_
  refine sr_iload_n hA si_175_103 rfl ?_
  refine sr_aload_n hA si_175_104 rfl ?_
  refine sr_iload_n hA si_175_105 rfl ?_
  refine sr_VFi (c := 64) (ci := 8) (as := [.int (nI i)]) (st := [.int (nI i), .int (nI f), .ref 64]) hA si_175_106 sv_176 sk_175_164 (mc_rightOfL X (sp_sP g f (sp_mv (sp_pv g f) i (i - 1) (nI 1))) (i := i) (by rw [sp_sP_o (by decide)]; exact hn) (by omega) (by omega)) (by omega) rfl (by decide) (by decide) rfl sq_c_176 rfl (Nat.le_of_ble_eq_true rfl) ?_
  refine sr_iconst (v := nI 1) hA si_175_109 (by decide) ?_
  refine sr_VFi (c := 64) (ci := 8) (as := [.int (nI f), .int (nI i), .int (nI 6), .int (nI 1)]) (st := []) hA si_175_110 sv_177 sk_175_167 (mc_moves X (sp_sP g f (sp_mv (sp_pv g f) i (i - 1) (nI 1))) (f := f) (fr := i) (to := 6) (by omega) (by omega) (by omega) (nI 1)) (by omega) rfl (by decide) (by decide) rfl sq_c_177 rfl (Nat.le_of_ble_eq_true rfl) ?_
  refine sr_pop hA si_175_113 rfl ?_
  refine sr_goto (tgt := 117) hA si_175_114 (by decide) ?_
  refine sr_aload_n hA si_175_117 rfl ?_
  refine sr_iload_n hA si_175_118 rfl ?_
  refine sr_bipush (v := nI 8) hA si_175_119 (by decide) ?_
  refine sr_aload_n hA si_175_121 rfl ?_
  refine sr_getR (r := 73) hA si_175_122 sf_175_39 (by decide) (by decide) rfl rfl rfl ?_
  refine sr_iload_n hA si_175_125 rfl ?_
  refine sr_ialdNv (v := g.1 73 i) (n := 6) hA si_175_126 (by decide) rfl rfl (by omega) (by decide) (by rw [sp_sP_o (by decide)]; rw [sp_sP_o (by decide)]) ?_
  refine sr_VFv (c := 64) (ci := 8) (as := [.int (nI f), .int (nI 8), .int (g.1 73 i)]) (st := []) hA si_175_127 sv_178 sk_175_161 (mc_add X (sp_sP (sp_sP g f (sp_mv (sp_pv g f) i (i - 1) (nI 1))) f (sp_mv (sp_pv (sp_sP g f (sp_mv (sp_pv g f) i (i - 1) (nI 1))) f) i 6 (nI 1))) (f := f) (i := 8) (by omega) (g.1 73 i)) (by omega) rfl (by decide) (by decide) rfl sq_c_178 rfl (Nat.le_of_ble_eq_true rfl) ?_
  exact sr_vretF hA si_175_130 sq_r_175 (sp_pfin2 (by omega) (by omega) (by omega))
set_option maxRecDepth 20000 in
theorem mc_plays4PR (X : sp_X) (g : sp_G) {f i n : Nat} (hn : g.1 64 11 = nI n) (hb : n ≤ 6) (hi : i < n) (hf : f < 14) (hk : g.1 71 i = nI 4) (hl : 0 < i) (hl2 : i + 1 < n) : sp_Ct X 2 175 [.ref 64, .int (nI f), .int (nI i)] g (sp_Fv (sp_sP g f (upd (sp_mv (sp_mv (sp_pv g f) i (i - 1) (nI 1)) i (i + 1) (nI 1)) 8 ((sp_mv (sp_mv (sp_pv g f) i (i - 1) (nI 1)) i (i + 1) (nI 1)) 8 + g.1 73 i)))) := by
  refine sp_walkN (n := 3) sq_p_175 sq_l_175 (Nat.le_of_ble_eq_true rfl) (fun a hA => ?_)
  show sp_Ev X a 175 0 [.ref 64, .int (nI f), .int (nI i)] [] g
  refine sr_aload_n hA si_175_0 rfl ?_
  refine sr_getR (r := 71) hA si_175_1 sf_175_33 (by decide) (by decide) rfl rfl rfl ?_
  refine sr_iload_n hA si_175_4 rfl ?_
  refine sr_ialdNv (v := nI 4) (n := 6) hA si_175_5 (by decide) rfl rfl (by omega) (by decide) hk ?_
  refine sr_tswI (c := nI 4) (tgt := 88) hA si_175_6 rfl (by decide) (by decide) rfl (by decide) ?_
  refine sr_aload_n hA si_175_88 rfl ?_
  refine sr_iload_n hA si_175_89 rfl ?_
  refine sr_iload_n hA si_175_90 rfl ?_
  refine sr_aload_n hA si_175_91 rfl ?_
  refine sr_iload_n hA si_175_92 rfl ?_
  refine sr_VFi (c := 64) (ci := 8) (as := [.int (nI i)]) (st := [.int (nI i), .int (nI f), .ref 64]) hA si_175_93 sv_169 sk_175_171 (mc_leftOf X g (i := i) (by omega) (by omega)) (by omega) rfl (by decide) (by decide) rfl sq_c_169 rfl (Nat.le_of_ble_eq_true rfl) ?_
  refine sr_iconst (v := nI 1) hA si_175_96 (by decide) ?_
  refine sr_VFi (c := 64) (ci := 8) (as := [.int (nI f), .int (nI i), .int (nI (i - 1)), .int (nI 1)]) (st := []) hA si_175_97 sv_177 sk_175_167 (mc_moves X g (f := f) (fr := i) (to := (i - 1)) (by omega) (by omega) (by omega) (nI 1)) (by omega) rfl (by decide) (by decide) rfl sq_c_177 rfl (Nat.le_of_ble_eq_true rfl) ?_
  refine sr_pop hA si_175_100 rfl ?_
  refine sr_aload_n hA si_175_101 rfl ?_
  refine sr_iload_n hA si_175_102 rfl ?_
  refine sr_iload_n hA si_175_103 rfl ?_
  refine sr_aload_n hA si_175_104 rfl ?_
  refine sr_iload_n hA si_175_105 rfl ?_
  refine sr_VFi (c := 64) (ci := 8) (as := [.int (nI i)]) (st := [.int (nI i), .int (nI f), .ref 64]) hA si_175_106 sv_176 sk_175_164 (mc_rightOf X (sp_sP g f (sp_mv (sp_pv g f) i (i - 1) (nI 1))) (i := i) (by rw [sp_sP_o (by decide)]; exact hn) (by omega) (by omega)) (by omega) rfl (by decide) (by decide) rfl sq_c_176 rfl (Nat.le_of_ble_eq_true rfl) ?_
  refine sr_iconst (v := nI 1) hA si_175_109 (by decide) ?_
  refine sr_VFi (c := 64) (ci := 8) (as := [.int (nI f), .int (nI i), .int (nI (i + 1)), .int (nI 1)]) (st := []) hA si_175_110 sv_177 sk_175_167 (mc_moves X (sp_sP g f (sp_mv (sp_pv g f) i (i - 1) (nI 1))) (f := f) (fr := i) (to := (i + 1)) (by omega) (by omega) (by omega) (nI 1)) (by omega) rfl (by decide) (by decide) rfl sq_c_177 rfl (Nat.le_of_ble_eq_true rfl) ?_
  refine sr_pop hA si_175_113 rfl ?_
  refine sr_goto (tgt := 117) hA si_175_114 (by decide) ?_
  refine sr_aload_n hA si_175_117 rfl ?_
  refine sr_iload_n hA si_175_118 rfl ?_
  refine sr_bipush (v := nI 8) hA si_175_119 (by decide) ?_
  refine sr_aload_n hA si_175_121 rfl ?_
  refine sr_getR (r := 73) hA si_175_122 sf_175_39 (by decide) (by decide) rfl rfl rfl ?_
  refine sr_iload_n hA si_175_125 rfl ?_
  refine sr_ialdNv (v := g.1 73 i) (n := 6) hA si_175_126 (by decide) rfl rfl (by omega) (by decide) (by rw [sp_sP_o (by decide)]; rw [sp_sP_o (by decide)]) ?_
  refine sr_VFv (c := 64) (ci := 8) (as := [.int (nI f), .int (nI 8), .int (g.1 73 i)]) (st := []) hA si_175_127 sv_178 sk_175_161 (mc_add X (sp_sP (sp_sP g f (sp_mv (sp_pv g f) i (i - 1) (nI 1))) f (sp_mv (sp_pv (sp_sP g f (sp_mv (sp_pv g f) i (i - 1) (nI 1))) f) i (i + 1) (nI 1))) (f := f) (i := 8) (by omega) (g.1 73 i)) (by omega) rfl (by decide) (by decide) rfl sq_c_178 rfl (Nat.le_of_ble_eq_true rfl) ?_
  exact sr_vretF hA si_175_130 sq_r_175 (sp_pfin2 (by omega) (by omega) (by omega))
/-- plays, whatever the key is -/
theorem mc_plays (X : sp_X) (g : sp_G) {f i n k : Nat} (hn : g.1 64 11 = nI n) (hb : n ≤ 6) (hi : i < n) (hf : f < 14) (hk : g.1 71 i = nI k) (hk5 : k ≤ 5) : sp_Ct X 2 175 [.ref 64, .int (nI f), .int (nI i)] g (sp_Fv (sp_sP g f (sp_pl n (g.1 71) (g.1 73) (sp_pv g f) i))) := by
  unfold sp_pl sp_ef
  rw [hk]
  rcases (show k = 0 ∨ k = 1 ∨ k = 2 ∨ k = 3 ∨ k = 4 ∨ k = 5 by omega) with rfl | rfl | rfl | rfl | rfl | rfl
  · rw [if_pos (by decide)]
    by_cases hl : i + 1 = n
    · rw [show sp_rg n i = 6 from if_pos hl]
      exact mc_plays0L X g hn hb hi hf hk hl
    · rw [show sp_rg n i = i + 1 from if_neg hl]
      exact mc_plays0R X g hn hb hi hf hk (by omega)
  · rw [if_neg (by decide), if_pos (by decide)]
    rcases Nat.eq_zero_or_pos i with e | hl
    · subst e
      exact mc_plays10 X g hn hb hi hf hk
    · rw [show sp_lf i = i - 1 from if_neg (by omega)]
      exact mc_plays1P X g hn hb hi hf hk hl
  · rw [if_neg (by decide), if_neg (by decide), if_neg (by decide), if_neg (by decide)]
    exact mc_plays2 X g hn hb hi hf hk
  · rw [if_neg (by decide), if_neg (by decide), if_pos (by decide)]
    rcases Nat.eq_zero_or_pos i with e | hl
    · subst e
      exact mc_plays30 X g hn hb hi hf hk
    · rw [show sp_lf i = i - 1 from if_neg (by omega)]
      exact mc_plays3P X g hn hb hi hf hk hl
  · rw [if_neg (by decide), if_neg (by decide), if_neg (by decide), if_pos (by decide)]
    rcases Nat.eq_zero_or_pos i with e | hl
    · subst e
      rw [show sp_lf 0 = 6 from rfl]
      by_cases hl : 0 + 1 = n
      · rw [show sp_rg n 0 = 6 from if_pos hl]
        exact mc_plays40L X g hn hb hi hf hk hl
      · rw [show sp_rg n 0 = 0 + 1 from if_neg hl]
        exact mc_plays40R X g hn hb hi hf hk (by omega)
    · rw [show sp_lf i = i - 1 from if_neg (by omega)]
      by_cases hl2 : i + 1 = n
      · rw [show sp_rg n i = 6 from if_pos hl2]
        exact mc_plays4PL X g hn hb hi hf hk hl hl2
      · rw [show sp_rg n i = i + 1 from if_neg hl2]
        exact mc_plays4PR X g hn hb hi hf hk hl (by omega)
  · rw [if_neg (by decide), if_neg (by decide), if_neg (by decide), if_neg (by decide)]
    exact mc_plays5 X g hn hb hi hf hk
