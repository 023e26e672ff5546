/-! what is played aside: cells that nobody asks for -/
def sp_xs (c : Nat) : Prop := (23 ≤ c ∧ c ≤ 40) ∨ (43 ≤ c ∧ c ≤ 46) ∨ c = 17
def sp_xa (g g' : sp_G) : Prop := (∀ c, ¬ sp_xs c → g'.1 c = g.1 c) ∧ ∀ c, c ≠ 40 → g'.2 c = g.2 c
theorem sp_xa.i {g g' : sp_G} (h : sp_xa g g') : ∀ c, ¬ sp_xs c → g'.1 c = g.1 c := h.1
theorem sp_xa.l {g g' : sp_G} (h : sp_xa g g') : ∀ c, c ≠ 40 → g'.2 c = g.2 c := h.2
def sp_ma (g g' : sp_G) : Prop := (∀ c, c ≠ 64 → c ≠ 75 → ¬ (82 ≤ c) → g'.1 c = g.1 c) ∧ (∀ j, j < 9 → g'.1 75 j = g.1 75 j) ∧ (∀ j, j < 30 → g'.1 64 j = g.1 64 j) ∧ ∀ c j, (c ≠ 64 ∨ j < 30) → g'.2 c j = g.2 c j
theorem sp_ma.i {g g' : sp_G} (h : sp_ma g g') : ∀ c, c ≠ 64 → c ≠ 75 → ¬ (82 ≤ c) → g'.1 c = g.1 c := h.1
theorem sp_ma.f {g g' : sp_G} (h : sp_ma g g') : ∀ j, j < 9 → g'.1 75 j = g.1 75 j := h.2.1
theorem sp_ma.o {g g' : sp_G} (h : sp_ma g g') : ∀ j, j < 30 → g'.1 64 j = g.1 64 j := h.2.2.1
theorem sp_ma.l {g g' : sp_G} (h : sp_ma g g') : ∀ c j, (c ≠ 64 ∨ j < 30) → g'.2 c j = g.2 c j := h.2.2.2
theorem sp_xs_ne {c c' : Nat} (h1 : sp_xs c) (hc : ¬ sp_xs c') : c' ≠ c := fun e => hc (by rw [e]; exact h1)
theorem sp_xa.rf {g : sp_G} : sp_xa g g := ⟨fun _ _ => rfl, fun _ _ => rfl⟩
theorem sp_ma.rf {g : sp_G} : sp_ma g g := ⟨fun _ _ _ _ => rfl, fun _ _ => rfl, fun _ _ => rfl, fun _ _ _ => rfl⟩
theorem sp_xa.tr {g g1 g2 : sp_G} (h : sp_xa g g1) (h2 : sp_xa g1 g2) : sp_xa g g2 := ⟨fun c hc => (h2.i c hc).trans (h.i c hc), fun c hc => (h2.l c hc).trans (h.l c hc)⟩
theorem sp_ma.tr {g g1 g2 : sp_G} (h : sp_ma g g1) (h2 : sp_ma g1 g2) : sp_ma g g2 := ⟨fun c h5 h6 h7 => (h2.i c h5 h6 h7).trans (h.i c h5 h6 h7), fun j hj => (h2.f j hj).trans (h.f j hj), fun j hj => (h2.o j hj).trans (h.o j hj), fun c j hc => (h2.l c j hc).trans (h.l c j hc)⟩
theorem sp_xa.sS {g g1 : sp_G} (h : sp_xa g g1) {s o : Nat} (h1 : sp_xs s) (h2 : sp_xs o) {v : Nat → Int32} : sp_xa g (sp_sS g1 s o v) := ⟨fun c hc => by rw [sp_sS_o (sp_xs_ne h1 hc) (sp_xs_ne h2 hc)]; exact h.i c hc, h.l⟩
theorem sp_xa.wI {g g1 : sp_G} (h : sp_xa g g1) {c j : Nat} (h1 : sp_xs c) {v : Int32} : sp_xa g (sp_wI g1 c j v) := ⟨fun c' hc => by rw [sp_wI_ne (sp_xs_ne h1 hc)]; exact h.i c' hc, h.l⟩
theorem sp_xa.wA {g g1 : sp_G} (h : sp_xa g g1) {c : Nat} (h1 : sp_xs c) {f : Nat → Int32} : sp_xa g (sp_wA g1 c f) := ⟨fun c' hc => by
  show (if c' = c then f else g1.1 c') = _
  rw [if_neg (sp_xs_ne h1 hc)]; exact h.i c' hc, h.l⟩
theorem sp_xa.wL {g g1 : sp_G} (h : sp_xa g g1) {j : Nat} {v : Int64} : sp_xa g (sp_wL g1 40 j v) := ⟨h.i, fun c' hc => by rw [sp_wL_ne hc]; exact h.l c' hc⟩
theorem sp_ma.sP {g g1 : sp_G} (h : sp_ma g g1) {f : Nat} (hf : 0 < f) {v : Nat → Int32} : sp_ma g (sp_sP g1 f v) := ⟨fun c h5 h6 h7 => by rw [sp_sP_o h6]; exact h.i c h5 h6 h7, fun j hj => by rw [sp_sP_rd, if_neg (by omega)]; exact h.f j hj, fun j hj => by rw [sp_sP_o (by decide)]; exact h.o j hj, h.l⟩
theorem sp_ma.wI {g g1 : sp_G} (h : sp_ma g g1) {c j : Nat} (h1 : 82 ≤ c ∨ (c = 64 ∧ 30 ≤ j) ∨ (c = 75 ∧ 9 ≤ j)) {v : Int32} : sp_ma g (sp_wI g1 c j v) := ⟨fun c' h5 h6 h7 => by rw [sp_wI_ne (by omega)]; exact h.i c' h5 h6 h7, fun k hj => by rw [sp_rd, if_neg (by omega)]; exact h.f k hj, fun k hj => by rw [sp_rd, if_neg (by omega)]; exact h.o k hj, h.l⟩
theorem sp_ma.wL {g g1 : sp_G} (h : sp_ma g g1) {j : Nat} (h1 : 30 ≤ j) {v : Int64} : sp_ma g (sp_wL g1 64 j v) := ⟨h.i, h.f, h.o, fun c' j' hc => by
  show (if c' = 64 ∧ j' = j then v else g1.2 c' j') = _
  rw [if_neg (by omega)]; exact h.l c' j' hc⟩
theorem sp_cl6_xs {c j : Nat} (h : sp_xs c) : sp_cl6 c j = 0 := by
  unfold sp_xs at h
  unfold sp_cl6
  rw [if_neg (by omega), if_neg (by omega), if_neg (by omega), if_neg (by omega), if_neg (by omega), if_neg (by omega), if_neg (by omega), if_neg (by omega), if_neg (by omega), if_neg (by omega), if_neg (by omega), if_neg (by omega), if_neg (by omega), if_neg (by omega), if_neg (by omega), if_neg (by omega), if_neg (by omega), if_neg (by omega), if_neg (by omega)]
theorem sp_xa.kp {g g' : sp_G} (h : sp_xa g g') {p : Nat} (hp : p ≠ 0) : sp_kp p g g' := fun c j hc => by
  rw [h.i c (fun e => hp (by rw [← hc]; exact sp_cl6_xs e))]
theorem sp_ma.kp {g g' : sp_G} (h : sp_ma g g') {p : Nat} (hp : p ≠ 0) : sp_kp p g g' := fun c j hc => by
  by_cases h1 : c = 64
  · subst h1
    by_cases hj : j < 30
    · exact h.o j hj
    · refine absurd (show p = 0 from ?_) hp
      rw [← hc]
      show (if j = 0 ∨ j = 2 then 1 else if j = 11 then 4 else if j = 10 ∨ j = 21 then 5 else 0) = 0
      rw [if_neg (by omega), if_neg (by omega), if_neg (by omega)]
  by_cases h2 : c = 75
  · subst h2
    by_cases hj : j < 9
    · exact h.f j hj
    · exact absurd (show p = 0 by rw [← hc]; unfold sp_cl6; simp; omega) hp
  by_cases h3 : 82 ≤ c
  · refine absurd (show p = 0 from ?_) hp
    rw [← hc]
    unfold sp_cl6
    rw [if_neg (by omega), if_neg (by omega), if_neg (by omega), if_neg (by omega), if_neg (by omega), if_neg (by omega), if_neg (by omega), if_neg (by omega), if_neg (by omega), if_neg (by omega), if_neg (by omega), if_neg (by omega), if_neg (by omega), if_neg (by omega), if_neg (by omega), if_neg (by omega), if_neg (by omega), if_neg (by omega), if_neg (by omega)]
  rw [h.i c h1 h2 h3]
theorem sp_Rel.xa {g g' : sp_G} (h : sp_Rel g) (k : sp_xa g g') : sp_Rel g' := h.F (k.kp (by decide)) (k.kp (by decide)) (k.kp (by decide)) (k.kp (by decide)) (k.kp (by decide)) (h.1.kp (k.kp (by decide)) (k.l 0 (by decide)) (by rw [k.l 64 (by decide)]; exact ⟨rfl, rfl⟩))
theorem sp_Rel.ma {g g' : sp_G} (h : sp_Rel g) (k : sp_ma g g') : sp_Rel g' := h.F (k.kp (by decide)) (k.kp (by decide)) (k.kp (by decide)) (k.kp (by decide)) (k.kp (by decide)) (h.1.kp (k.kp (by decide)) (funext fun j => k.l 0 j (by omega)) ⟨k.l 64 3 (by omega), k.l 64 4 (by omega)⟩)
/-- the figures of a Sand, of a frame -/
def sp_hS (g : sp_G) (s o : Nat) (v : Nat → Int32) : Prop := ∀ j, j < 9 → sp_sv g s o j = v j
def sp_hP (g : sp_G) (f : Nat) (v : Nat → Int32) : Prop := ∀ j, j < 9 → sp_pv g f j = v j
theorem sp_hS.s {g : sp_G} {s o : Nat} {v : Nat → Int32} (h : o ≠ s) : sp_hS (sp_sS g s o v) s o v := fun j hj => sp_sv_s h hj
theorem sp_hS.ne {g : sp_G} {s o s' o' : Nat} {v w : Nat → Int32} (h : sp_hS g s' o' w) (ha : sp_ap s' o' s o) : sp_hS (sp_sS g s o v) s' o' w := fun j hj => by
  rw [sp_sv_ne ha.1 ha.2.1 ha.2.2.1 ha.2.2.2]; exact h j hj
theorem sp_hP.s {g : sp_G} {f : Nat} {v : Nat → Int32} : sp_hP (sp_sP g f v) f v := fun j hj => sp_pv_s hj
theorem sp_hP.ne {g : sp_G} {f f' : Nat} {v w : Nat → Int32} (h : sp_hP g f' w) (hf : f' ≠ f) : sp_hP (sp_sP g f v) f' w := fun j hj => by
  rw [sp_pv_ne hj hf]; exact h j hj
theorem sp_oB.c {n A B : Nat} {v w : Nat → Int32} (h : sp_oB n A B v) (e : ∀ i, i < 9 → w i = v i) : sp_oB n A B w := by
  obtain ⟨h1, h2, h3⟩ := h
  exact ⟨fun i hi => by rw [e i (by omega)]; exact h1 i hi, by rw [e 6 (by omega)]; exact h2, fun i h4 h5 => by rw [e i (by omega)]; exact h3 i h4 h5⟩
