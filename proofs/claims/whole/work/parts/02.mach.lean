/-! the sand machine: a memory of whole numbers by cell and place; the cells' kinds, lengths and references are fixed -/
abbrev sp_G : Type := (Nat → Nat → Int32) × (Nat → Nat → Int64)
def sp_up {α : Type} (f : Nat → Nat → α) (c j : Nat) (v : α) : Nat → Nat → α := fun c' j' => if c' = c ∧ j' = j then v else f c' j'
def sp_wI (g : sp_G) (c j : Nat) (v : Int32) : sp_G := (sp_up g.1 c j v, g.2)
def sp_wL (g : sp_G) (c j : Nat) (v : Int64) : sp_G := (g.1, sp_up g.2 c j v)
/-- a whole cell of ints is laid anew -/
def sp_wA (g : sp_G) (c : Nat) (f : Nat → Int32) : sp_G := (fun c' => if c' = c then f else g.1 c', g.2)
def sp_K : Nat := 85
/-- kinds: 0 .. 8 an object of that class; 10 ints, 11 bytes, 12 booleans, 13 longs, 14 Sands, 15 Storys, 16 rows of ints -/
def sp_kdT : List Nat := [7, 5, 16, 10, 10, 10, 10, 10, 10, 10, 5, 16, 10, 10, 10, 10, 10, 4, 0, 10, 10, 10, 14, 2, 2, 2, 2, 2, 2, 2, 10, 10, 10, 10, 10, 10, 10, 10, 10, 3, 13, 2, 10, 2, 10, 2, 10, 6, 10, 15, 6, 6, 6, 10, 10, 10, 1, 0, 10, 10, 10, 2, 10, 10, 8, 10, 10, 10, 10, 10, 11, 10, 10, 10, 10, 10, 10, 12, 10, 10, 10, 10, 10, 10, 10]
def sp_lnT : List Nat := [0, 0, 6, 40, 40, 40, 40, 40, 40, 6, 0, 4, 60, 60, 60, 60, 4, 0, 0, 6, 6, 6, 7, 0, 0, 0, 0, 0, 0, 0, 6, 6, 6, 6, 6, 6, 6, 6, 6, 0, 2048, 0, 6, 0, 6, 0, 6, 0, 549, 3, 0, 0, 0, 549, 549, 549, 0, 0, 6, 6, 6, 0, 6, 6, 0, 6, 6, 240, 40, 4, 240, 6, 6, 6, 24, 135, 540, 3, 3, 3, 27, 1620, 12, 12, 7776]
def sp_rfT : List (List Nat) := [[1, 10, 17, 18, 41, 43, 45, 47, 49, 56, 63], [2, 9], [3, 4, 5, 6, 7, 8], [], [], [], [], [], [], [], [11, 16], [12, 13, 14, 15], [], [], [], [], [], [18, 22, 37, 38, 39], [19, 20, 21], [], [], [], [23, 24, 25, 26, 27, 28, 29], [30], [31], [32], [33], [34], [35], [36], [], [], [], [], [], [], [], [], [], [40], [], [42], [], [44], [], [46], [], [48], [], [50, 51, 52], [53], [54], [55], [], [], [], [57, 61], [58, 59, 60], [], [], [], [62], [], [], [0, 65, 0, 0, 0, 66, 67, 68, 69, 70, 0, 0, 71, 72, 73, 0, 0, 0, 0, 74, 75, 0, 76, 77, 78, 79, 80, 81, 82, 83, 0, 0, 0, 0, 84]]
/-- kinds of the fields, by class: 0 an int, 1 a long, 2 a reference, 3 a boolean -/
def sp_ftT : List (List Nat) := [[2, 2, 2, 0], [2, 2, 0], [2, 0, 0, 0], [2, 0], [2, 2, 2, 2, 2, 0, 0, 0], [2, 2], [2, 0, 0, 3], [2, 2, 2, 2, 2, 2, 2, 2, 2, 2, 2, 0, 0, 1, 1], [0, 2, 0, 1, 1, 2, 2, 2, 2, 2, 0, 0, 2, 2, 2, 0, 0, 0, 0, 2, 2, 0, 2, 2, 2, 2, 2, 2, 2, 2, 0, 0, 0, 0, 2, 1]]
def sp_kd (c : Nat) : Nat := sp_kdT.getD c 99
def sp_ln (c : Nat) : Nat := sp_lnT.getD c 0
def sp_rf (c j : Nat) : Nat := (sp_rfT.getD c []).getD j 0
def sp_ft (ci k : Nat) : Nat := (sp_ftT.getD ci []).getD k 9
def sp_nf (ci : Nat) : Nat := (sp_ftT.getD ci []).length
def sp_aty (k : Nat) : FieldType := match k with
  | 10 => .int
  | 11 => .byte
  | 12 => .boolean
  | 13 => .long
  | 14 => .object "SandPiano$Sand"
  | 15 => .object "SandPiano$Story"
  | _ => .array .int
/-- what does not change in a run: the launch, the classes' numbers and slots, the cells' addresses, the arrays' classes -/
abbrev sp_X : Type := Launch × va_G × (Nat → Nat) × (Nat → ClassId)
abbrev sp_ad (X : sp_X) : Nat → Nat := X.2.2.1
abbrev sp_ca (X : sp_X) : Nat → ClassId := X.2.2.2
def sp_rv (X : sp_X) (v : Value) : Value := match v with
  | .ref k => .ref (sp_ad X k)
  | v => v
/-- a field's value, references by cell number -/
def sp_fv (g : sp_G) (c ci j : Nat) : Value := match sp_ft ci j with
  | 1 => .long (g.2 c j)
  | 2 => .ref (sp_rf c j)
  | _ => .int (g.1 c j)
def sp_fs (X : sp_X) (g : sp_G) (c : Nat) : List Value := (List.range (sp_nf (sp_kd c))).map (fun j => sp_rv X (sp_fv g c (sp_kd c) j))
def sp_ar (X : sp_X) (g : sp_G) (c : Nat) : (Nat → Int32) ⊕ (Nat → Int64) ⊕ (Nat → UInt32) ⊕ (Nat → UInt64) ⊕ (Nat → Option Nat) :=
  if sp_kd c = 13 then .inr (.inl (g.2 c)) else if 14 ≤ sp_kd c then .inr (.inr (.inr (.inr (fun j => some (sp_ad X (sp_rf c j)))))) else .inl (g.1 c)
def sp_en (X : sp_X) (g : sp_G) (c : Nat) : va_E := if sp_kd c < 9 then .inr (sp_kd c, sp_fs X g c) else .inl (sp_ca X c, sp_ln c, sp_ar X g c)
def sp_W (X : sp_X) (g : sp_G) : va_W := (List.range sp_K).map (fun c => (sp_ad X c, sp_en X g c))
def sp_al : List Nat := (List.range sp_K).filter (fun c => decide (9 ≤ sp_kd c))
def sp_ty (X : sp_X) : List (ClassId × FieldType) := sp_al.map (fun c => (sp_ca X c, sp_aty (sp_kd c)))
def sp_A (X : sp_X) : Nat → Prop := fun q => ∃ c, c < sp_K ∧ q = sp_ad X c
theorem sp_W_at (X : sp_X) (g : sp_G) {c : Nat} (h : c < sp_K) : (sp_W X g)[c]? = some (sp_ad X c, sp_en X g c) := by
  unfold sp_W
  rw [List.getElem?_map, List.getElem?_range h]
  rfl
theorem sp_ty_at (X : sp_X) {c : Nat} (h : c < sp_K) (hk : 9 ≤ sp_kd c) : ∃ t : Nat, (sp_ty X)[t]? = some (sp_ca X c, sp_aty (sp_kd c)) := by
  have hm : c ∈ sp_al := List.mem_filter.mpr ⟨List.mem_range.mpr h, by simp [hk]⟩
  obtain ⟨t, ht⟩ := List.getElem?_of_mem hm
  exact ⟨t, by unfold sp_ty; rw [List.getElem?_map, ht]; rfl⟩
/-- a world whose cell c alone is another -/
theorem sp_W_set (X : sp_X) (g g' : sp_G) {c : Nat} (h : c < sp_K) (he : ∀ c', c' ≠ c → sp_en X g' c' = sp_en X g c') : (sp_W X g).set c (sp_ad X c, sp_en X g' c) = sp_W X g' := by
  apply List.ext_getElem?
  intro k
  by_cases hk : k < sp_K
  · rw [sp_W_at X g' hk]
    by_cases hc : k = c
    · subst hc
      rw [List.getElem?_set_self (by unfold sp_W; simpa using hk)]
    · rw [List.getElem?_set_ne (fun q => hc q.symm), sp_W_at X g hk, he k hc]
  · rw [List.getElem?_eq_none (by unfold sp_W; simp; omega), List.getElem?_eq_none (by unfold sp_W; simp; omega)]
theorem sp_en_o {X : sp_X} {g : sp_G} {c ci : Nat} (h : sp_kd c = ci) (hc : ci < 9) : sp_en X g c = .inr (ci, sp_fs X g c) := by
  unfold sp_en
  rw [if_pos (by omega), h]
theorem sp_en_i {X : sp_X} {g : sp_G} {c : Nat} (h1 : 9 ≤ sp_kd c) (h2 : sp_kd c < 13) : sp_en X g c = .inl (sp_ca X c, sp_ln c, .inl (g.1 c)) := by
  unfold sp_en sp_ar
  rw [if_neg (by omega), if_neg (by omega), if_neg (by omega)]
theorem sp_en_l {X : sp_X} {g : sp_G} {c : Nat} (h1 : sp_kd c = 13) : sp_en X g c = .inl (sp_ca X c, sp_ln c, .inr (.inl (g.2 c))) := by
  unfold sp_en sp_ar
  rw [if_neg (by omega), if_pos h1]
theorem sp_en_r {X : sp_X} {g : sp_G} {c : Nat} (h1 : 14 ≤ sp_kd c) : sp_en X g c = .inl (sp_ca X c, sp_ln c, .inr (.inr (.inr (.inr (fun j => some (sp_ad X (sp_rf c j))))))) := by
  unfold sp_en sp_ar
  rw [if_neg (by omega), if_neg (by omega), if_pos h1]
theorem sp_en_same {X : sp_X} {g g' : sp_G} {c : Nat} (h1 : g'.1 c = g.1 c) (h2 : g'.2 c = g.2 c) : sp_en X g' c = sp_en X g c := by
  unfold sp_en sp_fs sp_ar sp_fv
  rw [h1, h2]
theorem sp_wI_ne {g : sp_G} {c c' j : Nat} {v : Int32} (h : c' ≠ c) : (sp_wI g c j v).1 c' = g.1 c' := by
  funext k
  show (if c' = c ∧ k = j then v else g.1 c' k) = _
  rw [if_neg (fun q => h q.1)]
theorem sp_wI_eq {g : sp_G} {c j : Nat} {v : Int32} : (sp_wI g c j v).1 c = upd (g.1 c) j v := by
  funext k
  show (if c = c ∧ k = j then v else g.1 c k) = _
  by_cases h : k = j <;> simp [upd, h]
theorem sp_wL_ne {g : sp_G} {c c' j : Nat} {v : Int64} (h : c' ≠ c) : (sp_wL g c j v).2 c' = g.2 c' := by
  funext k
  show (if c' = c ∧ k = j then v else g.2 c' k) = _
  rw [if_neg (fun q => h q.1)]
theorem sp_wL_eq {g : sp_G} {c j : Nat} {v : Int64} : (sp_wL g c j v).2 c = vp_updL (g.2 c) j v := by
  funext k
  show (if c = c ∧ k = j then v else g.2 c k) = _
  by_cases h : k = j <;> simp [vp_updL, h]
theorem sp_fs_at {X : sp_X} {g : sp_G} {c ci j : Nat} (h : sp_kd c = ci) (hj : j < sp_nf ci) : (sp_fs X g c)[j]? = some (sp_rv X (sp_fv g c ci j)) := by
  unfold sp_fs
  rw [h, List.getElem?_map, List.getElem?_range hj]
  rfl
theorem sp_fs_len {X : sp_X} {g : sp_G} {c : Nat} : (sp_fs X g c).length = sp_nf (sp_kd c) := by
  unfold sp_fs
  simp
/-- a field's store: the list of fields -/
theorem sp_fs_set {X : sp_X} {g g' : sp_G} {c ci j : Nat} (h : sp_kd c = ci) (hj : j < sp_nf ci) (he : ∀ k, k ≠ j → sp_fv g' c ci k = sp_fv g c ci k) : (sp_fs X g c).set j (sp_rv X (sp_fv g' c ci j)) = sp_fs X g' c := by
  apply List.ext_getElem?
  intro k
  by_cases hk : k < sp_nf ci
  · rw [sp_fs_at h hk]
    by_cases hc : k = j
    · subst hc
      rw [List.getElem?_set_self (by rw [sp_fs_len, h]; exact hk)]
    · rw [List.getElem?_set_ne (fun q => hc q.symm), sp_fs_at h hk, he k hc]
  · rw [List.getElem?_eq_none (by simp [sp_fs_len, h]; omega), List.getElem?_eq_none (by rw [sp_fs_len, h]; omega)]
/-! tables of the class: kept in cells 1001 and 1002; the script in cell 1000 -/
def sp_tb (c : Nat) : List Int32 := if c = 1001 then [107, 98, 115, 99, 100, 114] else [0, 0, 0, 0, 1, 2]
def sp_St (X : sp_X) (U : State) (H : Heap) : Prop :=
  va_Z "SandPiano" "LETTERS" "[I" (.ref (sp_ad X 1001)) (sp_A X) U H ∧ va_T .int (sp_ad X 1001) 6 (fun j => .int ((sp_tb 1001).getD j 0)) (sp_A X) U H ∧
  va_Z "SandPiano" "PARENTS" "[I" (.ref (sp_ad X 1002)) (sp_A X) U H ∧ va_T .int (sp_ad X 1002) 6 (fun j => .int ((sp_tb 1002).getD j 0)) (sp_A X) U H ∧
  va_Nw (.fieldLinkNest "SandPiano$Reader" 75 "SandPiano" "LETTERS" "[I" "SandPiano") U ∧ va_Nw (.fieldLinkNest "SandPiano$Keys" 31 "SandPiano" "PARENTS" "[I" "SandPiano") U
theorem sp_St.warm {X : sp_X} {s U : State} {H H1 : Heap} (hW : s.WarmedH U.vm) (h : sp_St X s H) (hq : ∀ a : Nat, a < H.size → ¬ sp_A X a → H1[a]? = H[a]?) : sp_St X U H1 := by
  obtain ⟨h1, h2, h3, h4, h5, h6⟩ := h
  exact ⟨va_Z.moved hW.alike (h1.kept hq), va_T.moved hW.alike (h2.kept hq), va_Z.moved hW.alike (h3.kept hq), va_T.moved hW.alike (h4.kept hq), va_Nw.warmF hW h5, va_Nw.warmF hW h6⟩
/-- the world of a memory at a state -/
def sp_Wd (X : sp_X) (g : sp_G) (U : State) : Prop := va_P X.2.1 vwCl (sp_W X g) U.heap ∧ va_K X.2.1 vwCl (sp_ty X) U ∧ va_D (sp_A X) (sp_W X g) ∧ sp_St X U U.heap
/-- room for d calls, one in the other -/
def sp_rm (d : Nat) : Room := { frames := d, cells := 0, slots := 0, locals := 64 * d }
abbrev sp_Rt : Type := Option Value → sp_G → Prop
/-- how a method ends -/
def sp_Qc (X : sp_X) (Rt : sp_Rt) : Array Value → State → Outcome → State → Prop := fun _ st oc t =>
  (∃ (r : Option Value) (g : sp_G), oc = .returned (r.map (sp_rv X)) ∧ Rt r g ∧ va_P X.2.1 vwCl (sp_W X g) t.heap) ∧ va_F (sp_A X) st t
/-- THE CONTRACT: method N with these arguments in the memory g returns, within d calls one in the other, with an answer and a memory of Rt -/
def sp_Ct (X : sp_X) (d N : Nat) (as : List Value) (g : sp_G) (Rt : sp_Rt) : Prop :=
  Met X.1 (sp_y N) (sp_w N) (sp_rm d) (va_Pc (as.map (sp_rv X)) (sp_Wd X g)) (sp_Qc X Rt) 0 0 (sp_A X)
theorem sp_Ct.mono {X : sp_X} {d N : Nat} {as : List Value} {g : sp_G} {R1 R2 : sp_Rt} (h : sp_Ct X d N as g R1) (hr : ∀ r g', R1 r g' → R2 r g') : sp_Ct X d N as g R2 := by
  intro p e ha hc hk s m args below hf happ hP hK
  obtain ⟨t, o, a1, b1, b2, ⟨⟨r, g', e1, e2, e3⟩, b3⟩, b4⟩ := h p e ha hc hk s m args below hf happ hP hK
  exact ⟨t, o, a1, b1, b2, ⟨⟨r, g', e1, hr r g' e2, e3⟩, b3⟩, b4⟩
/-! an activation of a method -/
abbrev sp_Ac : Type := Program × Env × Room × State × MethodId × Array Value × List Frame × Method × Code × Nat × Nat × (State → Prop)
abbrev sp_Ac.p (a : sp_Ac) : Program := a.1
abbrev sp_Ac.e (a : sp_Ac) : Env := a.2.1
abbrev sp_Ac.R (a : sp_Ac) : Room := a.2.2.1
abbrev sp_Ac.s (a : sp_Ac) : State := a.2.2.2.1
abbrev sp_Ac.m (a : sp_Ac) : MethodId := a.2.2.2.2.1
abbrev sp_Ac.as (a : sp_Ac) : Array Value := a.2.2.2.2.2.1
abbrev sp_Ac.bl (a : sp_Ac) : List Frame := a.2.2.2.2.2.2.1
abbrev sp_Ac.me (a : sp_Ac) : Method := a.2.2.2.2.2.2.2.1
abbrev sp_Ac.c (a : sp_Ac) : Code := a.2.2.2.2.2.2.2.2.1
abbrev sp_Ac.ce (a : sp_Ac) : Nat := a.2.2.2.2.2.2.2.2.2.1
abbrev sp_Ac.sl (a : sp_Ac) : Nat := a.2.2.2.2.2.2.2.2.2.2.1
abbrev sp_Ac.Q (a : sp_Ac) : State → Prop := a.2.2.2.2.2.2.2.2.2.2.2
abbrev sp_Wp (X : sp_X) (a : sp_Ac) (H : Heap) (locs : List Loc) (g : JFrame) : Prop := W a.p X.1 a.e a.R a.s a.m a.as a.bl a.me a.c H locs a.ce a.sl a.Q g
/-- the world of a memory at a heap, within an activation -/
def sp_Wc (X : sp_X) (a : sp_Ac) (g : sp_G) (H : Heap) (locs : List Loc) : Prop := va_P X.2.1 vwCl (sp_W X g) H ∧ va_D (sp_A X) (sp_W X g) ∧ va_S (sp_A X) a.s.heap H locs
/-- the locals: what the list knows of them; null: nothing is known -/
def sp_LH (X : sp_X) (sl : Array Slot) (n : Nat) (ls : List Value) : Prop := sl.size = n ∧ lv_wf sl ∧ ∀ (i : Nat) (v : Value), ls[i]? = some v → v ≠ .null → sl[i]? = some (.val (sp_rv X v))
/-- FROM HERE the machine comes to its end -/
def sp_Ev (X : sp_X) (a : sp_Ac) (N : Nat) (pc : Nat) (ls st : List Value) (g : sp_G) : Prop :=
  ∀ (H : Heap) (locs : List Loc) (sl : Array Slot), sp_Wc X a g H locs → sp_LH X sl (sp_l N) ls → sp_Wp X a H locs (F0 a.m pc sl (st.map (sp_rv X)))
/-- what holds in an activation of method N, with d calls left -/
def sp_Act (X : sp_X) (N d : Nat) (Rt : sp_Rt) (a : sp_Ac) : Prop :=
  a.p.tables.exec = Jvm.exec ∧ a.c.code = sp_b N ∧ a.c.maxLocals = sp_l N ∧ a.s.vm.findClass (sp_y N).cls = some a.m.cls ∧ (∀ w ∈ sp_T, w.before a.as a.s = true) ∧
  va_K X.2.1 vwCl (sp_ty X) a.s ∧ sp_St X a.s a.s.heap ∧ d ≤ a.R.frames ∧ 64 * d ≤ a.R.locals ∧ a.ce ≤ a.R.cells ∧ a.sl ≤ a.R.slots ∧
  (∀ (pc : Nat) (v : Int32) (g : sp_G) (H : Heap) (locs : List Loc) (sl : Array Slot), decode (sp_b N) pc = .ok (.ireturn, 1) → (sp_r N = some .int ∨ (sp_r N = some .boolean ∧ (v = 0 ∨ v = 1))) → Rt (some (.int v)) g → sp_Wc X a g H locs → sp_Wp X a H locs (F0 a.m pc sl [.int v])) ∧
  (∀ (pc : Nat) (v : Int64) (g : sp_G) (H : Heap) (locs : List Loc) (sl : Array Slot), decode (sp_b N) pc = .ok (.lreturn, 1) → sp_r N = some .long → Rt (some (.long v)) g → sp_Wc X a g H locs → sp_Wp X a H locs (F0 a.m pc sl [.long v])) ∧
  (∀ (pc : Nat) (g : sp_G) (H : Heap) (locs : List Loc) (sl : Array Slot), decode (sp_b N) pc = .ok (.return_, 1) → sp_r N = none → Rt none g → sp_Wc X a g H locs → sp_Wp X a H locs (F0 a.m pc sl []))
theorem sp_nb {v : Int32} (h : v = 0 ∨ v = 1) : narrow .boolean (.int v) = .int v := by
  rcases h with rfl | rfl <;> decide +kernel
/-- the first locals of a method: a long takes two places -/
def sp_en0 (as : List Value) (n : Nat) : List Value := let l := as.flatMap (fun v => if v.category = 2 then [v, .null] else [v]); l ++ List.replicate (n - l.length) .null
theorem sp_rv_cat (X : sp_X) (v : Value) : (sp_rv X v).category = v.category := by cases v <;> rfl
theorem sp_ent_args (X : sp_X) : ∀ (as : List Value) (o i : Nat) (v : Value), (as.flatMap (fun v => if v.category = 2 then [v, .null] else [v]))[i]? = some v → v ≠ .null → (o + i, sp_rv X v) ∈ lv_args o (as.map (sp_rv X))
  | [], o, i, v, h, _ => by simp at h
  | w :: as, o, i, v, h, hv => by
    rw [List.flatMap_cons] at h
    rw [List.map_cons]
    unfold lv_args
    rw [sp_rv_cat]
    by_cases hc : w.category = 2
    · rw [if_pos hc] at h ⊢
      match i, h with
      | 0, h => cases h; exact List.mem_cons_self
      | 1, h => cases h; exact absurd rfl hv
      | i + 2, h =>
        have := sp_ent_args X as (o + 2) i v h hv
        rw [show o + (i + 2) = o + 2 + i by omega]
        exact List.mem_cons_of_mem _ this
    · rw [if_neg hc] at h ⊢
      match i, h with
      | 0, h => cases h; exact List.mem_cons_self
      | i + 1, h =>
        have := sp_ent_args X as (o + 1) i v h hv
        rw [show o + (i + 1) = o + 1 + i by omega]
        exact List.mem_cons_of_mem _ this
theorem sp_sl_len (X : sp_X) (as : List Value) : (lg_sl (as.map (sp_rv X))).length = (as.flatMap (fun v => if v.category = 2 then [v, Value.null] else [v])).length := by
  induction as with
  | nil => rfl
  | cons w as ih =>
    rw [List.map_cons]
    unfold lg_sl at ih ⊢
    rw [List.flatMap_cons, List.flatMap_cons, List.length_append, List.length_append, ih, sp_rv_cat]
    by_cases hc : w.category = 2 <;> simp [hc]
/-- A CONTRACT OUT OF A WALK -/
theorem sp_walk {X : sp_X} {d N : Nat} {as : List Value} {g : sp_G} {Rt : sp_Rt} (hp : plainName (sp_y N).cls = true) (hlen : (as.flatMap (fun v => if v.category = 2 then [v, Value.null] else [v])).length ≤ sp_l N)
    (h : ∀ a : sp_Ac, sp_Act X N d Rt a → sp_Ev X a N 0 (sp_en0 as (sp_l N)) [] g) : sp_Ct X d N as g Rt := by
  refine Met.ofW (cc := sp_b N) (maxL := sp_l N) (ret := sp_r N) hp rfl ?_
  intro p e s m args below meth c s₁ B hml hv
  obtain ⟨rfl, hP, hK, hD, hZ⟩ := hv
  have hx := B.exec
  have hb := B.bytes
  have hr := B.returns
  have hts := atoms_spec (ws := sp_w N) B.pre
  have hown : s.vm.findClass (sp_y N).cls = some m.cls := findClass_of_methodNamed B.named
  have hlocks := B.notSynchronized
  have hA : sp_Act X N d Rt (p, e, (headSpec (sp_w N) (sp_rm d)).room, s, m, (as.map (sp_rv X)).toArray, below, meth, c, 0, 0, MQ below (sp_Qc X Rt) (as.map (sp_rv X)).toArray s 0 0 (sp_A X)) := by
    refine ⟨hx, hb, hml, hown, fun w hw => hts w (List.mem_cons_of_mem _ hw), hK, hZ, Nat.le_refl _, Nat.le_refl _, Nat.le_refl _, Nat.le_refl _, ?_, ?_, ?_⟩
    · intro pc v g2 H locs sl hd ht hq hw
      have hq2 : ∀ t : State, t.heap = H → s.WarmedH t.vm → sp_Qc X Rt (as.map (sp_rv X)).toArray s (.returned (some (.int v))) t := fun t ht hW => ⟨⟨some (.int v), g2, rfl, hq, by rw [ht]; exact hw.1⟩, hw.2.2.F ht⟩
      rcases ht with ht | ⟨ht, h01⟩
      · exact W.iret hx hb (hr.trans ht) hq2 hw.2.2.2.2 hd hlocks
      · exact W.zret hx hb (hr.trans ht) (sp_nb h01) hq2 hw.2.2.2.2 hd hlocks
    · intro pc v g2 H locs sl hd ht hq hw
      exact W.lret hx hb (hr.trans ht) (fun t ht hW => ⟨⟨some (.long v), g2, rfl, hq, by rw [ht]; exact hw.1⟩, hw.2.2.F ht⟩) hw.2.2.2.2 hd hlocks
    · intro pc g2 H locs sl hd ht hq hw
      exact W.vret hx hb (hr.trans ht) (fun t ht hW => ⟨⟨none, g2, rfl, hq, by rw [ht]; exact hw.1⟩, hw.2.2.F ht⟩) hw.2.2.2.2 hd hlocks
  have hl := lv_entry (as.map (sp_rv X)) (n := sp_l N) (by rw [sp_sl_len]; exact hlen)
  rw [lg_entry_eq]
  refine h _ hA s.heap [] _ ⟨hP, hD, va_S.rf⟩ ⟨hl.1, hl.2.1, fun i v hi hv => ?_⟩
  have hi2 : (as.flatMap (fun v => if v.category = 2 then [v, Value.null] else [v]))[i]? = some v := by
    unfold sp_en0 at hi
    dsimp only at hi
    by_cases hlt : i < (as.flatMap (fun v => if v.category = 2 then [v, Value.null] else [v])).length
    · rwa [List.getElem?_append_left hlt] at hi
    · rw [List.getElem?_append_right (by omega)] at hi
      exact absurd (List.eq_of_mem_replicate (List.mem_of_getElem? hi)) hv
  have := sp_ent_args X as 0 i v hi2 hv
  rw [Nat.zero_add] at this
  exact hl.2.2 _ this
