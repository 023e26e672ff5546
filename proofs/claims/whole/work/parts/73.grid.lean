/-! rows of ints made at once: the instruction multianewarray with two lengths -/
section SmGrid
variable {E : CtlPost} {e : Env} {d : Bool} {acts : List Action} {s : State}
def sm_I (cI : ClassId) (K : Nat) : Cell := { cls := cI, slots := Array.replicate K (.int 0), vm := .none }
def sm_f (h i : Nat) : Nat → Option Nat := fun j => if j < i then some (h + 1 + j) else none
def sm_O (cA : ClassId) (N h i : Nat) : Cell := arrV cA N (fun j => va_rf (sm_f h i j))
def sm_T (s : State) (cA cI : ClassId) (N K : Nat) : Nat → State
  | 0 => s.pushCell (sm_O cA N s.heap.size 0)
  | i + 1 => ((sm_T s cA cI N K i).pushCell (sm_I cI K)).setCell s.heap.size (sm_O cA N s.heap.size (i + 1))
theorem sm_O0 (cA : ClassId) (N h : Nat) : sm_O cA N h 0 = { cls := cA, slots := Array.replicate N .null, vm := .none } := by
  rw [arrV_new]
  unfold sm_O
  refine congrArg (arrV cA N) (funext fun j => ?_)
  simp [sm_f, va_rf]
theorem sm_OS (cA : ClassId) (N h i : Nat) : (sm_O cA N h i).setSlot i (.ref (h + 1 + i)) = sm_O cA N h (i + 1) := by
  unfold sm_O
  rw [arrV_store]
  refine congrArg (arrV cA N) (funext fun j => ?_)
  unfold sm_f updV va_rf
  by_cases h1 : j = i
  · subst h1; simp
  · by_cases h2 : j < i
    · simp [h1, h2, show j < i + 1 by omega]
    · simp [h1, h2, show ¬ j < i + 1 by omega]
theorem sm_Osz (cA : ClassId) (N h i : Nat) : (sm_O cA N h i).slots.size = N := arrV_size _ _ _
theorem sm_at (s : State) (cA cI : ClassId) (N K : Nat) : ∀ i, (sm_T s cA cI N K i).heap.size = s.heap.size + 1 + i ∧ (sm_T s cA cI N K i).heap[s.heap.size]? = some (sm_O cA N s.heap.size i) ∧ (sm_T s cA cI N K i).vm = s.vm ∧ (sm_T s cA cI N K i).slotsUsed = s.slotsUsed + N + i * K
  | 0 => ⟨by simp [sm_T], by simp [sm_T], rfl, by simp [sm_T, sm_Osz]⟩
  | i + 1 => by
    obtain ⟨h1, h2, h3, h4⟩ := sm_at s cA cI N K i
    have hlt : s.heap.size < (sm_T s cA cI N K i).heap.size := by omega
    have h5 : ((sm_T s cA cI N K i).pushCell (sm_I cI K)).heap[s.heap.size]? = some (sm_O cA N s.heap.size i) := by rw [State.heap_pushCell_of_lt (h := hlt)]; exact h2
    refine ⟨?_, State.heap_setCell_self h5, by simp [sm_T, h3], ?_⟩
    · simp [sm_T, State.setCell, h1]; omega
    · simp [sm_T, h4, sm_I, Nat.succ_mul]; omega
theorem sm_old (s : State) (cA cI : ClassId) (N K : Nat) {a : Addr} (ha : a < s.heap.size) : ∀ i, (sm_T s cA cI N K i).heap[a]? = s.heap[a]?
  | 0 => State.heap_pushCell_of_lt _ _ ha
  | i + 1 => by
    have h1 := (sm_at s cA cI N K i).1
    have hlt : a < (sm_T s cA cI N K i).heap.size := Nat.lt_of_lt_of_le ha (by omega)
    show (((sm_T s cA cI N K i).pushCell (sm_I cI K)).setCell s.heap.size _).heap[a]? = _
    rw [State.heap_setCell_other (Nat.ne_of_gt ha), State.heap_pushCell_of_lt (h := hlt)]
    exact sm_old s cA cI N K ha i
theorem sm_row (s : State) (cA cI : ClassId) (N K : Nat) : ∀ i j, j < i → (sm_T s cA cI N K i).heap[s.heap.size + 1 + j]? = some (sm_I cI K)
  | 0, _, h => absurd h (Nat.not_lt_zero _)
  | i + 1, j, h => by
    have h1 := (sm_at s cA cI N K i).1
    show (((sm_T s cA cI N K i).pushCell (sm_I cI K)).setCell s.heap.size _).heap[s.heap.size + 1 + j]? = _
    rw [State.heap_setCell_other (show s.heap.size ≠ s.heap.size + 1 + j by omega)]
    by_cases hj : j = i
    · subst hj
      rw [← h1]
      exact State.heap_pushCell_size _ _
    · have hlt : s.heap.size + 1 + j < (sm_T s cA cI N K i).heap.size := by omega
      rw [State.heap_pushCell_of_lt (h := hlt)]
      exact sm_row s cA cI N K i j (by omega)
theorem sm_top (s : State) (f : JFrame) (cA cI : ClassId) (N K : Nat) : ∀ i, sm_T (s.setTop f) cA cI N K i = (sm_T s cA cI N K i).setTop f
  | 0 => rfl
  | i + 1 => by simp only [sm_T, sm_top s f cA cI N K i, State.heap_setTop, State.pushCell_setTop, State.setCell_setTop]
theorem sm_new {c comp : ClassId} {k : Class} {ty : FieldType} {n : Nat} {v : Value} (hk : s.vm.classes[c]? = some k) (hkind : k.kind = .array comp ty) (hl : ¬ n > e.platform.arrayLengthLimit) (hh : ¬ n * componentBytes ty > e.platform.maxHeapBytes) (hf : fits ty v = true) (hd : v.isDefault = true) {Q : Addr → Pre}
    (h1 : s.heap.size < e.platform.maxCells) (h2 : s.slotsUsed + n ≤ e.platform.maxSlots) (hq : Q s.heap.size d acts (s.pushCell { cls := c, slots := Array.replicate n v, vm := .none })) : wp (Jvm.newArray c n v) Q E e d acts s := by
  have hall : ((Array.replicate n v).all (·.isDefault)) = true := by
    rw [Array.all_replicate]; split <;> simp [hd]
  have hacts : allocActs (Array.replicate n v) s.heap.size acts = acts := by unfold allocActs; rw [if_pos hall]
  have hfits : ∀ i x, (Array.replicate n v)[i]? = some x → s.fitsSlot c .none i x = true := fun i x hx => by
    simp only [Array.getElem?_replicate] at hx
    split at hx
    · cases hx; simp [State.fitsSlot, State.slotType?, hk, hkind, hf]
    · cases hx
  simp only [Jvm.newArray, Jvm.arrayFits, wp_bind', W.ask, W.ite, hl, if_false, wp_pure', W.theClass, hk, hkind, hh, W.alloc, W.stop, Option.some.injEq, exists_eq_left', Array.size_replicate, hacts]
  rw [if_neg (by omega)]
  exact ⟨h1, h2, hfits, hq⟩
theorem sm_make {cA cI cc : ClassId} {kA kI : Class} {n k : Int32} {N K : Nat} (hkA : s.vm.classes[cA]? = some kA) (hkindA : kA.kind = .array cI (.array .int)) (hkI : s.vm.classes[cI]? = some kI) (hkindI : kI.kind = .array cc .int) (hn : ¬ n < 0) (hk : ¬ k < 0) (hN : n.toNatClampNeg = N) (hK : k.toNatClampNeg = K)
    (hl1 : ¬ N > e.platform.arrayLengthLimit) (hh1 : ¬ N * 4 > e.platform.maxHeapBytes) (hl2 : ¬ K > e.platform.arrayLengthLimit) (hh2 : ¬ K * 4 > e.platform.maxHeapBytes) (hc : s.heap.size + (1 + N) ≤ e.platform.maxCells) (hs : s.slotsUsed + (N + N * K) ≤ e.platform.maxSlots)
    {Q : Addr → Pre} (hq : ∀ d' acts', Q s.heap.size d' acts' (sm_T s cA cI N K N)) : wp (multianewarray.make cA [n, k]) Q E e d acts s := by
  subst hN
  subst hK
  have hfind : ([k].find? (· < 0)) = none := by simp [hk]
  rw [multianewarray.make]
  simp only [wp_bind', W.ite, hn, if_false, wp_pure', W.theClass, hkA, hkindA, Option.some.injEq, exists_eq_left']
  refine sm_new hkA hkindA hl1 hh1 rfl rfl (by omega) (by omega) ?_
  rw [← sm_O0 cA n.toNatClampNeg s.heap.size]
  simp only [hfind]
  rw [ite_self, wp_bind', Std.Legacy.Range.forIn_eq_forIn_range']
  rw [show ([:n.toNatClampNeg] : Std.Legacy.Range).size = n.toNatClampNeg by simp [Std.Legacy.Range.size]]
  show wp (forIn (List.range' 0 n.toNatClampNeg 1) PUnit.unit _) _ E e d acts _
  refine wp_forIn_inv (fun rest s' => ∃ i, i + rest.length = n.toNatClampNeg ∧ rest = List.range' i rest.length ∧ s' = sm_T s cA cI n.toNatClampNeg k.toNatClampNeg i) _ _ ⟨0, by simp, by simp, rfl⟩ ?_ ?_
  · rintro x rest s' d' acts' Q' ⟨i, hi, hl, rfl⟩ hnext
    rw [List.length_cons] at hi hl
    rw [List.range'_succ] at hl
    obtain ⟨rfl, hrest⟩ := List.cons.inj hl
    obtain ⟨f1, f2, f3, f4⟩ := sm_at s cA cI n.toNatClampNeg k.toNatClampNeg x
    have hmul : x * k.toNatClampNeg + k.toNatClampNeg ≤ n.toNatClampNeg * k.toNatClampNeg := by
      have := Nat.mul_le_mul_right k.toNatClampNeg (show x + 1 ≤ n.toNatClampNeg by omega)
      rw [Nat.succ_mul] at this; exact this
    have hlt0 : s.heap.size < (sm_T s cA cI n.toNatClampNeg k.toNatClampNeg x).heap.size := by omega
    simp only [wp_bind']
    rw [multianewarray.make]
    simp only [wp_bind', W.ite, hk, if_false, wp_pure', W.theClass, f3, hkI, hkindI, Option.some.injEq, exists_eq_left']
    refine sm_new (by rw [f3]; exact hkI) hkindI hl2 hh2 rfl rfl (by omega) (by omega) ?_
    simp only [wp_bind', W.writeLoc, wp_pure']
    refine ⟨sm_O cA n.toNatClampNeg s.heap.size x, by rw [State.heap_pushCell_of_lt (h := hlt0)]; exact f2, fun h => (by cases h), by rw [sm_Osz]; omega, ?_, hnext _ _ _ ⟨x + 1, by omega, hrest, ?_⟩⟩
    · show State.fitsSlot _ cA .none x _ = true
      simp [State.fitsSlot, State.slotType?, f3, hkA, hkindA, fits]
    · rw [f1, sm_OS]; rfl
  · rintro s' d' acts' ⟨i, hi, -, rfl⟩
    simp only [wp_pure']
    rw [show i = n.toNatClampNeg by simpa using hi]
    exact hq _ _
end SmGrid
theorem sm_over {args : Array Value} {first s : State} {o : Option Outcome} {idx : List Nat} (h : (Cond.arrayOver (.array .int)).holds args first o s idx = true) : ∃ cI cA k, s.vm.findClass (FieldType.array .int).toString = some cI ∧ s.vm.classes[cA]? = some k ∧ k.kind = .array cI (.array .int) ∧ s.vm.findClass ("[" ++ (FieldType.array .int).toString) = some cA := by
  simp only [Cond.holds, Cond.value, beq_iff_eq] at h
  cases hc : s.vm.findClass (FieldType.array .int).toString with
  | none => simp [hc] at h
  | some cI =>
    simp only [hc, Option.bind_some, Option.bind_eq_some_iff, Option.map_eq_some_iff] at h
    obtain ⟨cA, hi, k, hk, hb⟩ := h
    obtain ⟨hlt, hp, -⟩ := Array.findIdx?_eq_some_iff_getElem.mp hi
    have hkk : s.vm.classes[cA] = k := (Array.getElem?_eq_some_iff.mp hk).2
    rw [hkk] at hp
    cases hkind : k.kind with
    | array component ty =>
      rw [hkind] at hb hp
      simp at hb hp
      exact ⟨cI, cA, k, rfl, hk, by rw [hkind, hp, hb.1], hb.2⟩
    | _ => rw [hkind] at hb; simp at hb
section SmStand
variable {p : Program} {l : Launch} {e : Env} {R : Room} {s : State} {m : MethodId} {args : Array Value} {below : List Frame} {meth : Method} {c : Code} {T : State} {locs : List Loc} {cells slots : Nat}
theorem sm_stand (X : Stand p l e R s m args below meth c T locs cells slots) (cA cI : ClassId) (N K : Nat) : ∀ i, ∃ J : List Loc, (∀ x ∈ J, x.base = T.heap.size) ∧ Stand p l e R s m args below meth c (sm_T T cA cI N K i) (locs ++ J) (cells + 1 + i) (slots + N + i * K)
  | 0 => by
    have h := X.pushed (sm_O cA N T.heap.size 0)
    rw [sm_Osz] at h
    exact ⟨[], fun x hx => (by cases hx), by simpa [sm_T] using h⟩
  | i + 1 => by
    obtain ⟨J, hJ, Xi⟩ := sm_stand X cA cI N K i
    obtain ⟨f1, f2, f3, f4⟩ := sm_at T cA cI N K i
    have hlt0 : T.heap.size < (sm_T T cA cI N K i).heap.size := by omega
    have hcell : ((sm_T T cA cI N K i).pushCell (sm_I cI K)).heap[T.heap.size]? = some (sm_O cA N T.heap.size i) := by rw [State.heap_pushCell_of_lt (h := hlt0)]; exact f2
    have h := (Xi.pushed (sm_I cI K)).stored hcell i (.ref (T.heap.size + 1 + i))
    rw [sm_OS, show (sm_I cI K).slots.size = K by simp [sm_I]] at h
    refine ⟨J ++ [⟨T.heap.size, i⟩], fun x hx => ?_, ?_⟩
    · rcases List.mem_append.mp hx with hx | hx
      · exact hJ x hx
      · rw [List.mem_singleton.mp hx]
    · rw [show slots + N + (i + 1) * K = slots + N + i * K + K by rw [Nat.succ_mul]; omega, ← List.append_assoc]
      exact h
end SmStand
