/-! the world behind the grid's making -/
section SmW
variable {p : Program} {l : Launch} {e : Env} {R : Room} {s : State} {m : MethodId} {args : Array Value} {below : List Frame} {meth : Method} {c : Code} {H : Heap} {locs : List Loc} {cells slots : Nat} {Q : State → Prop}
variable {cc : ByteArray} {pc : Nat} {ls : Array Slot} {rest : List Value} {D : va_G} {cl : List vw_C} {A : Nat → Prop} {tys : List (ClassId × FieldType)} {ws : va_W} {H0 : Heap}
theorem sm_step {T : State} (X : Stand p l e R s m args below meth c T locs cells slots) (hexec : p.tables.exec = Jvm.exec) {own : String} {index : Nat} (hown : s.vm.findClass own = some m.cls) (hclink : (Cond.classLink own index ("[" ++ (FieldType.array .int).toString)).before args s = true) (hover : (Cond.arrayOver (.array .int)).before args s = true) (harr : (Cond.arrayClass .int).before args s = true)
    {g : JFrame} (hg : g.method = m) (hdg : decode c.code g.pc = .ok (.multianewarray index 2, 4)) {n k : Int32} {N K : Nat} {rest : List Value} (hstack : g.stack = .int k :: .int n :: rest) (hn : ¬ n < 0) (hk : ¬ k < 0) (hN : n.toNatClampNeg = N) (hK : k.toNatClampNeg = K) (hb1 : N ≤ 1000) (hb2 : K ≤ 1000) (hcells : cells + (1 + N) ≤ R.cells) (hslots : slots + (N + N * K) ≤ R.slots) :
    ∃ (vm₁ : Vm) (cA cI : ClassId) (kA kI : Class) (cc : ClassId), s.WarmedH vm₁ ∧ s.vm.findClass ("[" ++ (FieldType.array .int).toString) = some cA ∧ s.vm.findClass (FieldType.array .int).toString = some cI ∧ s.vm.classes[cA]? = some kA ∧ kA.kind = .array cI (.array .int) ∧ s.vm.classes[cI]? = some kI ∧ kI.kind = .array cc .int ∧
      Stand p l e R s m args below meth c (sm_T (T.setVm vm₁) cA cI N K N) locs (cells + 1 + N) (slots + N + N * K) ∧
      ∀ target, Steps p.tables e below ((sm_T (T.setVm vm₁) cA cI N K N).setTop { g with pc := g.pc + 4, stack := .ref T.heap.size :: rest }) target → Steps p.tables e below (T.setTop g) target := by
  subst hg
  have hpl : e.platform.magicAccessors = ({} : Platform).magicAccessors := by rw [X.admits.platform]
  obtain ⟨cI, cA, kA, hcI, hkA, hkindA, hnameA⟩ := sm_over hover
  obtain ⟨cI', kI, cc, hcI', hkI, hkindI⟩ := Cond.arrayClass_spec harr
  have ecI : cI' = cI := Option.some.inj (hcI'.symm.trans hcI)
  subst ecI
  obtain ⟨c0, hfc0, hcl⟩ := Cond.classLink_spec hown hclink e.platform hpl
  cases hnameA.symm.trans hfc0
  obtain ⟨hg₁, hwarm₁, hready₁⟩ := State.classEntry (e := e) X.warmed hcl
  generalize T.vm.noted g.method.cls index (.cls cA) = vm₁ at hg₁ hwarm₁ hready₁
  have hal : s.vm.Alike vm₁ := hwarm₁.alike
  obtain ⟨kA₁, hkA₁, heA⟩ := hal.2.2 _ _ hkA
  obtain ⟨kI₁, hkI₁, heI⟩ := hal.2.2 _ _ hkI
  have X₁ := X.noted hwarm₁
  obtain ⟨hr1, hr2⟩ := X.roomAbove hcells hslots
  obtain ⟨J, hJ, XF⟩ := sm_stand X₁ cA cI' N K N
  refine ⟨vm₁, cA, cI', kA, kI, cc, hwarm₁, hnameA, hcI, hkA, hkindA, hkI, hkindI, XF.dropFresh (fun x hx => ?_), fun target hrest => ?_⟩
  · rw [hJ x hx]
    exact X.heapGrown
  jvm_step X.here [hexec, hdg]
  simp only [multianewarray.sem, wp_bind', W.resolveClassAt_links (State.method?_setTop g X.here.top) hg₁]
  rw [W.popN, if_neg (by decide)]
  refine ⟨g, State.topJava?_setTop' (s := T.setVm vm₁) g X.here.top, [.int n, .int k], rest, rfl, hstack, ?_⟩
  simp only [List.mapM_cons, List.mapM_nil, wp_bind', wp_pure']
  refine sm_make (kA := kA₁) (kI := kI₁) (cI := cI') (cc := cc) (N := N) (K := K) hkA₁ (by rw [heA]; exact hkindA) hkI₁ (by rw [heI]; exact hkindI) hn hk hN hK (by rw [Launch.admits_arrayLengthLimit X.admits]; omega) (by rw [Launch.admits_maxHeapBytes X.admits]; omega) (by rw [Launch.admits_arrayLengthLimit X.admits]; omega) (by rw [Launch.admits_maxHeapBytes X.admits]; omega) (by show T.heap.size + (1 + N) ≤ _; omega) (by show T.slotsUsed + (N + N * K) ≤ _; omega) (fun d' acts' => ?_)
  have eS : ((T.setTop g).setVm vm₁).setTop { g with stack := rest } = (T.setVm vm₁).setTop { g with stack := rest } := by
    show ((T.setVm vm₁).setTop g).setTop _ = _
    rw [State.setTop_setTop]
  rw [eS, sm_top]
  simp only [wp_bind', W.mark, W.pushRef, State.topJava?_setTop' _ XF.here.top, Option.some.injEq, exists_eq_left', State.setTop_setTop, State.heap_setTop]
  intro acts
  simp [jvm, XF.here.top]
  exact hrest
def sm_ws (q N K : Nat) (cA cI : ClassId) : va_W := (q, .inl (cA, N, .inr (.inr (.inr (.inr (sm_f q N)))))) :: (List.range N).map (fun i => (q + 1 + i, .inl (cI, K, .inl (fun _ => 0))))
theorem sm_ws_at {q N K : Nat} {cA cI : ClassId} {j : Nat} {x : Nat × va_E} (h : (sm_ws q N K cA cI)[j]? = some x) : x.1 = q + j ∧ j ≤ N ∧ ((j = 0 ∧ x = (q, .inl (cA, N, .inr (.inr (.inr (.inr (sm_f q N))))))) ∨ (∃ i, j = i + 1 ∧ i < N ∧ x = (q + 1 + i, .inl (cI, K, .inl (fun _ => 0))))) := by
  cases j with
  | zero =>
    cases h
    exact ⟨rfl, by omega, Or.inl ⟨rfl, rfl⟩⟩
  | succ j =>
    have h2 : ((List.range N).map (fun i => ((q + 1 + i, .inl (cI, K, .inl (fun _ => 0))) : Nat × va_E)))[j]? = some x := h
    rw [List.getElem?_map] at h2
    by_cases hj : j < N
    · rw [List.getElem?_range hj] at h2
      cases h2
      exact ⟨by show q + 1 + j = _; omega, by omega, Or.inr ⟨j, rfl, hj, rfl⟩⟩
    · rw [List.getElem?_eq_none (by rw [List.length_range]; omega)] at h2
      cases h2
theorem sm_mna (hexec : p.tables.exec = Jvm.exec) (hb : c.code = cc) {own : String} {index : Nat} (hown : s.vm.findClass own = some m.cls) (hclink : (Cond.classLink own index ("[" ++ (FieldType.array .int).toString)).before args s = true) (hover : (Cond.arrayOver (.array .int)).before args s = true) (harr : (Cond.arrayClass .int).before args s = true)
    (hK : va_K D cl tys s) (hP : va_P D cl ws H) (hD : va_D A ws) (hS : va_S A H0 H locs) (hA : ∀ q, H0.size ≤ q → A q) {n k : Int32} {N K : Nat} (hn : ¬ n < 0) (hk : ¬ k < 0) (hN : n.toNatClampNeg = N) (hM : k.toNatClampNeg = K) (hb1 : N ≤ 1000) (hb2 : K ≤ 1000) (hcells : cells + (1 + N) ≤ R.cells) (hslots : slots + (N + N * K) ≤ R.slots) (hdg : decode cc pc = .ok (.multianewarray index 2, 4))
    (kk : ∀ (q : Nat) (cA cI : ClassId) (H1 : Heap), va_K D cl (tys ++ [(cA, .array .int), (cI, .int)]) s → va_P D cl (ws ++ sm_ws q N K cA cI) H1 → va_D A (ws ++ sm_ws q N K cA cI) → va_S A H0 H1 locs →
      W p l e R s m args below meth c H1 locs (cells + 1 + N) (slots + N + N * K) Q (F0 m (pc + 4) ls (.ref q :: rest))) : W p l e R s m args below meth c H locs cells slots Q (F0 m pc ls (.int k :: .int n :: rest)) := by
  intro T hT X
  obtain ⟨vm₁, cA, cI, kA, kI, cd, hW, fA, fI, hkA, hkindA, hkI, hkindI, X', step⟩ := sm_step X hexec hown hclink hover harr (g := F0 m pc ls (.int k :: .int n :: rest)) rfl (by rw [hb]; exact hdg) rfl hn hk hN hM hb1 hb2 hcells hslots
  have hTh : (T.setVm vm₁).heap = H := hT
  have hTs : (T.setVm vm₁).heap.size = H.size := by rw [hTh]
  obtain ⟨f1, f2, -, -⟩ := sm_at (T.setVm vm₁) cA cI N K N
  rw [hTs] at f1 f2
  have hold : ∀ x : Nat, x < H.size → (sm_T (T.setVm vm₁) cA cI N K N).heap[x]? = H[x]? := fun x hx => by
    rw [sm_old (T.setVm vm₁) cA cI N K (a := x) (by rw [hTs]; exact hx) N, hTh]
  have hrow : ∀ j : Nat, j < N → (sm_T (T.setVm vm₁) cA cI N K N).heap[H.size + 1 + j]? = some (sm_I cI K) := fun j hj => by
    have := sm_row (T.setVm vm₁) cA cI N K N j hj
    rw [hTs] at this
    exact this
  have hI : sm_I cI K = vp_cell cI (K, .inl (fun _ => 0)) := by
    rw [vp_cell_i, ← arrV_new]
    rfl
  have hP0 : va_P D cl ws (sm_T (T.setVm vm₁) cA cI N K N).heap := hP.kept (fun k9 x hx => hold x.1 ((hP k9 x hx).lt))
  have hP1 : va_P D cl (ws ++ sm_ws H.size N K cA cI) (sm_T (T.setVm vm₁) cA cI N K N).heap := hP0.app (fun j x hx => by
    obtain ⟨-, -, ⟨-, rfl⟩ | ⟨i, -, hi, rfl⟩⟩ := sm_ws_at hx
    · exact f2
    · show (sm_T (T.setVm vm₁) cA cI N K N).heap[H.size + 1 + i]? = some (vp_cell _ _)
      rw [hrow i hi, hI])
  have hD1 : va_D A (ws ++ sm_ws H.size N K cA cI) := by
    refine ⟨fun i j x y hi hj hxy => ?_, fun k9 x hx => ?_⟩
    · by_cases h1 : i < ws.length <;> by_cases h2 : j < ws.length
      · rw [List.getElem?_append_left h1] at hi
        rw [List.getElem?_append_left h2] at hj
        exact hD.1 i j x y hi hj hxy
      · rw [List.getElem?_append_left h1] at hi
        rw [List.getElem?_append_right (by omega)] at hj
        have h3 := (hP i x hi).lt
        have h4 := (sm_ws_at hj).1
        omega
      · rw [List.getElem?_append_right (by omega)] at hi
        rw [List.getElem?_append_left h2] at hj
        have h3 := (hP j y hj).lt
        have h4 := (sm_ws_at hi).1
        omega
      · rw [List.getElem?_append_right (by omega)] at hi hj
        have h3 := (sm_ws_at hi).1
        have h4 := (sm_ws_at hj).1
        omega
    · by_cases h1 : k9 < ws.length
      · rw [List.getElem?_append_left h1] at hx
        exact hD.2 k9 x hx
      · rw [List.getElem?_append_right (by omega)] at hx
        have h4 := (sm_ws_at hx).1
        exact hA _ (by have := hS.1; omega)
  have hK2 : va_K D cl (tys ++ [(cA, .array .int), (cI, .int)]) s := hK.app ⟨hK.1, fun j x hx => by
    match j, hx with
    | 0, hx => cases hx; exact ⟨fun n9 z9 => ⟨(fun q hq => by cases hq), kA, hkA, cI, hkindA⟩, fA⟩
    | 1, hx => cases hx; exact ⟨fun n9 z9 => ⟨(fun q hq => by cases hq), kI, hkI, cd, hkindI⟩, fI⟩
    | j + 2, hx => cases hx⟩
  obtain ⟨t, a1, b1⟩ := kk H.size cA cI _ hK2 hP1 hD1 ⟨by rw [f1]; have := hS.1; omega, fun x h1 h2 => (hold x (Nat.lt_of_lt_of_le h1 hS.1)).trans (hS.2.1 x h1 h2), hS.2.2⟩ _ rfl X'
  refine ⟨t, step t ?_, b1⟩
  have e : T.heap.size = H.size := by rw [hT]
  rw [e]
  exact a1
end SmW
