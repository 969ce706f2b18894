/-! ===== four rows of ints, made at once ===== -/
def mq_f (h i : Nat) : Nat → Option Nat := fun j => if j < i then some (h + 1 + j) else none
def mq_o (c : ClassId) (h i : Nat) : Cell := arrV c 4 (fun j => va_rf (mq_f h i j))
def mq_r (c : ClassId) : Cell := arrV c 31 (fun _ => .int 0)
def mq_st (s : State) (cG cI : ClassId) : Nat → State
  | 0 => s.pushCell (mq_o cG s.heap.size 0)
  | i + 1 => ((mq_st s cG cI i).pushCell (mq_r cI)).setCell s.heap.size (mq_o cG s.heap.size (i + 1))
theorem mq_o0 (c : ClassId) (h : Nat) : ({ cls := c, slots := Array.replicate 4 .null, vm := .none } : Cell) = mq_o c h 0 := by
  rw [arrV_new]
  refine congrArg (arrV c 4) (funext fun j => ?_)
  simp [mq_f, va_rf]
theorem mq_r0 (c : ClassId) : ({ cls := c, slots := Array.replicate 31 (.int 0), vm := .none } : Cell) = mq_r c := arrV_new c 31 _
theorem mq_os (c : ClassId) (h i : Nat) : (mq_o c h i).setSlot i (.ref (h + 1 + i)) = mq_o c h (i + 1) := by
  unfold mq_o
  rw [arrV_store]
  refine congrArg (arrV c 4) (funext fun j => ?_)
  by_cases e : j = i
  · subst e
    simp [updV, mq_f, va_rf]
  · have : (j < i + 1) ↔ (j < i) := by omega
    simp [updV, e, mq_f, this]
theorem mq_sz (c : ClassId) (h i : Nat) : (mq_o c h i).slots.size = 4 := by simp [mq_o, arrV]
theorem mq_rz (c : ClassId) : (mq_r c).slots.size = 31 := by simp [mq_r, arrV]
theorem mq_facts (s : State) (cG cI : ClassId) : ∀ i, (mq_st s cG cI i).heap.size = s.heap.size + 1 + i ∧ (mq_st s cG cI i).heap[s.heap.size]? = some (mq_o cG s.heap.size i) ∧ (mq_st s cG cI i).vm = s.vm ∧ (mq_st s cG cI i).slotsUsed = s.slotsUsed + 4 + i * 31 ∧ (∀ a, a < s.heap.size → (mq_st s cG cI i).heap[a]? = s.heap[a]?) ∧ ∀ j, j < i → (mq_st s cG cI i).heap[s.heap.size + 1 + j]? = some (mq_r cI)
  | 0 => ⟨by simp [mq_st], by simp [mq_st], rfl, by simp [mq_st, mq_sz], fun a ha => State.heap_pushCell_of_lt _ _ ha, fun j hj => absurd hj (Nat.not_lt_zero _)⟩
  | i + 1 => by
    obtain ⟨a1, a2, a3, a4, a5, a6⟩ := mq_facts s cG cI i
    have hlt : s.heap.size < (mq_st s cG cI i).heap.size := by omega
    have hb : ((mq_st s cG cI i).pushCell (mq_r cI)).heap[s.heap.size]? = some (mq_o cG s.heap.size i) := by rw [State.heap_pushCell_of_lt (h := hlt)]; exact a2
    refine ⟨?_, State.heap_setCell_self hb, by simp [mq_st, a3], ?_, fun a ha => ?_, fun j hj => ?_⟩
    · simp [mq_st, State.setCell, a1]; omega
    · simp [mq_st, a4, mq_rz]; omega
    · show (((mq_st s cG cI i).pushCell (mq_r cI)).setCell s.heap.size _).heap[a]? = _
      have ha2 : a < (mq_st s cG cI i).heap.size := by omega
      rw [State.heap_setCell_other (Nat.ne_of_gt ha), State.heap_pushCell_of_lt (h := ha2)]
      exact a5 a ha
    · show (((mq_st s cG cI i).pushCell (mq_r cI)).setCell s.heap.size _).heap[s.heap.size + 1 + j]? = _
      rw [State.heap_setCell_other (show s.heap.size ≠ s.heap.size + 1 + j by omega)]
      by_cases e : j = i
      · subst e
        rw [← a1]
        exact State.heap_pushCell_size _ _
      · have ha2 : s.heap.size + 1 + j < (mq_st s cG cI i).heap.size := by omega
        rw [State.heap_pushCell_of_lt (h := ha2)]
        exact a6 j (by omega)
theorem mq_top (s : State) (f : JFrame) (cG cI : ClassId) : ∀ i, mq_st (s.setTop f) cG cI i = (mq_st s cG cI i).setTop f
  | 0 => rfl
  | i + 1 => by simp only [mq_st, mq_top s f cG cI i, State.heap_setTop, State.pushCell_setTop, State.setCell_setTop]
theorem mq_stand {p : Program} {l : Launch} {e : Env} {R : Room} {s : State} {m : MethodId} {args : Array Value} {below : List Frame} {meth : Method} {c : Code} {T : State} {locs : List Loc} {cells slots : Nat} (X : Stand p l e R s m args below meth c T locs cells slots) (cG cI : ClassId) : ∀ i, ∃ locs2 : List Loc, (∀ q ∈ locs2, q ∈ locs ∨ q.base = T.heap.size) ∧ Stand p l e R s m args below meth c (mq_st T cG cI i) locs2 (cells + 1 + i) (slots + 4 + i * 31)
  | 0 => by
    have h := X.pushed (mq_o cG T.heap.size 0)
    rw [mq_sz] at h
    exact ⟨locs, fun q hq => Or.inl hq, by simpa [mq_st] using h⟩
  | i + 1 => by
    obtain ⟨locs2, hl, Xi⟩ := mq_stand X cG cI i
    obtain ⟨a1, a2, a3, a4, a5, a6⟩ := mq_facts T cG cI i
    have ha2 : T.heap.size < (mq_st T cG cI i).heap.size := by omega
    have hb : ((mq_st T cG cI i).pushCell (mq_r cI)).heap[T.heap.size]? = some (mq_o cG T.heap.size i) := by rw [State.heap_pushCell_of_lt (h := ha2)]; exact a2
    have h := (Xi.pushed (mq_r cI)).stored hb i (.ref (T.heap.size + 1 + i))
    rw [mq_rz, mq_os] at h
    refine ⟨_, fun q hq => ?_, by rw [show slots + 4 + (i + 1) * 31 = slots + 4 + i * 31 + 31 by omega]; exact h⟩
    rcases List.mem_append.mp hq with hq | hq
    · exact hl q hq
    · right
      rw [List.mem_singleton.mp hq]
section MQ
variable {E : CtlPost} {e : Env} {d : Bool} {acts : List Action} {s : State}
theorem mq_new {c comp : ClassId} {k : Class} {type : FieldType} {len : Nat} {init : Value} (hk : s.vm.classes[c]? = some k) (hkind : k.kind = .array comp type) (hlimit : ¬ len > e.platform.arrayLengthLimit) (hheap : ¬ len * componentBytes type > e.platform.maxHeapBytes) (hfit : fits type init = true) (hdef : init.isDefault = true) {Q : Addr → Pre} (h1 : s.heap.size < e.platform.maxCells) (h2 : s.slotsUsed + len ≤ e.platform.maxSlots) (hq : Q s.heap.size d acts (s.pushCell { cls := c, slots := Array.replicate len init, vm := .none })) : wp (Jvm.newArray c len init) Q E e d acts s := by
  have hfits : ∀ i v, (Array.replicate len init)[i]? = some v → s.fitsSlot c .none i v = true := fun i v hv => by
    rw [Array.getElem?_replicate] at hv
    split at hv
    · cases hv
      simp [State.fitsSlot, State.slotType?, hk, hkind, hfit]
    · cases hv
  have hda : allocActs (Array.replicate len init) s.heap.size acts = acts := by
    unfold allocActs
    rw [if_pos (by rw [Array.all_replicate]; split <;> simp [hdef])]
  simp only [Jvm.newArray, Jvm.arrayFits, wp_bind', Jvm.W.ask, Jvm.W.ite, hlimit, if_false, wp_pure', Jvm.W.theClass, hk, hkind, hheap, Jvm.W.alloc, Jvm.W.stop, Option.some.injEq, exists_eq_left', Array.size_replicate, hda]
  rw [if_neg (by omega)]
  exact ⟨h1, h2, hfits, hq⟩
theorem mq_row {cI cc : ClassId} {kc : Class} {x : Int32} (hx : x.toNatClampNeg = 31) (hx0 : ¬ x < 0) (hkc : s.vm.classes[cI]? = some kc) (hkindc : kc.kind = .array cc .int) (hl2 : ¬ 31 > e.platform.arrayLengthLimit) (hh2 : ¬ 31 * componentBytes .int > e.platform.maxHeapBytes) (h1 : s.heap.size < e.platform.maxCells) (h2 : s.slotsUsed + 31 ≤ e.platform.maxSlots) {Q : Addr → Pre} (hq : Q s.heap.size d acts (s.pushCell (mq_r cI))) : wp (multianewarray.make cI [x]) Q E e d acts s := by
  rw [multianewarray.make]
  simp only [wp_bind', Jvm.W.ite, hx0, if_false, wp_pure', Jvm.W.theClass, hkc, hkindc, Option.some.injEq, exists_eq_left', hx]
  refine mq_new hkc hkindc hl2 hh2 rfl rfl h1 h2 ?_
  rw [show ({ cls := cI, slots := Array.replicate 31 (defaultValue .int), vm := .none } : Cell) = mq_r cI from mq_r0 cI]
  exact hq
theorem mq_make {cG cI cc : ClassId} {k kc : Class} {x y : Int32} (hy : y.toNatClampNeg = 4) (hy0 : ¬ y < 0) (hx : x.toNatClampNeg = 31) (hx0 : ¬ x < 0) (hk : s.vm.classes[cG]? = some k) (hkind : k.kind = .array cI (.array .int)) (hkc : s.vm.classes[cI]? = some kc) (hkindc : kc.kind = .array cc .int) (hl1 : ¬ 4 > e.platform.arrayLengthLimit) (hh1 : ¬ 4 * componentBytes (.array .int) > e.platform.maxHeapBytes) (hl2 : ¬ 31 > e.platform.arrayLengthLimit) (hh2 : ¬ 31 * componentBytes .int > e.platform.maxHeapBytes) (hc : s.heap.size + 1 + 4 ≤ e.platform.maxCells) (hs : s.slotsUsed + 4 + 4 * 31 ≤ e.platform.maxSlots) {Q : Addr → Pre} (hq : ∀ d' acts', Q s.heap.size d' acts' (mq_st s cG cI 4)) : wp (multianewarray.make cG [y, x]) Q E e d acts s := by
  have hfind : ([x].find? (· < 0)) = none := by simp [hx0]
  rw [multianewarray.make]
  simp only [wp_bind', Jvm.W.ite, hy0, if_false, wp_pure', Jvm.W.theClass, hk, hkind, Option.some.injEq, exists_eq_left', hy]
  refine mq_new hk hkind hl1 hh1 rfl rfl (by omega) (by omega) ?_
  simp only [hfind]
  rw [ite_self, wp_bind', Std.Legacy.Range.forIn_eq_forIn_range']
  rw [show ({ cls := cG, slots := Array.replicate 4 .null, vm := .none } : Cell) = mq_o cG s.heap.size 0 from mq_o0 cG _]
  show wp (forIn (List.range' 0 4 1) PUnit.unit _) _ E e d acts _
  refine wp_forIn_inv (fun rest s' => ∃ i, i ≤ 4 ∧ rest = List.range' i (4 - i) ∧ s' = mq_st s cG cI i) _ _ ⟨0, by decide, rfl, rfl⟩ ?_ ?_
  · rintro z rest s' d' acts' Q' ⟨i, hi, hl, rfl⟩ hnext
    have hi4 : i < 4 := by
      rcases (show i = 4 ∨ i < 4 by omega) with e | h
      · subst e; cases hl
      · exact h
    rw [show 4 - i = (4 - (i + 1)) + 1 by omega, List.range'_succ] at hl
    obtain ⟨rfl, hrest⟩ := List.cons.inj hl
    obtain ⟨a1, a2, a3, a4, a5, a6⟩ := mq_facts s cG cI z
    simp only [wp_bind']
    refine mq_row hx hx0 (by rw [a3]; exact hkc) hkindc hl2 hh2 (by omega) (by omega) ?_
    simp only [wp_bind', Jvm.W.writeLoc, wp_pure']
    have ha2 : s.heap.size < (mq_st s cG cI z).heap.size := by omega
    refine ⟨mq_o cG s.heap.size z, by rw [State.heap_pushCell_of_lt (h := ha2)]; exact a2, by simp [mq_o, arrV], by rw [mq_sz]; exact hi4, ?_, hnext _ _ _ ⟨z + 1, hi4, hrest, ?_⟩⟩
    · simp [State.fitsSlot, State.slotType?, a3, mq_o, arrV, hk, hkind, fits]
    · rw [a1, mq_os]; rfl
  · rintro s' d' acts' ⟨i, hi, hl, rfl⟩
    obtain rfl : i = 4 := by
      rcases (show i = 4 ∨ i < 4 by omega) with e | h
      · exact e
      · rw [show 4 - i = (4 - (i + 1)) + 1 by omega, List.range'_succ] at hl; cases hl
    simp only [wp_pure']
    exact hq _ _
end MQ
theorem mq_step {p : Program} {l : Launch} {e : Env} {R : Room} {s : State} {m : MethodId} {args : Array Value} {below : List Frame} {meth : Method} {c : Code} {T : State} {locs : List Loc} {cells slots : Nat} {cI cG cc : ClassId} {kA kC : Class} (X : Stand p l e R s m args below meth c T locs cells slots) (hexec : p.tables.exec = Jvm.exec) {own : String} {index : Nat} (hown : s.vm.findClass own = some m.cls) (hclink : (Cond.classLink own index "[[I").before args s = true) (hG : s.vm.findClass "[[I" = some cG) (hkA : s.vm.classes[cG]? = some kA) (hkindA : kA.kind = .array cI (.array .int)) (hkC : s.vm.classes[cI]? = some kC) (hkindC : kC.kind = .array cc .int)
    {g : JFrame} (hg : g.method = m) (hdg : decode c.code g.pc = .ok (.multianewarray index 2, 4)) {x y : Int32} {rest : List Value} (hstack : g.stack = .int x :: .int y :: rest) (hy : y.toNatClampNeg = 4) (hy0 : ¬ y < 0) (hx : x.toNatClampNeg = 31) (hx0 : ¬ x < 0) (hcells : cells + 5 ≤ R.cells) (hslots : slots + 128 ≤ R.slots) :
    ∃ (vm₁ : Vm) (locs2 : List Loc), s.WarmedH vm₁ ∧ (∀ q ∈ locs2, q ∈ locs ∨ q.base = T.heap.size) ∧ Stand p l e R s m args below meth c (mq_st (T.setVm vm₁) cG cI 4) locs2 (cells + 5) (slots + 128) ∧ ∀ target, Steps p.tables e below ((mq_st (T.setVm vm₁) cG cI 4).setTop { g with pc := g.pc + 4, stack := .ref T.heap.size :: rest }) target → Steps p.tables e below (T.setTop g) target := by
  subst hg
  have hpl : e.platform.magicAccessors = ({} : Platform).magicAccessors := by rw [X.admits.platform]
  obtain ⟨c0, hfc0, hcl⟩ := Cond.classLink_spec hown hclink e.platform hpl
  cases hG.symm.trans hfc0
  obtain ⟨hg₁, hwarm₁, hready₁⟩ := State.classEntry (e := e) X.warmed hcl
  generalize T.vm.noted g.method.cls index (.cls cG) = vm₁ at hg₁ hwarm₁ hready₁
  obtain ⟨kA₁, hkA₁, heA⟩ := hwarm₁.alike.2.2 _ _ hkA
  obtain ⟨kC₁, hkC₁, heC⟩ := hwarm₁.alike.2.2 _ _ hkC
  have X₁ := X.noted hwarm₁
  obtain ⟨hr1, hr2⟩ := X.roomAbove hcells hslots
  obtain ⟨locs2, hl2, XF⟩ := mq_stand X₁ cG cI 4
  refine ⟨vm₁, locs2, hwarm₁, hl2, XF, fun target hrest => ?_⟩
  have al := Launch.admits_arrayLengthLimit X.admits
  have ah := Launch.admits_maxHeapBytes X.admits
  have b1 : componentBytes (.array .int) = 4 := rfl
  have b2 : componentBytes .int = 4 := rfl
  jvm_step X.here [hexec, hdg]
  simp only [multianewarray.sem, wp_bind', Jvm.W.resolveClassAt_links (State.method?_setTop g X.here.top) hg₁]
  rw [Jvm.W.popN, if_neg (by decide)]
  refine ⟨g, State.topJava?_setTop' (s := T.setVm vm₁) g X.here.top, [.int y, .int x], rest, rfl, hstack, ?_⟩
  simp only [List.mapM_cons, List.mapM_nil, wp_bind', wp_pure']
  refine mq_make (k := kA₁) (kc := kC₁) (cc := cc) hy hy0 hx hx0 hkA₁ (by rw [heA]; exact hkindA) hkC₁ (by rw [heC]; exact hkindC) (by rw [al]; decide) (by rw [ah, b1]; decide) (by rw [al]; decide) (by rw [ah, b2]; decide) (by show T.heap.size + 1 + 4 ≤ _; omega) (by show T.slotsUsed + 4 + 4 * 31 ≤ _; omega) (fun d' acts' => ?_)
  have eS : ((T.setTop g).setVm vm₁).setTop { g with stack := rest } = (T.setVm vm₁).setTop { g with stack := rest } := by
    show ((T.setVm vm₁).setTop g).setTop _ = _
    rw [State.setTop_setTop]
  rw [eS, mq_top]
  simp only [wp_bind', Jvm.W.mark, Jvm.W.pushRef, State.topJava?_setTop' _ XF.here.top, Option.some.injEq, exists_eq_left', State.setTop_setTop, State.heap_setTop]
  intro acts
  simp [jvm, XF.here.top]
  exact hrest
section MW
variable {p : Program} {l : Launch} {e : Env} {R : Room} {s : State} {m : MethodId} {args : Array Value} {below : List Frame} {meth : Method} {c : Code} {H : Heap} {locs : List Loc} {cells slots : Nat} {Q : State → Prop}
variable {cc : ByteArray} {pc : Nat} {ls : Array Slot} {rest : List Value} {D : va_G} {A : Nat → Prop} {ws : va_W} {H0 : Heap} {cI cG : ClassId}
theorem mq_gq (c : ClassId) (h : Nat) : mq_o c h 4 = arrV c 4 (fun j => va_rf (gq4 (h + 1) (h + 1 + 1) (h + 1 + 1 + 1) (h + 1 + 1 + 1 + 1) j)) := by
  refine congrArg (arrV c 4) (funext fun j => congrArg va_rf ?_)
  unfold mq_f gq4
  by_cases hj : j < 4
  · rw [if_pos hj, if_pos hj]
    rcases (show j = 0 ∨ j = 1 ∨ j = 2 ∨ j = 3 by omega) with rfl | rfl | rfl | rfl <;> rfl
  · rw [if_neg hj, if_neg hj]
theorem mq_P1 {D : va_G} {H H1 : Heap} {ws : va_W} {a : Nat} {x : va_E} (hP : va_P D vwCl ws H1) (h : va_at D vwCl (a, x) H1) : va_P D vwCl (ws ++ [(a, x)]) H1 := hP.app (fun k9 q hq => by
    have h0 : k9 < 1 := (List.getElem?_eq_some_iff.mp hq).1
    rw [show k9 = 0 by omega] at hq
    cases hq
    exact h)
theorem mq_D1 {ws : va_W} {a : Nat} {x : va_E} (hD : va_D A ws) (hl : ∀ (k : Nat) (q : Nat × va_E), ws[k]? = some q → q.1 < a) (hA : A a) : va_D A (ws ++ [(a, x)]) ∧ ∀ (k : Nat) (q : Nat × va_E), (ws ++ [(a, x)])[k]? = some q → q.1 < a + 1 := by
  have hc : ∀ (k : Nat) (q : Nat × va_E), (ws ++ [(a, x)])[k]? = some q → (k < ws.length ∧ ws[k]? = some q) ∨ (k = ws.length ∧ q = (a, x)) := fun k q hq => by
    by_cases h : k < ws.length
    · rw [List.getElem?_append_left h] at hq
      exact Or.inl ⟨h, hq⟩
    · rw [List.getElem?_append_right (by omega)] at hq
      have h0 : k - ws.length < 1 := (List.getElem?_eq_some_iff.mp hq).1
      rw [show k - ws.length = 0 by omega] at hq
      cases hq
      exact Or.inr ⟨by omega, rfl⟩
  refine ⟨⟨fun i j u v hi hj huv => ?_, fun k q hq => ?_⟩, fun k q hq => ?_⟩
  · rcases hc i u hi with ⟨a1, a2⟩ | ⟨a1, a2⟩ <;> rcases hc j v hj with ⟨b1, b2⟩ | ⟨b1, b2⟩
    · exact hD.1 i j u v a2 b2 huv
    · have := hl i u a2
      rw [huv, b2] at this
      exact absurd this (Nat.lt_irrefl _)
    · have := hl j v b2
      rw [← huv, a2] at this
      exact absurd this (Nat.lt_irrefl _)
    · omega
  · rcases hc k q hq with ⟨a1, a2⟩ | ⟨a1, a2⟩
    · exact hD.2 k q a2
    · rw [a2]; exact hA
  · rcases hc k q hq with ⟨a1, a2⟩ | ⟨a1, a2⟩
    · exact Nat.lt_succ_of_lt (hl k q a2)
    · rw [a2]; exact Nat.lt_succ_self _
/-- new int[4][31] -/
theorem mn_g (hx : p.tables.exec = Jvm.exec) (hb : c.code = cc) {own : String} {index : Nat} (hown : s.vm.findClass own = some m.cls) (hclink : (Cond.classLink own index "[[I").before args s = true) (hE : EV D cI cG s) (hP : va_P D vwCl ws H) (hD : va_D A ws) (hS : va_S A H0 H locs) (hA : ∀ q, H0.size ≤ q → A q) (hcells : cells + 5 ≤ R.cells) (hslots : slots + 128 ≤ R.slots) (hdg : decode cc pc = .ok (.multianewarray index 2, 4))
    (kk : ∀ (fa r0 r1 r2 r3 : Nat) (H1 : Heap) (locs1 : List Loc), va_P D vwCl (ws ++ [(fa, .inl (cG, 4, .inr (.inr (.inr (.inr (gq4 r0 r1 r2 r3)))))), (r0, .inl (cI, 31, .inl (fun _ => 0))), (r1, .inl (cI, 31, .inl (fun _ => 0))), (r2, .inl (cI, 31, .inl (fun _ => 0))), (r3, .inl (cI, 31, .inl (fun _ => 0)))]) H1 → va_D A (ws ++ [(fa, .inl (cG, 4, .inr (.inr (.inr (.inr (gq4 r0 r1 r2 r3)))))), (r0, .inl (cI, 31, .inl (fun _ => 0))), (r1, .inl (cI, 31, .inl (fun _ => 0))), (r2, .inl (cI, 31, .inl (fun _ => 0))), (r3, .inl (cI, 31, .inl (fun _ => 0)))]) → va_S A H0 H1 locs1 → W p l e R s m args below meth c H1 locs1 (cells + 5) (slots + 128) Q (F0 m (pc + 4) ls (.ref fa :: rest))) : W p l e R s m args below meth c H locs cells slots Q (F0 m pc ls (.int (nI 31) :: .int (nI 4) :: rest)) := by
  subst hb
  intro T hT Xs
  obtain ⟨hK, -, kA, hkA, hkindA⟩ := hE
  have h0 := hK.2 0 _ rfl
  have h1 := hK.2 1 _ rfl
  have hI : s.isArrayOf (arrV cI 0 (fun _ => .null)) .int := h0.1 0 (fun _ => .null)
  obtain ⟨-, kC, hkC, ccc, hkindC⟩ := hI
  have hGn : s.vm.findClass "[[I" = some cG := h1.2
  obtain ⟨vm₁, locs2, -, hl2, X', step⟩ := mq_step Xs hx hown hclink hGn hkA hkindA hkC hkindC (g := F0 m pc ls (.int (nI 31) :: .int (nI 4) :: rest)) rfl hdg rfl (nI_clamp (by decide)) (nI_pos (by decide)) (nI_clamp (by decide)) (nI_pos (by decide)) hcells hslots
  obtain ⟨f1, f2, -, -, f5, f6⟩ := mq_facts (T.setVm vm₁) cG cI 4
  have hTh : (T.setVm vm₁).heap = H := hT
  rw [hTh] at f1 f2 f5 f6
  rw [show T.heap = H from hT] at hl2 step
  generalize hF : mq_st (T.setVm vm₁) cG cI 4 = F at *
  have hAs : ∀ q, H.size ≤ q → A q := fun q hq => hA q (Nat.le_trans hS.1 hq)
  have hlt : ∀ (k : Nat) (q : Nat × va_E), ws[k]? = some q → q.1 < H.size := fun k q hq => (hP k q hq).lt
  have P0 : va_P D vwCl ws F.heap := hP.kept (fun k q hq => f5 q.1 (hlt k q hq))
  have P1 := mq_P1 (x := .inl (cG, 4, .inr (.inr (.inr (.inr (gq4 (H.size + 1) (H.size + 1 + 1) (H.size + 1 + 1 + 1) (H.size + 1 + 1 + 1 + 1))))))) (H := H) P0 (show F.heap[H.size]? = some (vp_cell cG _) by rw [f2, vp_cell_q]; exact congrArg some (mq_gq cG H.size))
  have P2 := mq_P1 (x := .inl (cI, 31, .inl (fun _ => 0))) (H := H) P1 (show F.heap[H.size + 1]? = some (vp_cell cI _) from f6 0 (by decide))
  have P3 := mq_P1 (x := .inl (cI, 31, .inl (fun _ => 0))) (H := H) P2 (show F.heap[H.size + 1 + 1]? = some (vp_cell cI _) from f6 1 (by decide))
  have P4 := mq_P1 (x := .inl (cI, 31, .inl (fun _ => 0))) (H := H) P3 (show F.heap[H.size + 1 + 1 + 1]? = some (vp_cell cI _) from f6 2 (by decide))
  have P5 := mq_P1 (x := .inl (cI, 31, .inl (fun _ => 0))) (H := H) P4 (show F.heap[H.size + 1 + 1 + 1 + 1]? = some (vp_cell cI _) from f6 3 (by decide))
  have D1 := mq_D1 (x := .inl (cG, 4, .inr (.inr (.inr (.inr (gq4 (H.size + 1) (H.size + 1 + 1) (H.size + 1 + 1 + 1) (H.size + 1 + 1 + 1 + 1))))))) hD hlt (hAs _ (Nat.le_refl _))
  have D2 := mq_D1 (x := .inl (cI, 31, .inl (fun _ => 0))) D1.1 D1.2 (hAs _ (by omega))
  have D3 := mq_D1 (x := .inl (cI, 31, .inl (fun _ => 0))) D2.1 D2.2 (hAs _ (by omega))
  have D4 := mq_D1 (x := .inl (cI, 31, .inl (fun _ => 0))) D3.1 D3.2 (hAs _ (by omega))
  have D5 := (mq_D1 (x := .inl (cI, 31, .inl (fun _ => 0))) D4.1 D4.2 (hAs _ (by omega))).1
  simp only [List.append_assoc, List.singleton_append, List.cons_append, List.nil_append] at P5 D5
  have hS2 : va_S A H0 F.heap locs2 := by
    refine ⟨Nat.le_trans hS.1 (by omega), fun q h1 h2 => (f5 q (Nat.lt_of_lt_of_le h1 hS.1)).trans (hS.2.1 q h1 h2), fun q hq => ?_⟩
    rcases hl2 q hq with h | h
    · exact hS.2.2 q h
    · rw [h]; exact hAs _ (Nat.le_refl _)
  obtain ⟨t, a1, b1⟩ := kk H.size (H.size + 1) (H.size + 1 + 1) (H.size + 1 + 1 + 1) (H.size + 1 + 1 + 1 + 1) F.heap locs2 P5 D5 hS2 F rfl X'
  exact ⟨t, step t a1, b1⟩
end MW
