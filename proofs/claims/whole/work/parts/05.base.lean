/-! ===== what every contract here stands on ===== -/
/-- the links across the nest -/
def NW (U : State) : Prop := va_Nw (.fieldLinkNest RX7 104 "ScrambledLine$Inbox" "goodSource" "I" RX7) U ∧ va_Nw (.fieldLinkNest RX7 107 "ScrambledLine$Inbox" "goodLength" "I" RX7) U ∧ va_Nw (.fieldLinkNest RX7 44 "ScrambledLine$Sender" "outbox" "LScrambledLine$Outbox;" RX7) U ∧ va_Nw (.fieldLinkNest RX7 74 "ScrambledLine$Outbox" "frameCount" "I" RX7) U ∧ va_Nw (.fieldLinkNest RX7 78 "ScrambledLine$Sender" "inFrame" "Z" RX7) U ∧ va_Nw (.fieldLinkNest RX7 82 "ScrambledLine$Sender" "scrambler" "LScrambledLine$Scrambler;" RX7) U ∧ va_Nw (.fieldLinkNest RX7 86 "ScrambledLine$Scrambler" "bits" "I" RX7) U ∧ va_Nw (.fieldLinkNest RX7 91 "ScrambledLine$Listener" "mode" "I" RX7) U ∧ va_Nw (.fieldLinkNest RX7 94 "ScrambledLine$Listener" "inbox" "LScrambledLine$Inbox;" RX7) U ∧ va_Nw (.fieldLinkNest RX7 98 "ScrambledLine$Inbox" "counts" "[I" RX7) U ∧ va_Nw (.fieldLinkNest RX2 60 "ScrambledLine$Reader" "bytes" "[I" RX7) U ∧ va_Nw (.fieldLinkNest RX4 46 "ScrambledLine" "NIBBLE_OF_GROUP" "[I" RX7) U ∧ va_Nw (.fieldLinkNest RX6 60 "ScrambledLine" "LEVELS" "[I" RX7) U ∧ va_Nw (.fieldLinkNest RX6 76 "ScrambledLine$Outbox" "frameCount" "I" RX7) U ∧ va_Nw (.fieldLinkNest RX6 93 "ScrambledLine" "GROUP_OF_NIBBLE" "[I" RX7) U ∧ va_Nw (.methodLinkNest RX2 22 yX1_init RX7) U ∧ va_Nw (.methodLinkNest RX3 37 yX7_frameSize RX7) U ∧ va_Nw (.methodLinkNest RX3 53 yX7_checkOf RX7) U ∧ va_Nw (.methodLinkNest RX4 59 yX7_checkOf RX7) U ∧ va_Nw (.methodLinkNest RX4 63 yX7_frameSize RX7) U ∧ va_Nw (.methodLinkNest RX6 96 yX7_frameSize RX7) U
theorem NW.warm {s U : State} (hW : s.WarmedH U.vm) (h : NW s) : NW U := ⟨va_Nw.warmF hW h.1, va_Nw.warmF hW h.2.1, va_Nw.warmF hW h.2.2.1, va_Nw.warmF hW h.2.2.2.1, va_Nw.warmF hW h.2.2.2.2.1, va_Nw.warmF hW h.2.2.2.2.2.1, va_Nw.warmF hW h.2.2.2.2.2.2.1, va_Nw.warmF hW h.2.2.2.2.2.2.2.1, va_Nw.warmF hW h.2.2.2.2.2.2.2.2.1, va_Nw.warmF hW h.2.2.2.2.2.2.2.2.2.1, va_Nw.warmF hW h.2.2.2.2.2.2.2.2.2.2.1, va_Nw.warmF hW h.2.2.2.2.2.2.2.2.2.2.2.1, va_Nw.warmF hW h.2.2.2.2.2.2.2.2.2.2.2.2.1, va_Nw.warmF hW h.2.2.2.2.2.2.2.2.2.2.2.2.2.1, va_Nw.warmF hW h.2.2.2.2.2.2.2.2.2.2.2.2.2.2.1, va_Nw.warmM hW h.2.2.2.2.2.2.2.2.2.2.2.2.2.2.2.1, va_Nw.warmM hW h.2.2.2.2.2.2.2.2.2.2.2.2.2.2.2.2.1, va_Nw.warmM hW h.2.2.2.2.2.2.2.2.2.2.2.2.2.2.2.2.2.1, va_Nw.warmM hW h.2.2.2.2.2.2.2.2.2.2.2.2.2.2.2.2.2.2.1, va_Nw.warmM hW h.2.2.2.2.2.2.2.2.2.2.2.2.2.2.2.2.2.2.2.1, va_Nw.warmM hW h.2.2.2.2.2.2.2.2.2.2.2.2.2.2.2.2.2.2.2.2⟩
theorem NW.same {s U : State} (e : s.vm = U.vm) (h : NW s) : NW U := ⟨va_Nw.same rfl e h.1, va_Nw.same rfl e h.2.1, va_Nw.same rfl e h.2.2.1, va_Nw.same rfl e h.2.2.2.1, va_Nw.same rfl e h.2.2.2.2.1, va_Nw.same rfl e h.2.2.2.2.2.1, va_Nw.same rfl e h.2.2.2.2.2.2.1, va_Nw.same rfl e h.2.2.2.2.2.2.2.1, va_Nw.same rfl e h.2.2.2.2.2.2.2.2.1, va_Nw.same rfl e h.2.2.2.2.2.2.2.2.2.1, va_Nw.same rfl e h.2.2.2.2.2.2.2.2.2.2.1, va_Nw.same rfl e h.2.2.2.2.2.2.2.2.2.2.2.1, va_Nw.same rfl e h.2.2.2.2.2.2.2.2.2.2.2.2.1, va_Nw.same rfl e h.2.2.2.2.2.2.2.2.2.2.2.2.2.1, va_Nw.same rfl e h.2.2.2.2.2.2.2.2.2.2.2.2.2.2.1, va_Nw.same rfl e h.2.2.2.2.2.2.2.2.2.2.2.2.2.2.2.1, va_Nw.same rfl e h.2.2.2.2.2.2.2.2.2.2.2.2.2.2.2.2.1, va_Nw.same rfl e h.2.2.2.2.2.2.2.2.2.2.2.2.2.2.2.2.2.1, va_Nw.same rfl e h.2.2.2.2.2.2.2.2.2.2.2.2.2.2.2.2.2.2.1, va_Nw.same rfl e h.2.2.2.2.2.2.2.2.2.2.2.2.2.2.2.2.2.2.2.1, va_Nw.same rfl e h.2.2.2.2.2.2.2.2.2.2.2.2.2.2.2.2.2.2.2.2⟩
theorem NW.fX7_104 {s : State} {args : Array Value} (h : NW s) : (Cond.fieldLinkNest RX7 104 "ScrambledLine$Inbox" "goodSource" "I" RX7).before args s = true := va_Nw.use rfl h.1
theorem NW.fX7_107 {s : State} {args : Array Value} (h : NW s) : (Cond.fieldLinkNest RX7 107 "ScrambledLine$Inbox" "goodLength" "I" RX7).before args s = true := va_Nw.use rfl h.2.1
theorem NW.fX7_44 {s : State} {args : Array Value} (h : NW s) : (Cond.fieldLinkNest RX7 44 "ScrambledLine$Sender" "outbox" "LScrambledLine$Outbox;" RX7).before args s = true := va_Nw.use rfl h.2.2.1
theorem NW.fX7_74 {s : State} {args : Array Value} (h : NW s) : (Cond.fieldLinkNest RX7 74 "ScrambledLine$Outbox" "frameCount" "I" RX7).before args s = true := va_Nw.use rfl h.2.2.2.1
theorem NW.fX7_78 {s : State} {args : Array Value} (h : NW s) : (Cond.fieldLinkNest RX7 78 "ScrambledLine$Sender" "inFrame" "Z" RX7).before args s = true := va_Nw.use rfl h.2.2.2.2.1
theorem NW.fX7_82 {s : State} {args : Array Value} (h : NW s) : (Cond.fieldLinkNest RX7 82 "ScrambledLine$Sender" "scrambler" "LScrambledLine$Scrambler;" RX7).before args s = true := va_Nw.use rfl h.2.2.2.2.2.1
theorem NW.fX7_86 {s : State} {args : Array Value} (h : NW s) : (Cond.fieldLinkNest RX7 86 "ScrambledLine$Scrambler" "bits" "I" RX7).before args s = true := va_Nw.use rfl h.2.2.2.2.2.2.1
theorem NW.fX7_91 {s : State} {args : Array Value} (h : NW s) : (Cond.fieldLinkNest RX7 91 "ScrambledLine$Listener" "mode" "I" RX7).before args s = true := va_Nw.use rfl h.2.2.2.2.2.2.2.1
theorem NW.fX7_94 {s : State} {args : Array Value} (h : NW s) : (Cond.fieldLinkNest RX7 94 "ScrambledLine$Listener" "inbox" "LScrambledLine$Inbox;" RX7).before args s = true := va_Nw.use rfl h.2.2.2.2.2.2.2.2.1
theorem NW.fX7_98 {s : State} {args : Array Value} (h : NW s) : (Cond.fieldLinkNest RX7 98 "ScrambledLine$Inbox" "counts" "[I" RX7).before args s = true := va_Nw.use rfl h.2.2.2.2.2.2.2.2.2.1
theorem NW.fX2_60 {s : State} {args : Array Value} (h : NW s) : (Cond.fieldLinkNest RX2 60 "ScrambledLine$Reader" "bytes" "[I" RX7).before args s = true := va_Nw.use rfl h.2.2.2.2.2.2.2.2.2.2.1
theorem NW.fX4_46 {s : State} {args : Array Value} (h : NW s) : (Cond.fieldLinkNest RX4 46 "ScrambledLine" "NIBBLE_OF_GROUP" "[I" RX7).before args s = true := va_Nw.use rfl h.2.2.2.2.2.2.2.2.2.2.2.1
theorem NW.fX6_60 {s : State} {args : Array Value} (h : NW s) : (Cond.fieldLinkNest RX6 60 "ScrambledLine" "LEVELS" "[I" RX7).before args s = true := va_Nw.use rfl h.2.2.2.2.2.2.2.2.2.2.2.2.1
theorem NW.fX6_76 {s : State} {args : Array Value} (h : NW s) : (Cond.fieldLinkNest RX6 76 "ScrambledLine$Outbox" "frameCount" "I" RX7).before args s = true := va_Nw.use rfl h.2.2.2.2.2.2.2.2.2.2.2.2.2.1
theorem NW.fX6_93 {s : State} {args : Array Value} (h : NW s) : (Cond.fieldLinkNest RX6 93 "ScrambledLine" "GROUP_OF_NIBBLE" "[I" RX7).before args s = true := va_Nw.use rfl h.2.2.2.2.2.2.2.2.2.2.2.2.2.2.1
theorem NW.mX2_22 {s : State} (h : NW s) : va_Nw (.methodLinkNest RX2 22 yX1_init RX7) s := h.2.2.2.2.2.2.2.2.2.2.2.2.2.2.2.1
theorem NW.mX3_37 {s : State} (h : NW s) : va_Nw (.methodLinkNest RX3 37 yX7_frameSize RX7) s := h.2.2.2.2.2.2.2.2.2.2.2.2.2.2.2.2.1
theorem NW.mX3_53 {s : State} (h : NW s) : va_Nw (.methodLinkNest RX3 53 yX7_checkOf RX7) s := h.2.2.2.2.2.2.2.2.2.2.2.2.2.2.2.2.2.1
theorem NW.mX4_59 {s : State} (h : NW s) : va_Nw (.methodLinkNest RX4 59 yX7_checkOf RX7) s := h.2.2.2.2.2.2.2.2.2.2.2.2.2.2.2.2.2.2.1
theorem NW.mX4_63 {s : State} (h : NW s) : va_Nw (.methodLinkNest RX4 63 yX7_frameSize RX7) s := h.2.2.2.2.2.2.2.2.2.2.2.2.2.2.2.2.2.2.2.1
theorem NW.mX6_96 {s : State} (h : NW s) : va_Nw (.methodLinkNest RX6 96 yX7_frameSize RX7) s := h.2.2.2.2.2.2.2.2.2.2.2.2.2.2.2.2.2.2.2.2
/-- the kind of int[][]: its rows are of the kind of int[] -/
def GA (cI cG : ClassId) (U : State) : Prop := ∃ kA : Class, U.vm.classes[cG]? = some kA ∧ kA.kind = .array cI (.array .int)
theorem GA.moved {cI cG : ClassId} {s U : State} (hvm : s.vm.Alike U.vm) (h : GA cI cG s) : GA cI cG U := by
  obtain ⟨kA, h1, h2⟩ := h
  obtain ⟨k', hk', he⟩ := hvm.2.2 _ _ h1
  exact ⟨k', hk', by rw [he]; exact h2⟩
def EV (D : va_G) (cI cG : ClassId) (U : State) : Prop := va_K D vwCl [(cI, .int), (cG, .array .int)] U ∧ NW U ∧ GA cI cG U
theorem EV.warm {D : va_G} {cI cG : ClassId} {s U : State} (hW : s.WarmedH U.vm) (h : EV D cI cG s) : EV D cI cG U := ⟨va_K.moved hW.alike h.1, h.2.1.warm hW, h.2.2.moved hW.alike⟩
theorem EV.same {D : va_G} {cI cG : ClassId} {s U : State} (e : s.vm = U.vm) (h : EV D cI cG s) : EV D cI cG U := ⟨va_K.moved (by rw [← e]; exact Vm.Alike.refl s.vm) h.1, h.2.1.same e, h.2.2.moved (by rw [← e]; exact Vm.Alike.refl s.vm)⟩
/-- the three tables -/
def tabG : List Int32 := [30, 9, 20, 21, 10, 11, 14, 15, 18, 19, 22, 23, 26, 27, 28, 29]
def tabN : List Int32 := [-1, -1, -1, -1, -1, -1, -1, -1, -1, 1, 4, 5, -1, -1, 6, 7, -1, -1, 8, 9, 2, 3, 10, 11, -1, -1, 12, 13, 14, 15, 0, -1]
def tabL : List Int32 := [0, 1, 0, -1]
def ST (tt : Nat × Nat × Nat) (A : Nat → Prop) (U : State) (H : Heap) : Prop := (va_Z RX7 "GROUP_OF_NIBBLE" "[I" (.ref tt.1) A U H ∧ va_T .int tt.1 16 (fun j => .int (tabG.getD j 0)) A U H) ∧ (va_Z RX7 "NIBBLE_OF_GROUP" "[I" (.ref tt.2.1) A U H ∧ va_T .int tt.2.1 32 (fun j => .int (tabN.getD j 0)) A U H) ∧ (va_Z RX7 "LEVELS" "[I" (.ref tt.2.2) A U H ∧ va_T .int tt.2.2 4 (fun j => .int (tabL.getD j 0)) A U H)
theorem ST.moved {tt : Nat × Nat × Nat} {A : Nat → Prop} {u U : State} {H : Heap} (hvm : u.vm.Alike U.vm) (h : ST tt A u H) : ST tt A U H := ⟨⟨h.1.1.moved hvm, h.1.2.moved hvm⟩, ⟨h.2.1.1.moved hvm, h.2.1.2.moved hvm⟩, ⟨h.2.2.1.moved hvm, h.2.2.2.moved hvm⟩⟩
theorem ST.kept {tt : Nat × Nat × Nat} {A : Nat → Prop} {U : State} {H H1 : Heap} (h : ST tt A U H) (hq : ∀ a : Nat, a < H.size → ¬ A a → H1[a]? = H[a]?) : ST tt A U H1 := ⟨⟨h.1.1.kept hq, h.1.2.kept hq⟩, ⟨h.2.1.1.kept hq, h.2.1.2.kept hq⟩, ⟨h.2.2.1.kept hq, h.2.2.2.kept hq⟩⟩
theorem ST.narrow {tt : Nat × Nat × Nat} {A B : Nat → Prop} {U : State} {H : Heap} (h : ST tt A U H) (hAB : ∀ q, B q → A q) : ST tt B U H := ⟨⟨h.1.1.narrow hAB, h.1.2.narrow hAB⟩, ⟨h.2.1.1.narrow hAB, h.2.1.2.narrow hAB⟩, ⟨h.2.2.1.narrow hAB, h.2.2.2.narrow hAB⟩⟩
/-- a contract's start: its arguments, its world, the tables -/
def PC (D : va_G) (cI cG : ClassId) (tt : Nat × Nat × Nat) (av : List Value) (w : va_W) (sz : Nat) : Array Value → State → Prop := va_Pc av (fun U => U.heap.size = sz ∧ va_P D vwCl w U.heap ∧ va_D (fun _ => True) w ∧ EV D cI cG U ∧ ST tt (va_A w sz) U U.heap)
/-- its end -/
abbrev QI {S : Type} (post : Int32 → S → Prop) (wo : S → va_W) (D : va_G) : (Nat → Prop) → Array Value → State → Outcome → State → Prop := fun A => va_Qi post (fun u t => va_P D vwCl (wo u) t.heap ∧ va_D A (wo u)) A
abbrev QV {S : Type} (post : S → Prop) (wo : S → va_W) (D : va_G) : (Nat → Prop) → Array Value → State → Outcome → State → Prop := fun A => va_Qv post (fun u t => va_P D vwCl (wo u) t.heap ∧ va_D A (wo u)) A
abbrev QR {S : Type} (post : Nat → S → Prop) (wo : S → va_W) (D : va_G) : (Nat → Prop) → Array Value → State → Outcome → State → Prop := fun A => va_Qr (fun _ : S => True) (fun u a t => post a u ∧ va_P D vwCl (wo u) t.heap ∧ va_D A (wo u)) A
theorem PC.blind {D : va_G} {cI cG : ClassId} {tt : Nat × Nat × Nat} {av : List Value} {w : va_W} {sz : Nat} : FrameBlind (PC D cI cG tt av w sz) := by
  intro a U g mk h
  obtain ⟨h0, h1, h2, h3, h4, h5⟩ := h
  exact ⟨h0, h1, h2, h3, EV.same (s := U) rfl h4, ST.moved (u := U) (Vm.Alike.refl U.vm) h5⟩
theorem fm_of_map {α β : Type} {f : α → Option β} {l : List α} {w : List β} (h : l.map f = w.map some) : l.filterMap f = w := by
  have e : l.filterMap f = (l.map f).filterMap id := by rw [List.filterMap_map]; rfl
  rw [e, h, List.filterMap_map]
  induction w with
  | nil => rfl
  | cons a w ih => simp
theorem PC.mk {D : va_G} {cI cG : ClassId} {tt : Nat × Nat × Nat} {av : List Value} {ws wc : va_W} {A : Nat → Prop} {s : State} {H : Heap} {locs : List Loc} (hP : va_P D vwCl ws H) (hD : va_D A ws) (hE : EV D cI cG s) (hT : ST tt A s s.heap) (hS : va_S A s.heap H locs) (hA : ∀ q, s.heap.size ≤ q → A q) (isC : List Nat) (hC : isC.map (fun i => ws[i]?) = wc.map some) (hn : va_nd isC = true) : ∀ U : State, U.heap = H → s.WarmedH U.vm → PC D cI cG tt av wc H.size av.toArray U := by
  intro U hU hW
  have hF := va_free hD hS hA isC hC
  refine ⟨rfl, by rw [hU], by rw [hU]; exact hP.sub isC (fm_of_map hC), (hD.sub isC hn hC).weaken (fun _ _ _ _ => trivial), hE.warm hW, ?_⟩
  rw [hU]
  exact ((hT.kept hS.2.1).narrow hF).moved hW.alike
theorem ct_of {l : Launch} {y : MethodName} {wd wd' : List Cond} {rm : Room} {D : va_G} {cI cG : ClassId} {tt : Nat × Nat × Nat} {av : List Value} {w : va_W} {sz mc ms : Nat} {cc : ByteArray} {maxL : Nat} {ret : Option FieldType} {Qf : (Nat → Prop) → Array Value → State → Outcome → State → Prop}
    (hy : plainName y.cls = true) (hw : wd = Cond.code y cc maxL ret :: wd')
    (body : ∀ (p : Program) (e : Env) (s : State) (m : MethodId) (args : Array Value) (below : List Frame) (meth : Method) (c : Code) (A : Nat → Prop) (Q : State → Prop) (R : Room) (H : Heap) (locs : List Loc), R = rm → Q = MQ below (Qf A) args s mc ms A → p.tables.exec = Jvm.exec → c.code = cc → c.maxLocals = maxL → meth.sig.returnType = ret → (∀ w ∈ wd, w.before args s = true) → s.vm.findClass y.cls = some m.cls → meth.locks = false → meth.name = y.name → va_P D vwCl w H → va_D A w → EV D cI cG s → ST tt A s s.heap → (∀ q, s.heap.size ≤ q → A q) → va_S A s.heap H locs → W p l e R s m args below meth c H locs 0 0 Q (entryFrame m av.toArray maxL)) : Met l y wd rm (PC D cI cG tt av w sz) (Qf (va_A w sz)) mc ms (va_A w sz) := by
  refine Met.ofW (cc := cc) (maxL := maxL) (ret := ret) hy hw ?_
  intro p e s m args below meth c s₁ B hml hv
  obtain ⟨rfl, hsz, hP, hD0, hE, hT⟩ := hv
  subst hsz
  exact body p e s m _ below meth c _ _ _ _ _ rfl rfl B.exec B.bytes hml B.returns (atoms_spec (ws := wd) B.pre) (findClass_of_methodNamed B.named) B.notSynchronized (name_of_methodNamed B.named B.method).1 hP hD0.self hE hT (fun q h => Or.inr h) va_S.rf
theorem ct_ofF {l : Launch} {y : MethodName} {wd wd' : List Cond} {rm : Room} {D : va_G} {cI cG : ClassId} {tt : Nat × Nat × Nat} {av : List Value} {w : va_W} {sz mc ms : Nat} {cc : ByteArray} {maxL : Nat} {ret : Option FieldType} {Qf : (Nat → Prop) → Array Value → State → Outcome → State → Prop}
    (hy : plainFor y = true) (hw : wd = Cond.code y cc maxL ret :: wd')
    (body : ∀ (p : Program) (e : Env) (s : State) (m : MethodId) (args : Array Value) (below : List Frame) (meth : Method) (c : Code) (A : Nat → Prop) (Q : State → Prop) (R : Room) (H : Heap) (locs : List Loc), R = rm → Q = MQ below (Qf A) args s mc ms A → p.tables.exec = Jvm.exec → c.code = cc → c.maxLocals = maxL → meth.sig.returnType = ret → (∀ w ∈ wd, w.before args s = true) → s.vm.findClass y.cls = some m.cls → meth.locks = false → meth.name = y.name → va_P D vwCl w H → va_D A w → EV D cI cG s → ST tt A s s.heap → (∀ q, s.heap.size ≤ q → A q) → va_S A s.heap H locs → W p l e R s m args below meth c H locs 0 0 Q (entryFrame m av.toArray maxL)) : Met l y wd rm (PC D cI cG tt av w sz) (Qf (va_A w sz)) mc ms (va_A w sz) := by
  refine va_MetF (cc := cc) (maxL := maxL) (ret := ret) hy hw ?_
  intro p e s m args below meth c s₁ B hml hv
  obtain ⟨rfl, hsz, hP, hD0, hE, hT⟩ := hv
  subst hsz
  exact body p e s m _ below meth c _ _ _ _ _ rfl rfl B.exec B.bytes hml B.returns (atoms_spec (ws := wd) B.pre) (findClass_of_methodNamed B.named) B.notSynchronized (name_of_methodNamed B.named B.method).1 hP hD0.self hE hT (fun q h => Or.inr h) va_S.rf
section BS
variable {p : Program} {l : Launch} {e : Env} {R : Room} {s : State} {m : MethodId} {args : Array Value} {below : List Frame} {meth : Method} {c : Code} {H : Heap} {locs : List Loc} {cells slots : Nat} {Q : State → Prop}
variable {cc : ByteArray} {pc : Nat} {ls : Array Slot} {rest st0 : List Value} {D : va_G} {A : Nat → Prop} {ws wc wr : va_W} {H0 : Heap} {a : Array Value} {mc ms : Nat} {cI cG : ClassId} {tt : Nat × Nat × Nat}
/-- the number on top, as another term -/
theorem lv_to {x y : Int32} (h : x = y) (k : W p l e R s m args below meth c H locs cells slots Q (F0 m pc ls (.int y :: rest))) : W p l e R s m args below meth c H locs cells slots Q (F0 m pc ls (.int x :: rest)) := by subst h; exact k
/-- the program counter, as a number -/
theorem lv_pc {q : Nat} (h : pc = q) (k : W p l e R s m args below meth c H locs cells slots Q (F0 m q ls rest)) : W p l e R s m args below meth c H locs cells slots Q (F0 m pc ls rest) := by subst h; exact k
theorem W_q {Q Q' : State → Prop} {g : JFrame} (h : Q = Q') (k : W p l e R s m args below meth c H locs cells slots Q' g) : W p l e R s m args below meth c H locs cells slots Q g := by subst h; exact k
theorem rt_i {S : Type} {post : Int32 → S → Prop} {wo : S → va_W} {v : Int32} (u : S) (hx : p.tables.exec = Jvm.exec) (hb : c.code = cc) (hr : meth.sig.returnType = some .int) (hlocks : meth.locks = false) (hdg : decode cc pc = .ok (.ireturn, 1)) (hS : va_S A s.heap H locs) (hP : va_P D vwCl (wo u) H) (hD : va_D A (wo u)) (hp : post v u) : W p l e R s m args below meth c H locs cells slots (MQ below (QI post wo D A) args s cells slots A) (F0 m pc ls [.int v]) :=
  W.iret hx hb hr (fun t ht _ => ⟨⟨v, u, rfl, hp, by rw [ht]; exact hP, hD⟩, hS.F ht⟩) hS.2.2 hdg hlocks
theorem rt_z {S : Type} {post : Int32 → S → Prop} {wo : S → va_W} {v : Int32} (u : S) (hx : p.tables.exec = Jvm.exec) (hb : c.code = cc) (hr : meth.sig.returnType = some .boolean) (hlocks : meth.locks = false) (hdg : decode cc pc = .ok (.ireturn, 1)) (hS : va_S A s.heap H locs) (hP : va_P D vwCl (wo u) H) (hD : va_D A (wo u)) (hp : post v u) (hn : narrow .boolean (.int v) = .int v) : W p l e R s m args below meth c H locs cells slots (MQ below (QI post wo D A) args s cells slots A) (F0 m pc ls [.int v]) :=
  W.zret hx hb hr hn (fun t ht _ => ⟨⟨v, u, rfl, hp, by rw [ht]; exact hP, hD⟩, hS.F ht⟩) hS.2.2 hdg hlocks
theorem rt_v {S : Type} {post : S → Prop} {wo : S → va_W} (u : S) (hx : p.tables.exec = Jvm.exec) (hb : c.code = cc) (hr : meth.sig.returnType = none) (hlocks : meth.locks = false) (hdg : decode cc pc = .ok (.return_, 1)) (hS : va_S A s.heap H locs) (hP : va_P D vwCl (wo u) H) (hD : va_D A (wo u)) (hp : post u) : W p l e R s m args below meth c H locs cells slots (MQ below (QV post wo D A) args s cells slots A) (F0 m pc ls []) :=
  W.vret hx hb hr (fun t ht _ => ⟨⟨u, rfl, hp, by rw [ht]; exact hP, hD⟩, hS.F ht⟩) hS.2.2 hdg hlocks
theorem rt_r {S : Type} {post : Nat → S → Prop} {wo : S → va_W} {v : Nat} (u : S) {rt : FieldType} (hx : p.tables.exec = Jvm.exec) (hb : c.code = cc) (hr : meth.sig.returnType = some rt) (hrt : (∃ n, rt = .object n) ∨ ∃ t, rt = .array t) (hlocks : meth.locks = false) (hdg : decode cc pc = .ok (.areturn, 1)) (hS : va_S A s.heap H locs) (hP : va_P D vwCl (wo u) H) (hD : va_D A (wo u)) (hp : post v u) : W p l e R s m args below meth c H locs cells slots (MQ below (QR post wo D A) args s cells slots A) (F0 m pc ls [.ref v]) :=
  W.aret hx hb hr hrt (Or.inr ⟨v, rfl⟩) (fun t ht _ => ⟨⟨u, v, rfl, trivial, hp, by rw [ht]; exact hP, hD⟩, hS.F ht⟩) hS.2.2 hdg hlocks
theorem ca_i {S : Type} {post : Int32 → S → Prop} {wo : S → va_W} (hr : va_Run p l e R s m args below meth c H locs cells slots mc ms (F0 m pc ls st0) rest (QI post wo D (va_A wc H.size) a) (va_A wc H.size)) (hP : va_P D vwCl ws H) (hD : va_D A ws) (hS : va_S A H0 H locs) (hA : ∀ q, H0.size ≤ q → A q) (isC isR : List Nat) (hC : isC.map (fun i => ws[i]?) = wc.map some) (hR : isR.map (fun i => ws[i]?) = wr.map some) (hn : va_nd isR = true) (hdis : ∀ i ∈ isR, i ∉ isC)
    (kk : ∀ (r : Int32) (u : S) (H1 : Heap) (locs1 : List Loc), post r u → va_P D vwCl (wr ++ wo u) H1 → va_D A (wr ++ wo u) → va_S A H0 H1 locs1 → W p l e R s m args below meth c H1 locs1 (cells + mc) (slots + ms) Q (F0 m (pc + 3) ls (.int r :: rest))) : W p l e R s m args below meth c H locs cells slots Q (F0 m pc ls st0) := by
  have hF := va_free hD hS hA isC hC
  refine va_calli hr hS (fun q _ h => hF q h) hF (fun r u t H1 locs1 ht _ hw hB _ hk hS1 => ?_)
  obtain ⟨hP1, hD1⟩ := hB
  rw [ht] at hP1
  obtain ⟨hP2, hD2⟩ := va_join hP hD isC isR hC hR hn hdis hk hF hP1 hD1
  exact kk r u H1 locs1 hw hP2 hD2 hS1
theorem ca_v {S : Type} {post : S → Prop} {wo : S → va_W} (hr : va_Run p l e R s m args below meth c H locs cells slots mc ms (F0 m pc ls st0) rest (QV post wo D (va_A wc H.size) a) (va_A wc H.size)) (hP : va_P D vwCl ws H) (hD : va_D A ws) (hS : va_S A H0 H locs) (hA : ∀ q, H0.size ≤ q → A q) (isC isR : List Nat) (hC : isC.map (fun i => ws[i]?) = wc.map some) (hR : isR.map (fun i => ws[i]?) = wr.map some) (hn : va_nd isR = true) (hdis : ∀ i ∈ isR, i ∉ isC)
    (kk : ∀ (u : S) (H1 : Heap) (locs1 : List Loc), post u → va_P D vwCl (wr ++ wo u) H1 → va_D A (wr ++ wo u) → va_S A H0 H1 locs1 → W p l e R s m args below meth c H1 locs1 (cells + mc) (slots + ms) Q (F0 m (pc + 3) ls rest)) : W p l e R s m args below meth c H locs cells slots Q (F0 m pc ls st0) := by
  have hF := va_free hD hS hA isC hC
  refine va_callv hr hS (fun q _ h => hF q h) hF (fun u t H1 locs1 ht _ hw hB _ hk hS1 => ?_)
  obtain ⟨hP1, hD1⟩ := hB
  rw [ht] at hP1
  obtain ⟨hP2, hD2⟩ := va_join hP hD isC isR hC hR hn hdis hk hF hP1 hD1
  exact kk u H1 locs1 hw hP2 hD2 hS1
theorem ca_r {S : Type} {post : Nat → S → Prop} {wo : S → va_W} (hr : va_Run p l e R s m args below meth c H locs cells slots mc ms (F0 m pc ls st0) rest (QR post wo D (va_A wc H.size) a) (va_A wc H.size)) (hP : va_P D vwCl ws H) (hD : va_D A ws) (hS : va_S A H0 H locs) (hA : ∀ q, H0.size ≤ q → A q) (isC isR : List Nat) (hC : isC.map (fun i => ws[i]?) = wc.map some) (hR : isR.map (fun i => ws[i]?) = wr.map some) (hn : va_nd isR = true) (hdis : ∀ i ∈ isR, i ∉ isC)
    (kk : ∀ (b : Nat) (u : S) (H1 : Heap) (locs1 : List Loc), post b u → va_P D vwCl (wr ++ wo u) H1 → va_D A (wr ++ wo u) → va_S A H0 H1 locs1 → W p l e R s m args below meth c H1 locs1 (cells + mc) (slots + ms) Q (F0 m (pc + 3) ls (.ref b :: rest))) : W p l e R s m args below meth c H locs cells slots Q (F0 m pc ls st0) := by
  have hF := va_free hD hS hA isC hC
  refine va_callr hr hS (fun q _ h => hF q h) hF (fun u b t H1 locs1 ht _ _ hB _ hk hS1 => ?_)
  obtain ⟨hw, hP1, hD1⟩ := hB
  rw [ht] at hP1
  obtain ⟨hP2, hD2⟩ := va_join hP hD isC isR hC hR hn hdis hk hF hP1 hD1
  exact kk b u H1 locs1 hw hP2 hD2 hS1
variable {y : MethodName} {bytes : ByteArray} {maxL nL n index : Nat} {ret : Option FieldType} {wd : List Cond} {rm : Room} {Ts : List Cond} {own C host : String} {b : Addr} {As : List Value} {Qf : (Nat → Prop) → Array Value → State → Outcome → State → Prop}
theorem ru_V (S0 : CallFix p m c cc nL s args Ts own) (hM : Met l y wd rm (PC D cI cG tt (.ref b :: As) wc H.size) (Qf (va_A wc H.size)) mc ms (va_A wc H.size)) (cw : CallW R s args own C index y bytes maxL ret wd rm mc ms n) (hP : va_P D vwCl ws H) (hD : va_D A ws) (hE : EV D cI cG s) (hT : ST tt A s s.heap) (hS : va_S A s.heap H locs) (hA : ∀ q, s.heap.size ≤ q → A q) (isC : List Nat) (hC : isC.map (fun i => ws[i]?) = wc.map some) (hnd : va_nd isC = true) (hrecv : ∃ cell : Cell, H[b]? = some cell ∧ cell.vm.isStatics = false ∧ s.vm.findClass C = some cell.cls) (hlen : As.length = n) (hsize : ls.size = nL) (hstack : st0 = As.reverse ++ .ref b :: rest) (hW : (rest.map fun v => v.category).sum ≤ 8) (hdg : decode cc pc = .ok (.invokevirtual index, 3)) (hf : cells + mc ≤ R.cells ∧ slots + ms ≤ R.slots) : va_Run p l e R s m args below meth c H locs cells slots mc ms (F0 m pc ls st0) rest (Qf (va_A wc H.size) (Value.ref b :: As).toArray) (va_A wc H.size) :=
  va_runV S0 hM cw ⟨PC.blind, hrecv, PC.mk hP hD hE hT hS hA isC hC hnd⟩ rfl hlen hsize hstack (by show 2 * 0 + _ ≤ 8; omega) hdg hf
theorem ru_S (S0 : CallFix p m c cc nL s args Ts own) (hM : Met l y wd rm (PC D cI cG tt As wc H.size) (Qf (va_A wc H.size)) mc ms (va_A wc H.size)) (cw : CallB R s args own index y bytes maxL ret wd rm mc ms n ∧ (Cond.static y).before args s = true) (hP : va_P D vwCl ws H) (hD : va_D A ws) (hE : EV D cI cG s) (hT : ST tt A s s.heap) (hS : va_S A s.heap H locs) (hA : ∀ q, s.heap.size ≤ q → A q) (isC : List Nat) (hC : isC.map (fun i => ws[i]?) = wc.map some) (hnd : va_nd isC = true) (hlen : As.length = n) (hsize : ls.size = nL) (hstack : st0 = As.reverse ++ rest) (hW : (rest.map fun v => v.category).sum ≤ 8) (hdg : decode cc pc = .ok (.invokestatic index, 3)) (hf : cells + mc ≤ R.cells ∧ slots + ms ≤ R.slots) : va_Run p l e R s m args below meth c H locs cells slots mc ms (F0 m pc ls st0) rest (Qf (va_A wc H.size) As.toArray) (va_A wc H.size) :=
  va_runS S0 hM cw ⟨PC.blind, PC.mk hP hD hE hT hS hA isC hC hnd⟩ rfl hlen hsize hstack (by show 2 * 0 + _ ≤ 8; omega) hdg hf
theorem ru_SN (S0 : CallFix p m c cc nL s args Ts own) (hM : Met l y wd rm (PC D cI cG tt As wc H.size) (Qf (va_A wc H.size)) mc ms (va_A wc H.size)) (cw : va_CN R s args own index y host bytes maxL ret wd rm mc ms n ∧ (Cond.static y).before args s = true ∧ True) (hP : va_P D vwCl ws H) (hD : va_D A ws) (hE : EV D cI cG s) (hT : ST tt A s s.heap) (hS : va_S A s.heap H locs) (hA : ∀ q, s.heap.size ≤ q → A q) (isC : List Nat) (hC : isC.map (fun i => ws[i]?) = wc.map some) (hnd : va_nd isC = true) (hlen : As.length = n) (hsize : ls.size = nL) (hstack : st0 = As.reverse ++ rest) (hW : (rest.map fun v => v.category).sum ≤ 8) (hdg : decode cc pc = .ok (.invokestatic index, 3)) (hf : cells + mc ≤ R.cells ∧ slots + ms ≤ R.slots) : va_Run p l e R s m args below meth c H locs cells slots mc ms (F0 m pc ls st0) rest (Qf (va_A wc H.size) As.toArray) (va_A wc H.size) :=
  va_runSN S0 hM cw ⟨PC.blind, PC.mk hP hD hE hT hS hA isC hC hnd⟩ rfl hlen hsize hstack (by show 2 * 0 + _ ≤ 8; omega) hdg hf
theorem ru_I (S0 : CallFix p m c cc nL s args Ts own) (hM : Met l y wd rm (PC D cI cG tt (.ref b :: As) wc H.size) (Qf (va_A wc H.size)) mc ms (va_A wc H.size)) (cw : CallB R s args own index y bytes maxL none wd rm mc ms n ∧ y.name = "<init>" ∧ (Cond.instanceMethod y).before args s = true) (hP : va_P D vwCl ws H) (hD : va_D A ws) (hE : EV D cI cG s) (hT : ST tt A s s.heap) (hS : va_S A s.heap H locs) (hA : ∀ q, s.heap.size ≤ q → A q) (isC : List Nat) (hC : isC.map (fun i => ws[i]?) = wc.map some) (hnd : va_nd isC = true) (hlen : As.length = n) (hsize : ls.size = nL) (hstack : st0 = As.reverse ++ .ref b :: rest) (hW : (rest.map fun v => v.category).sum ≤ 8) (hdg : decode cc pc = .ok (.invokespecial index, 3)) (hf : cells + mc ≤ R.cells ∧ slots + ms ≤ R.slots) : va_Run p l e R s m args below meth c H locs cells slots mc ms (F0 m pc ls st0) rest (Qf (va_A wc H.size) (Value.ref b :: As).toArray) (va_A wc H.size) :=
  va_runI S0 hM cw ⟨PC.blind, PC.mk hP hD hE hT hS hA isC hC hnd⟩ rfl hlen hsize hstack (by show 2 * 0 + _ ≤ 8; omega) hdg hf
theorem ru_IN (S0 : CallFix p m c cc nL s args Ts own) (hM : Met l y wd rm (PC D cI cG tt (.ref b :: As) wc H.size) (Qf (va_A wc H.size)) mc ms (va_A wc H.size)) (cw : va_CN R s args own index y host bytes maxL none wd rm mc ms n ∧ y.name = "<init>" ∧ (Cond.instanceMethod y).before args s = true) (hP : va_P D vwCl ws H) (hD : va_D A ws) (hE : EV D cI cG s) (hT : ST tt A s s.heap) (hS : va_S A s.heap H locs) (hA : ∀ q, s.heap.size ≤ q → A q) (isC : List Nat) (hC : isC.map (fun i => ws[i]?) = wc.map some) (hnd : va_nd isC = true) (hlen : As.length = n) (hsize : ls.size = nL) (hstack : st0 = As.reverse ++ .ref b :: rest) (hW : (rest.map fun v => v.category).sum ≤ 8) (hdg : decode cc pc = .ok (.invokespecial index, 3)) (hf : cells + mc ≤ R.cells ∧ slots + ms ≤ R.slots) : va_Run p l e R s m args below meth c H locs cells slots mc ms (F0 m pc ls st0) rest (Qf (va_A wc H.size) (Value.ref b :: As).toArray) (va_A wc H.size) :=
  va_runIN S0 hM cw ⟨PC.blind, PC.mk hP hD hE hT hS hA isC hC hnd⟩ rfl hlen hsize hstack (by show 2 * 0 + _ ≤ 8; omega) hdg hf
/-- an int of an array, by a number within -/
theorem gl_i {ad i n : Nat} {f : Nat → Int32} (hx : p.tables.exec = Jvm.exec) (hb : c.code = cc) (hK : va_K D vwCl [(cI, .int), (cG, .array .int)] s) (hP : va_P D vwCl ws H) (q0 : Nat) (ha : ws[q0]? = some (ad, .inl (cI, n, .inl f))) (hi : i < n) (hn : n < 2 ^ 31) (hdg : decode cc pc = .ok (.iaload, 1)) (k : W p l e R s m args below meth c H locs cells slots Q (F0 m (pc + 1) ls (.int (f i) :: rest))) : W p l e R s m args below meth c H locs cells slots Q (F0 m pc ls (.int (nI i) :: .ref ad :: rest)) := by
  refine va_iald hx hb hK hP q0 0 ha rfl (vp_in_nI hi hn) hdg ?_
  rw [nI_clamp (by omega)]
  exact k
theorem gs_i {ad i n : Nat} {f : Nat → Int32} {x : Int32} (hx : p.tables.exec = Jvm.exec) (hb : c.code = cc) (hK : va_K D vwCl [(cI, .int), (cG, .array .int)] s) (hP : va_P D vwCl ws H) (hD : va_D A ws) (hS : va_S A H0 H locs) (q0 : Nat) (ha : ws[q0]? = some (ad, .inl (cI, n, .inl f))) (hi : i < n) (hn : n < 2 ^ 31) (hdg : decode cc pc = .ok (.iastore, 1)) (k : ∀ (H1 : Heap) (locs1 : List Loc), va_P D vwCl (ws.set q0 (ad, .inl (cI, n, .inl (upd f i x)))) H1 → va_D A (ws.set q0 (ad, .inl (cI, n, .inl (upd f i x)))) → va_S A H0 H1 locs1 → W p l e R s m args below meth c H1 locs1 cells slots Q (F0 m (pc + 1) ls rest)) : W p l e R s m args below meth c H locs cells slots Q (F0 m pc ls (.int x :: .int (nI i) :: .ref ad :: rest)) := by
  refine va_iast hx hb hK hP hD hS q0 0 ha rfl (vp_in_nI hi hn) hdg ?_
  rw [nI_clamp (by omega)]
  exact k
/-- a row of an array of rows -/
theorem gl_q {ad i n : Nat} {f : Nat → Option Nat} (hx : p.tables.exec = Jvm.exec) (hb : c.code = cc) (hK : va_K D vwCl [(cI, .int), (cG, .array .int)] s) (hP : va_P D vwCl ws H) (q0 : Nat) (ha : ws[q0]? = some (ad, .inl (cG, n, .inr (.inr (.inr (.inr f)))))) (hi : i < n) (hn : n < 2 ^ 31) (hdg : decode cc pc = .ok (.aaload, 1)) (k : W p l e R s m args below meth c H locs cells slots Q (F0 m (pc + 1) ls (va_rf (f i) :: rest))) : W p l e R s m args below meth c H locs cells slots Q (F0 m pc ls (.int (nI i) :: .ref ad :: rest)) := by
  have hc : (nI i).toNatClampNeg = i := nI_clamp (by omega)
  have hin : vp_in (nI i) n := vp_in_nI hi hn
  exact W.aald (v := va_rf (f i)) (ty := .array .int) hx hb (hP q0 _ ha) ((hK.2 1 _ rfl).1 n (fun j => va_rf (f j))) rfl (fun q => by cases q) (by show ¬ (nI i < 0 ∨ (arrV _ _ _).slots.size ≤ _); rw [arrV_size]; exact hin) (by show (arrV _ _ _).slots[_]? = _; rw [hc, arrV_read _ _ hi]) rfl rfl hdg k
theorem lv_tov {x y : Value} (h : x = y) (k : W p l e R s m args below meth c H locs cells slots Q (F0 m pc ls (y :: rest))) : W p l e R s m args below meth c H locs cells slots Q (F0 m pc ls (x :: rest)) := by subst h; exact k
/-- an int of one of the tables -/
theorem gt_i {t i n : Nat} {f : Nat → Int32} (hx : p.tables.exec = Jvm.exec) (hb : c.code = cc) (hT : va_T .int t n (fun j => .int (f j)) A s s.heap) (hS : va_S A s.heap H locs) (hi : i < n) (hn : n < 2 ^ 31) (hdg : decode cc pc = .ok (.iaload, 1)) (k : W p l e R s m args below meth c H locs cells slots Q (F0 m (pc + 1) ls (.int (f i) :: rest))) : W p l e R s m args below meth c H locs cells slots Q (F0 m pc ls (.int (nI i) :: .ref t :: rest)) :=
  va_ti hx hb hT hS (vp_in_nI hi hn) (by rw [nI_clamp (by omega)]) hdg k
/-- a new int[] -/
theorem nw_i {N : Nat} (hx : p.tables.exec = Jvm.exec) (hb : c.code = cc) (harr : (Cond.arrayClass .int).before args s = true) (hK : va_K D vwCl [(cI, .int), (cG, .array .int)] s) (hP : va_P D vwCl ws H) (hD : va_D A ws) (hS : va_S A H0 H locs) (hA : ∀ q, H0.size ≤ q → A q) (hN : N < 2 ^ 31) (hby : N * 4 ≤ 536870912) (hcells : cells + 1 ≤ R.cells) (hslots : slots + N ≤ R.slots) (hdg : decode cc pc = .ok (.newarray .int, 2))
    (k : ∀ (q : Nat) (H1 : Heap), va_P D vwCl (ws ++ [(q, .inl (cI, N, .inl (fun _ => 0)))]) H1 → va_D A (ws ++ [(q, .inl (cI, N, .inl (fun _ => 0)))]) → va_S A H0 H1 locs → W p l e R s m args below meth c H1 locs (cells + 1) (slots + N) Q (F0 m (pc + 2) ls (.ref q :: rest))) : W p l e R s m args below meth c H locs cells slots Q (F0 m pc ls (.int (nI N) :: rest)) := by
  refine va_newa (atype := .int) (ty := .int) (N' := N) (n := nI N) (a0 := (N, .inl (fun _ => 0))) hx hb harr rfl hK hP hD hS hA (fun cA => vp_cell_i cA N (fun _ => 0)) (nI_pos hN) (nI_clamp hN) hby hcells hslots hdg (fun q cA H1 hK1 hP1 hD1 hS1 => ?_)
  have e1 := (hK1.2 0 (cI, .int) rfl).2
  have e2 := (hK1.2 2 (cA, .int) rfl).2
  have e : cA = cI := Option.some.inj (Eq.trans (Eq.symm e2) e1)
  subst e
  exact k q H1 hP1 hD1 hS1
/-- System.arraycopy of ints -/
theorem cp_i {a0 a1 n0 n1 sp dp n index : Nat} {f g : Nat → Int32} {own : String} (hx : p.tables.exec = Jvm.exec) (hb : c.code = cc) (hml : c.maxLocals = ls.size) (hown : s.vm.findClass own = some m.cls) (hlink : (Cond.methodLink own index arraycopyName).before args s = true) (hnat : (Cond.native arraycopyName).before args s = true) (hstat : (Cond.static arraycopyName).before args s = true) (hini : (Cond.initialized "java/lang/System").before args s = true) (hK : va_K D vwCl [(cI, .int), (cG, .array .int)] s) (hP : va_P D vwCl ws H) (hD : va_D A ws) (hS : va_S A H0 H locs) (q0 q1 : Nat) (ha0 : ws[q0]? = some (a0, .inl (cI, n0, .inl f))) (ha1 : ws[q1]? = some (a1, .inl (cI, n1, .inl g))) (h4 : sp + n ≤ n0) (h5 : dp + n ≤ n1) (hn0 : n0 < 2 ^ 31) (hn1 : n1 < 2 ^ 31) (hframes : 1 ≤ R.frames) (hlocals : (rest.map fun v => v.category).sum + (nativeFrameWords "java/lang/System" "arraycopy" 5 + 11) ≤ R.locals) (hdg : decode cc pc = .ok (.invokestatic index, 3))
    (k : ∀ (H1 : Heap) (locs1 : List Loc), va_P D vwCl (ws.set q1 (a1, .inl (cI, n1, .inl (va_cpy f g sp dp n)))) H1 → va_D A (ws.set q1 (a1, .inl (cI, n1, .inl (va_cpy f g sp dp n)))) → va_S A H0 H1 locs1 → W p l e R s m args below meth c H1 locs1 cells slots Q (F0 m (pc + 3) ls rest)) : W p l e R s m args below meth c H locs cells slots Q (F0 m pc ls (.int (nI n) :: .int (nI dp) :: .ref a1 :: .int (nI sp) :: .ref a0 :: rest)) := by
  have c1 : (nI sp).toNatClampNeg = sp := nI_clamp (by omega)
  have c2 : (nI dp).toNatClampNeg = dp := nI_clamp (by omega)
  have c3 : (nI n).toNatClampNeg = n := nI_clamp (by omega)
  refine va_copyi (ty := .int) hx hb hml hown hlink hnat hstat hini hK hP hD hS q0 q1 0 0 ha0 ha1 rfl rfl rfl (nI_pos (by omega)) (nI_pos (by omega)) (nI_pos (by omega)) (by rw [c1, c3]; exact h4) (by rw [c2, c3]; exact h5) (fun _ _ => rfl) hframes hlocals hdg ?_
  rw [c1, c2, c3]
  exact k
end BS
/-- a boolean, as the machine holds it -/
def bI : Bool → Int32
  | true => nI 1
  | false => nI 0
theorem bI_nar (b : Bool) : narrow .boolean (.int (bI b)) = .int (bI b) := by cases b <;> rfl
theorem bI_fit (b : Bool) : fits .boolean (.int (bI b)) = true := by cases b <;> rfl
theorem bI_f {b : Bool} (h : bI b = 0) : b = false := by
  cases b with
  | false => rfl
  | true => exact absurd h (by decide)
theorem bI_t {b : Bool} (h : ¬ bI b = 0) : b = true := by
  cases b with
  | true => rfl
  | false => exact absurd rfl h
