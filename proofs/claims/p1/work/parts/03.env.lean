/-- the String constants of the class: its own, place, text -/
def SK : List (String × Nat × String) := [(RX9, 425, "no such number"), (RX9, 422, "a number is out of range"), (RX9, 397, "too many items"), (RX9, 404, "the change is too great"), (RX9, 137, "no such note"), (RX9, 147, "too many clips"), (RX9, 213, "no such count"), (RX9, 225, "the note is not cut"), (RX9, 236, "too many places"), (RX9, 238, "the place at tick 0 stays"), (RX9, 240, "no place at this tick"), (RX9, 248, "no such place"), (RX9, 300, "the voice has no note that sounds then"), (RX9, 314, "there are no notes"), (RX9, 322, "no such event"), (RX9, 334, "no such number of an event"), (RX9, 339, "no event then or later"), (RX9, 344, "the input is full"), (RX9, 358, "the input is not a text of items"), (RX9, 366, "a call of a pattern that is not lower"), (RX9, 372, "no error position was kept"), (RX9, 378, "no such character"), (RX9, 387, "no change is remembered"), (RX9, 395, "nothing was saved")]
/-- exceptions that are no kind of another -/
def NC : List (String × String) := [("java/lang/IndexOutOfBoundsException", "java/lang/IllegalArgumentException"), ("java/lang/IndexOutOfBoundsException", "java/lang/IllegalStateException"), ("java/lang/IndexOutOfBoundsException", "java/util/NoSuchElementException"), ("java/lang/IndexOutOfBoundsException", "java/lang/ArithmeticException"), ("java/lang/IllegalArgumentException", "java/lang/IndexOutOfBoundsException"), ("java/lang/IllegalArgumentException", "java/lang/IllegalStateException"), ("java/lang/IllegalArgumentException", "java/util/NoSuchElementException"), ("java/lang/IllegalArgumentException", "java/lang/ArithmeticException"), ("java/lang/IllegalStateException", "java/lang/IndexOutOfBoundsException"), ("java/lang/IllegalStateException", "java/lang/IllegalArgumentException"), ("java/lang/IllegalStateException", "java/util/NoSuchElementException"), ("java/lang/IllegalStateException", "java/lang/ArithmeticException"), ("java/util/NoSuchElementException", "java/lang/IndexOutOfBoundsException"), ("java/util/NoSuchElementException", "java/lang/IllegalArgumentException"), ("java/util/NoSuchElementException", "java/lang/IllegalStateException"), ("java/util/NoSuchElementException", "java/lang/ArithmeticException"), ("java/lang/ArithmeticException", "java/lang/IndexOutOfBoundsException"), ("java/lang/ArithmeticException", "java/lang/IllegalArgumentException"), ("java/lang/ArithmeticException", "java/lang/IllegalStateException"), ("java/lang/ArithmeticException", "java/util/NoSuchElementException")]
/-! THE ENVIRONMENT: what the tables say, once for all methods; it moves along the machine's warming -/
abbrev TY (t : Nat → ClassId) : List (ClassId × FieldType) := [(t 0, .int), (t 1, .long), (t 2, .char), (t 3, .object "PatternSequencer$Song"), (t 4, .double)]
abbrev gG : Type := va_G × (Nat → ClassId)
def nwd : Cond → Bool
  | .methodLinkNest .. => true
  | .fieldLinkNest .. => true
  | .castable .. => true
  | .declares .. => true
  | _ => false
theorem nwd_tab {w : Cond} (h : nwd w = true) : w.onTables = true := by cases w <;> first | rfl | cases h
theorem nwd_warm {w : Cond} (h : nwd w = true) {s U : State} (hW : s.WarmedH U.vm) (hz : va_Nw w s) : va_Nw w U := by
  cases w <;> first | exact va_Nw.warmM hW hz | exact va_Nw.warmF hW hz | exact va_Nw.warmC hW hz | exact va_Nw.warmD hW hz | cases h
def EV (g : gG) (U : State) : Prop := (∀ w ∈ lw_tbl, goodWord w = true → ∀ a, w.before a U = true) ∧ (∀ w ∈ lw_tbl, nwd w = true → va_Nw w U) ∧ va_K g.1 vwCl (TY g.2) U ∧ va_AO "PatternSequencer$Song" U ∧ (∀ q ∈ SK, ∃ a : Nat, vk_R q.1 q.2.1 q.2.2 a U) ∧ (∀ q ∈ NC, va_Nc q.1 q.2 U)
theorem EV.warm {g : gG} {s U : State} (hW : s.WarmedH U.vm) (h : EV g s) : EV g U := by
  obtain ⟨h1, h2, h3, h4, h5, h6⟩ := h
  refine ⟨fun w hw hg a => word_at hW (good_of_word hg) (h1 w hw hg #[]), fun w hw hg => nwd_warm hg hW (h2 w hw hg), va_K.moved hW.alike h3, va_AO.moved hW.alike h4, fun q hq => ?_, fun q hq => va_Nc.moved hW.alike (h6 q hq)⟩
  obtain ⟨a, ha⟩ := h5 q hq
  exact ⟨a, vk_R.warm hW ha⟩
theorem EV.call {g : gG} {U : State} {fr : JFrame} {mk : MethodId} {a : Array Value} (h : EV g U) : EV g (U.calling fr mk a) := EV.warm (U := U.calling fr mk a) (State.WarmedH.refl U) h
theorem EV.K {g : gG} {U : State} (h : EV g U) : va_K g.1 vwCl (TY g.2) U := h.2.2.1
theorem EV.tb {g : gG} {U : State} (h : EV g U) (i : Nat) {w : Cond} (hi : tables_1[i]? = some w) (hg : goodWord w = true) {a : Array Value} : w.before a U = true := h.1 w (List.mem_append_right _ (List.mem_of_getElem? hi)) hg a
theorem EV.sl {g : gG} {U : State} (h : EV g U) (i : Nat) {w : Cond} (hi : (k2_sels lw_privs)[i]? = some w) (hg : goodWord w = true) {a : Array Value} : w.before a U = true := h.1 w (List.mem_append_left _ (List.mem_of_getElem? hi)) hg a
theorem EV.nw {g : gG} {U : State} (h : EV g U) (i : Nat) {w : Cond} (hi : tables_1[i]? = some w) (hg : nwd w = true) : va_Nw w U := h.2.1 w (List.mem_append_right _ (List.mem_of_getElem? hi)) hg
theorem EV.ls {g : gG} {U : State} (h : EV g U) {ws : List Cond} (ps : List Nat) (hp : ws = ps.filterMap (fun i => tables_1[i]?)) (hg : ws.all goodWord = true) {a : Array Value} : ∀ w ∈ ws, w.before a U = true := by
  intro w hw
  have hg2 := List.all_eq_true.mp hg w hw
  rw [hp] at hw
  obtain ⟨i, -, hi⟩ := List.mem_filterMap.mp hw
  exact h.tb i hi hg2
/-- words of a throw: the good ones and those that move otherwise -/
theorem EV.th {g : gG} {U : State} (h : EV g U) {ws : List Cond} (h1 : ∀ w ∈ ws.filter goodWord, w ∈ lw_tbl) (h2 : ∀ w ∈ ws.filter (fun w => !goodWord w), w ∈ lw_tbl ∧ nwd w = true) {a : Array Value} : ∀ w ∈ ws, w.before a U = true := by
  intro w hw
  by_cases hg : goodWord w = true
  · exact h.1 w (h1 w (List.mem_filter.mpr ⟨hw, hg⟩)) hg a
  · have hb : (!goodWord w) = true := by
      cases hq : goodWord w
      · rfl
      · exact absurd hq hg
    obtain ⟨m1, m2⟩ := h2 w (List.mem_filter.mpr ⟨hw, hb⟩)
    exact va_Nw.use (nwd_tab m2) (h.2.1 w m1 m2)
def PX (g : gG) (sz : Nat) (ws : va_W) (U : State) : Prop := EV g U ∧ U.heap.size = sz ∧ va_P g.1 vwCl ws U.heap ∧ va_D (fun _ => True) ws
def ZZ (A : Nat → Prop) (U : State) (H : Heap) : Prop := vx_Zq Bundle.tN "UNASSIGNED_STACK" Bundle.steD A U H ∧ vx_Zq Bundle.tN "SUPPRESSED_SENTINEL" Bundle.listD A U H
theorem ZZ.go {A B : Nat → Prop} {s U : State} {H : Heap} (h : ZZ A s s.heap) (hW : s.WarmedH U.vm) (hk : ∀ q : Nat, q < s.heap.size → ¬ A q → H[q]? = s.heap[q]?) (hAB : ∀ q, B q → A q) : ZZ B U H :=
  ⟨((h.1.kept hk).narrow hAB).moved hW.alike, ((h.2.kept hk).narrow hAB).moved hW.alike⟩
theorem ZZ.call {A : Nat → Prop} {U : State} {H : Heap} {fr : JFrame} {mk : MethodId} {a : Array Value} (h : ZZ A U H) : ZZ A (U.calling fr mk a) H :=
  ⟨h.1.moved (u := U) (U := U.calling fr mk a) (Vm.Alike.refl U.vm), h.2.moved (u := U) (U := U.calling fr mk a) (Vm.Alike.refl U.vm)⟩
def PZ (g : gG) (sz : Nat) (ws : va_W) (U : State) : Prop := PX g sz ws U ∧ ZZ (va_A ws sz) U U.heap
theorem PX.blind {g : gG} {sz : Nat} {ws : va_W} {av : List Value} : FrameBlind (va_Pc av (PX g sz ws)) := fun _ _ _ _ q => ⟨q.1, EV.call q.2.1, q.2.2.1, q.2.2.2.1, q.2.2.2.2⟩
theorem PZ.blind {g : gG} {sz : Nat} {ws : va_W} {av : List Value} : FrameBlind (va_Pc av (PZ g sz ws)) := fun _ _ _ _ q => ⟨q.1, ⟨EV.call q.2.1.1, q.2.1.2.1, q.2.1.2.2.1, q.2.1.2.2.2⟩, ZZ.call q.2.2⟩
/-- the world behind a method: its cells, and those that it made (their addresses: u) -/
def BW (g : gG) (ws0 : va_W) (sz : Nat) (w1 : (Nat → Nat) → va_W) (u : Nat → Nat) (t : State) : Prop := va_P g.1 vwCl (w1 u) t.heap ∧ va_D (va_A ws0 sz) (w1 u)
def QI (g : gG) (ws0 : va_W) (sz : Nat) (r : Int32) (w1 : (Nat → Nat) → va_W) : Array Value → State → Outcome → State → Prop := va_Qi (fun x (_ : Nat → Nat) => x = r) (BW g ws0 sz w1) (va_A ws0 sz)
def QL (g : gG) (ws0 : va_W) (sz : Nat) (r : Int64) (w1 : (Nat → Nat) → va_W) : Array Value → State → Outcome → State → Prop := va_Ql (fun x (_ : Nat → Nat) => x = r) (BW g ws0 sz w1) (va_A ws0 sz)
def QD (g : gG) (ws0 : va_W) (sz : Nat) (r : UInt64) (w1 : (Nat → Nat) → va_W) : Array Value → State → Outcome → State → Prop := va_Qd (fun x (_ : Nat → Nat) => x = r) (BW g ws0 sz w1) (va_A ws0 sz)
def QV (g : gG) (ws0 : va_W) (sz : Nat) (w1 : (Nat → Nat) → va_W) : Array Value → State → Outcome → State → Prop := va_Qv (fun (_ : Nat → Nat) => True) (BW g ws0 sz w1) (va_A ws0 sz)
def QR (g : gG) (ws0 : va_W) (sz : Nat) (b : Nat) (w1 : (Nat → Nat) → va_W) : Array Value → State → Outcome → State → Prop := va_Qr (fun (_ : Nat → Nat) => True) (fun u a t => a = b ∧ BW g ws0 sz w1 u t) (va_A ws0 sz)
/-- never returns -/
def NI : Array Value → State → Outcome → State → Prop := va_Qi (S := Unit) (fun _ _ => False) (fun _ _ => True) (fun _ => False)
def ND : Array Value → State → Outcome → State → Prop := va_Qd (S := Unit) (fun _ _ => False) (fun _ _ => True) (fun _ => False)
def NV : Array Value → State → Outcome → State → Prop := va_Qv (S := Unit) (fun _ => False) (fun _ _ => True) (fun _ => False)
/-- throws E -/
def XW (g : gG) (ws0 : va_W) (sz : Nat) (E : String) (w1 : va_W) : String → State → State → Prop := vx_X (S := Unit) (fun _ => True) (fun E' _ t => E' = E ∧ va_P g.1 vwCl w1 t.heap ∧ va_D (va_A ws0 sz) w1) (va_A ws0 sz)
section Bodies9
variable {l : Launch} {g : gG} {y : MethodName} {cc : ByteArray} {maxL : Nat} {ret : Option FieldType} {rm : Room} {mc ms sz : Nat} {av : List Value} {lvs : List (Nat × Value)} {ws : va_W} {Qc : Array Value → State → Outcome → State → Prop} {XC : String → State → State → Prop}
/-- a method's body, that returns -/
theorem ofN (hy : plainName y.cls = true) (hlen : (lg_sl av).length ≤ maxL) (hlv : lv_args 0 av = lvs)
    (body : ∀ (p : Program) (e : Env) (s : State) (m : MethodId) (args : Array Value) (below : List Frame) (meth : Method) (c : Code) (A : Nat → Prop) (ls : Array Slot), A = va_A ws s.heap.size → s.heap.size = sz → p.tables.exec = Jvm.exec → c.code = cc → c.maxLocals = maxL → meth.sig.returnType = ret → meth.locks = false → meth.name = y.name → s.vm.findClass y.cls = some m.cls → EV g s → va_P g.1 vwCl ws s.heap → va_D A ws → (∀ q, s.heap.size ≤ q → A q) → va_S A s.heap s.heap [] → lv_has ls maxL lvs →
      W p l e rm s m args below meth c s.heap [] 0 0 (MQ below Qc args s mc ms (va_A ws sz)) (F0 m 0 ls [])) : Met l y [Cond.code y cc maxL ret] rm (va_Pc av (PX g sz ws)) Qc mc ms (va_A ws sz) := by
  refine Met.ofW (cc := cc) (maxL := maxL) (ret := ret) hy rfl ?_
  intro p e s m args below meth c s₁ B hml hv
  obtain ⟨rfl, hE, hsz, hP, hD0⟩ := hv
  have hl := lv_entry av (n := maxL) hlen
  rw [lg_entry_eq]
  generalize (lg_sl av ++ List.replicate (maxL - (lg_sl av).length) Slot.unset).toArray = ls at hl ⊢
  rw [hlv] at hl
  have hD := hD0.self (sz := s.heap.size)
  exact body p e s m _ below meth c (va_A ws s.heap.size) ls rfl hsz B.exec B.bytes hml B.returns B.notSynchronized (name_of_methodNamed B.named B.method).1 (findClass_of_methodNamed B.named) hE hP hD (fun q h => Or.inr h) va_S.rf hl
/-- a method's body, that throws, or may: its callees do -/
theorem ofX (hy : plainName y.cls = true) (hlen : (lg_sl av).length ≤ maxL) (hlv : lv_args 0 av = lvs)
    (body : ∀ (p : Program) (e : Env) (s : State) (m : MethodId) (args : Array Value) (below : List Frame) (meth : Method) (c : Code) (A : Nat → Prop) (ls : Array Slot), A = va_A ws s.heap.size → s.heap.size = sz → p.tables.exec = Jvm.exec → c.code = cc → c.maxLocals = maxL → meth.sig.returnType = ret → meth.locks = false → meth.name = y.name → s.vm.findClass y.cls = some m.cls → EV g s → va_P g.1 vwCl ws s.heap → va_D A ws → (∀ q, s.heap.size ≤ q → A q) → va_S A s.heap s.heap [] → lv_has ls maxL lvs → (∀ x ∈ c.exceptionTable.toList, False) → ZZ A s s.heap →
      W p l e rm s m args below meth c s.heap [] 0 0 (vx_MQ below Qc XC args s mc ms (va_A ws sz)) (F0 m 0 ls [])) : vx_Met l y [Cond.code y cc maxL ret] rm (va_Pc av (PZ g sz ws)) Qc XC mc ms (va_A ws sz) := by
  refine vx_ofW (cc := cc) (maxL := maxL) (ret := ret) hy rfl ?_
  intro p e s m args below meth c s₁ B hml ht hv
  obtain ⟨rfl, ⟨hE, hsz, hP, hD0⟩, hz⟩ := hv
  have hl := lv_entry av (n := maxL) hlen
  rw [lg_entry_eq]
  generalize (lg_sl av ++ List.replicate (maxL - (lg_sl av).length) Slot.unset).toArray = ls at hl ⊢
  rw [hlv] at hl
  have hD := hD0.self (sz := s.heap.size)
  exact body p e s m _ below meth c (va_A ws s.heap.size) ls rfl hsz B.exec B.bytes hml B.returns B.notSynchronized (name_of_methodNamed B.named B.method).1 (findClass_of_methodNamed B.named) hE hP hD (fun q h => Or.inr h) va_S.rf hl ht (by rw [hsz]; exact hz)
/-- a body with a table of handlers, that returns -/
theorem ofH {hh : List (Nat × Nat × Nat × Nat)} (hy : plainName y.cls = true) (hlen : (lg_sl av).length ≤ maxL) (hlv : lv_args 0 av = lvs)
    (body : ∀ (p : Program) (e : Env) (s : State) (m : MethodId) (args : Array Value) (below : List Frame) (meth : Method) (c : Code) (A : Nat → Prop) (ls : Array Slot), A = va_A ws s.heap.size → s.heap.size = sz → p.tables.exec = Jvm.exec → c.code = cc → c.maxLocals = maxL → meth.sig.returnType = ret → meth.locks = false → meth.name = y.name → s.vm.findClass y.cls = some m.cls → EV g s → va_P g.1 vwCl ws s.heap → va_D A ws → (∀ q, s.heap.size ≤ q → A q) → va_S A s.heap s.heap [] → lv_has ls maxL lvs → c.exceptionTable.toList = tableOf hh → ZZ A s s.heap →
      W p l e rm s m args below meth c s.heap [] 0 0 (MQ below Qc args s mc ms (va_A ws sz)) (F0 m 0 ls [])) : Met l y [Cond.codeWith y cc maxL ret hh] rm (va_Pc av (PZ g sz ws)) Qc mc ms (va_A ws sz) := by
  refine va_MetW (cc := cc) (maxL := maxL) (ret := ret) (hh := hh) hy rfl ?_
  intro p e s m args below meth c s₁ B hml hv
  obtain ⟨rfl, ⟨hE, hsz, hP, hD0⟩, hz⟩ := hv
  have hl := lv_entry av (n := maxL) hlen
  rw [lg_entry_eq]
  generalize (lg_sl av ++ List.replicate (maxL - (lg_sl av).length) Slot.unset).toArray = ls at hl ⊢
  rw [hlv] at hl
  have hD := hD0.self (sz := s.heap.size)
  have htb := vx_table (x := y) B (atoms_spec (ws := [Cond.codeWith y cc maxL ret hh]) B.pre _ List.mem_cons_self)
  exact body p e s m _ below meth c (va_A ws s.heap.size) ls rfl hsz B.exec B.bytes hml B.returns B.notSynchronized (name_of_methodNamed B.named B.method).1 (findClass_of_methodNamed B.named) hE hP hD (fun q h => Or.inr h) va_S.rf hl htb (by rw [hsz]; exact hz)
end Bodies9
