theorem sub_app {W0 X w1 : va_W} {is : List Nat} (h : is.map (fun i => W0[i]?) = w1.map some) : is.map (fun i => (W0 ++ X)[i]?) = w1.map some := by
  rw [← h]
  refine List.map_congr_left (fun i hi => ?_)
  have h1 : W0[i]? ∈ w1.map some := by rw [← h]; exact List.mem_map.mpr ⟨i, hi, rfl⟩
  obtain ⟨z, -, hz⟩ := List.mem_map.mp h1
  have h2 : i < W0.length := (List.getElem?_eq_some_iff.mp hz.symm).1
  rw [List.getElem?_append_left h2]
theorem rm_c : room_1.cells = 600006 := rfl
theorem rm_s : room_1.slots = 7302016 := rfl
theorem i_split {x k k1 : Int32} (e : k1.toInt = k.toInt + 1) (h : k ≤ x) : x = k ∨ k1 ≤ x := by
  have h1 := Int32.le_iff_toInt_le.mp h
  by_cases hq : x.toInt = k.toInt
  · exact Or.inl (Int32.toInt_inj.mp hq)
  · exact Or.inr (Int32.le_iff_toInt_le.mpr (by omega))
def LA (s : State) : Nat → Prop := fun q => s.heap.size ≤ q
def L0 (p : Program) (l : Launch) (s : State) (m : MethodId) (meth : Method) (c : Code) (b N : Nat) (xs : Nat → Int32) (g : gG) : Prop := p.tables.exec = Jvm.exec ∧ c.code = cL_law ∧ meth.sig.returnType = ret ∧ c.maxLocals = 9 ∧ s.vm.findClass RL = some m.cls ∧ va_X b N xs s s.heap ∧ b < s.heap.size ∧ meth.locks = false ∧ EV g s ∧ ZZ (LA s) s s.heap ∧ l.stackTraces = false
theorem L0.hx {p : Program} {l : Launch} {s : State} {m : MethodId} {meth : Method} {c : Code} {b N : Nat} {xs : Nat → Int32} {g : gG} (C : L0 p l s m meth c b N xs g) : p.tables.exec = Jvm.exec := C.1
theorem L0.hb {p : Program} {l : Launch} {s : State} {m : MethodId} {meth : Method} {c : Code} {b N : Nat} {xs : Nat → Int32} {g : gG} (C : L0 p l s m meth c b N xs g) : c.code = cL_law := C.2.1
theorem L0.hr {p : Program} {l : Launch} {s : State} {m : MethodId} {meth : Method} {c : Code} {b N : Nat} {xs : Nat → Int32} {g : gG} (C : L0 p l s m meth c b N xs g) : meth.sig.returnType = ret := C.2.2.1
theorem L0.hml {p : Program} {l : Launch} {s : State} {m : MethodId} {meth : Method} {c : Code} {b N : Nat} {xs : Nat → Int32} {g : gG} (C : L0 p l s m meth c b N xs g) : c.maxLocals = 9 := C.2.2.2.1
theorem L0.hown {p : Program} {l : Launch} {s : State} {m : MethodId} {meth : Method} {c : Code} {b N : Nat} {xs : Nat → Int32} {g : gG} (C : L0 p l s m meth c b N xs g) : s.vm.findClass RL = some m.cls := C.2.2.2.2.1
theorem L0.hX {p : Program} {l : Launch} {s : State} {m : MethodId} {meth : Method} {c : Code} {b N : Nat} {xs : Nat → Int32} {g : gG} (C : L0 p l s m meth c b N xs g) : va_X b N xs s s.heap := C.2.2.2.2.2.1
theorem L0.hbl {p : Program} {l : Launch} {s : State} {m : MethodId} {meth : Method} {c : Code} {b N : Nat} {xs : Nat → Int32} {g : gG} (C : L0 p l s m meth c b N xs g) : b < s.heap.size := C.2.2.2.2.2.2.1
theorem L0.hlocks {p : Program} {l : Launch} {s : State} {m : MethodId} {meth : Method} {c : Code} {b N : Nat} {xs : Nat → Int32} {g : gG} (C : L0 p l s m meth c b N xs g) : meth.locks = false := C.2.2.2.2.2.2.2.1
theorem L0.hE {p : Program} {l : Launch} {s : State} {m : MethodId} {meth : Method} {c : Code} {b N : Nat} {xs : Nat → Int32} {g : gG} (C : L0 p l s m meth c b N xs g) : EV g s := C.2.2.2.2.2.2.2.2.1
theorem L0.hz {p : Program} {l : Launch} {s : State} {m : MethodId} {meth : Method} {c : Code} {b N : Nat} {xs : Nat → Int32} {g : gG} (C : L0 p l s m meth c b N xs g) : ZZ (LA s) s s.heap := C.2.2.2.2.2.2.2.2.2.1
theorem L0.hlx {p : Program} {l : Launch} {s : State} {m : MethodId} {meth : Method} {c : Code} {b N : Nat} {xs : Nat → Int32} {g : gG} (C : L0 p l s m meth c b N xs g) : l.stackTraces = false := C.2.2.2.2.2.2.2.2.2.2

def WL (g : gG) (qx : Nat) (u : Nat → Nat) (qm : Nat) (v : Nat → Nat) (qo qd : Nat) : va_W := [(qx, .inr (11, [.ref (u 0), .ref (u 92), .ref (u 101), .ref (u 109), .ref (u 113), .ref (u 115), .ref (u 117), .int 0, .int 0, .int 0, .int (-1)])), ((u 0), .inr (10, [.ref (u 1), .int 0, .int 0])), ((u 1), .inl (g.2 3, 10, .inr (.inr (.inr (.inr (va_up (va_up (va_up (va_up (va_up (va_up (va_up (va_up (va_up (va_up (fun _ => none) 0 (some (u 2))) 1 (some (u 11))) 2 (some (u 20))) 3 (some (u 29))) 4 (some (u 38))) 5 (some (u 47))) 6 (some (u 56))) 7 (some (u 65))) 8 (some (u 74))) 9 (some (u 83)))))))), ((u 4), .inl (g.2 0, 384, .inl (fun _ => 0))), ((u 9), .inl (g.2 0, 60, .inl (fun _ => 0))), ((u 5), .inl (g.2 0, 40, .inl (upd (upd (upd (upd (upd (upd (upd (upd (fillF 40 0 (fun _ => 0)) 4 1) 9 1) 14 1) 19 1) 24 1) 29 1) 34 1) 39 1))), ((u 3), .inr (5, [.ref (u 4), .ref (u 5)])), ((u 8), .inl (g.2 0, 10, .inl (upd (fun _ => 0) 0 100))), ((u 7), .inl (g.2 0, 10, .inl (fun _ => 0))), ((u 6), .inr (9, [.ref (u 7), .ref (u 8), .int 1, .int 0])), ((u 2), .inr (8, [.ref (u 3), .ref (u 6), .ref (u 9), .ref (u 10), .int 0, .int 4, .int 0])), ((u 10), .inl (g.2 0, 20, .inl (upd (upd (upd (upd (upd (upd (upd (upd (fun _ => 0) 2 100) 4 5) 7 100) 9 5) 12 100) 14 5) 17 100) 19 5))), ((u 13), .inl (g.2 0, 384, .inl (fun _ => 0))), ((u 18), .inl (g.2 0, 60, .inl (fun _ => 0))), ((u 14), .inl (g.2 0, 40, .inl (upd (upd (upd (upd (upd (upd (upd (upd (fillF 40 0 (fun _ => 0)) 4 1) 9 1) 14 1) 19 1) 24 1) 29 1) 34 1) 39 1))), ((u 12), .inr (5, [.ref (u 13), .ref (u 14)])), ((u 17), .inl (g.2 0, 10, .inl (upd (fun _ => 0) 0 100))), ((u 16), .inl (g.2 0, 10, .inl (fun _ => 0))), ((u 15), .inr (9, [.ref (u 16), .ref (u 17), .int 1, .int 0])), ((u 11), .inr (8, [.ref (u 12), .ref (u 15), .ref (u 18), .ref (u 19), .int 0, .int 4, .int 0])), ((u 19), .inl (g.2 0, 20, .inl (upd (upd (upd (upd (upd (upd (upd (upd (fun _ => 0) 2 100) 4 5) 7 100) 9 5) 12 100) 14 5) 17 100) 19 5))), ((u 94), .inl (g.2 0, 384, .inl (fun _ => 0))), ((u 99), .inl (g.2 0, 60, .inl (fun _ => 0))), ((u 95), .inl (g.2 0, 40, .inl (upd (upd (upd (upd (upd (upd (upd (upd (fillF 40 0 (fun _ => 0)) 4 1) 9 1) 14 1) 19 1) 24 1) 29 1) 34 1) 39 1))), ((u 93), .inr (5, [.ref (u 94), .ref (u 95)])), ((u 98), .inl (g.2 0, 10, .inl (upd (fun _ => 0) 0 100))), ((u 97), .inl (g.2 0, 10, .inl (fun _ => 0))), ((u 96), .inr (9, [.ref (u 97), .ref (u 98), .int 1, .int 0])), ((u 92), .inr (8, [.ref (u 93), .ref (u 96), .ref (u 99), .ref (u 100), .int 0, .int 4, .int 0])), ((u 100), .inl (g.2 0, 20, .inl (upd (upd (upd (upd (upd (upd (upd (upd (fun _ => 0) 2 100) 4 5) 7 100) 9 5) 12 100) 14 5) 17 100) 19 5))), ((u 101), .inr (7, [.ref (u 102), .ref (u 103), .ref (u 104), .ref (u 105), .ref (u 106), .ref (u 107), .int 0, .int 0, .int 0, .int 0])), ((u 102), .inl (g.2 0, 2700, .inl (fun _ => 0))), ((u 103), .inl (g.2 0, 300, .inl (fun _ => 0))), ((u 104), .inl (g.2 0, 300, .inl (fun _ => 0))), ((u 105), .inl (g.2 0, 8, .inl (fun _ => 0))), ((u 106), .inl (g.2 1, 300, .inr (.inl (fun _ => 0)))), ((u 107), .inr (3, [.ref (u 108)])), ((u 108), .inl (g.2 1, 300, .inr (.inl (fun _ => 0)))), ((u 109), .inr (2, [.ref (u 110), .ref (u 111), .int 0])), ((u 110), .inl (g.2 1, 600, .inr (.inl (fun _ => 0)))), ((u 111), .inr (3, [.ref (u 112)])), ((u 112), .inl (g.2 1, 600, .inr (.inl (fun _ => 0)))), ((u 113), .inr (4, [.ref (u 114), .int 0])), ((u 114), .inl (g.2 2, 60, .inl (fun _ => 0))), ((u 115), .inr (4, [.ref (u 116), .int 0])), ((u 116), .inl (g.2 2, 128, .inl (fun _ => 0))), ((u 117), .inr (6, [.ref (u 118), .int 0, .int 0])), ((u 118), .inl (g.2 0, 84, .inl (fun _ => 0))), ((v 1), .inl (g.2 0, 497, .inl (fun _ => 0))), ((v 2), .inl (g.2 0, 497, .inl (fun _ => 0))), ((v 3), .inl (g.2 0, 3976, .inl (fun _ => 0))), ((v 4), .inl (g.2 0, 8, .inl (fun _ => 0))), ((v 5), .inl (g.2 0, 8, .inl (fun _ => 0))), ((v 6), .inl (g.2 0, 8, .inl (fun _ => 0))), ((v 7), .inl (g.2 0, 8, .inl (fun _ => 0))), ((v 8), .inl (g.2 0, 300, .inl (fun _ => 0))), ((v 9), .inl (g.2 0, 300, .inl (fun _ => 0))), ((v 10), .inl (g.2 0, 300, .inl (fun _ => 0))), ((v 11), .inl (g.2 0, 300, .inl (fun _ => 0))), ((v 12), .inl (g.2 0, 300, .inl (fun _ => 0))), ((v 13), .inl (g.2 0, 300, .inl (fun _ => 0))), ((v 14), .inl (g.2 0, 300, .inl (fun _ => 0))), ((v 15), .inl (g.2 0, 300, .inl (fun _ => 0))), ((v 16), .inl (g.2 0, 300, .inl (fun _ => 0))), ((v 17), .inl (g.2 0, 300, .inl (fun _ => 0))), ((v 18), .inl (g.2 0, 8, .inl (fun _ => 0))), ((v 19), .inl (g.2 0, 600, .inl (fun _ => 0))), ((v 20), .inl (g.2 0, 60, .inl (fun _ => 0))), ((v 21), .inl (g.2 0, 240, .inl (fun _ => 0))), ((v 22), .inl (g.2 0, 120, .inl (fun _ => 0))), ((v 0), .inl (g.2 0, 497, .inl (upd (upd (upd (upd (upd (upd (upd (upd (upd (upd (upd (fillF 497 0 (fun _ => 0)) 453 1) 455 100) 476 100) 478 5) 481 100) 483 5) 486 100) 488 5) 491 100) 493 5) 495 4))), (qm, .inr (12, [.ref (v 0), .ref (v 1), .ref (v 2), .int 0, .ref (v 3), .int 0, .int 0, .ref (v 4), .ref (v 5), .ref (v 6), .ref (v 7), .int 0, .int 0, .int 0, .int 0, .ref (v 8), .ref (v 9), .ref (v 10), .ref (v 11), .ref (v 12), .ref (v 13), .ref (v 14), .ref (v 15), .ref (v 16), .ref (v 17), .ref (v 18), .int 0, .ref (v 19), .int 0, .ref (v 20), .int 0, .int 0, .int (-1), .int 0, .ref (v 21), .int 0, .ref (v 22)])), (qo, .inl (g.2 1, 1, .inr (.inl (fun _ => 0)))), (qd, .inl (g.2 4, 1, .inr (.inr (.inr (.inl (fun _ => 0))))))]
def WM (g : gG) (qm : Nat) (v : Nat → Nat) : va_W := [((v 1), .inl (g.2 0, 497, .inl (fun _ => 0))), ((v 2), .inl (g.2 0, 497, .inl (fun _ => 0))), ((v 3), .inl (g.2 0, 3976, .inl (fun _ => 0))), ((v 4), .inl (g.2 0, 8, .inl (fun _ => 0))), ((v 5), .inl (g.2 0, 8, .inl (fun _ => 0))), ((v 6), .inl (g.2 0, 8, .inl (fun _ => 0))), ((v 7), .inl (g.2 0, 8, .inl (fun _ => 0))), ((v 8), .inl (g.2 0, 300, .inl (fun _ => 0))), ((v 9), .inl (g.2 0, 300, .inl (fun _ => 0))), ((v 10), .inl (g.2 0, 300, .inl (fun _ => 0))), ((v 11), .inl (g.2 0, 300, .inl (fun _ => 0))), ((v 12), .inl (g.2 0, 300, .inl (fun _ => 0))), ((v 13), .inl (g.2 0, 300, .inl (fun _ => 0))), ((v 14), .inl (g.2 0, 300, .inl (fun _ => 0))), ((v 15), .inl (g.2 0, 300, .inl (fun _ => 0))), ((v 16), .inl (g.2 0, 300, .inl (fun _ => 0))), ((v 17), .inl (g.2 0, 300, .inl (fun _ => 0))), ((v 18), .inl (g.2 0, 8, .inl (fun _ => 0))), ((v 19), .inl (g.2 0, 600, .inl (fun _ => 0))), ((v 20), .inl (g.2 0, 60, .inl (fun _ => 0))), ((v 21), .inl (g.2 0, 240, .inl (fun _ => 0))), ((v 22), .inl (g.2 0, 120, .inl (fun _ => 0))), ((v 0), .inl (g.2 0, 497, .inl (upd (upd (upd (upd (upd (upd (upd (upd (upd (upd (upd (fillF 497 0 (fun _ => 0)) 453 1) 455 100) 476 100) 478 5) 481 100) 483 5) 486 100) 488 5) 491 100) 493 5) 495 4))), (qm, .inr (12, [.ref (v 0), .ref (v 1), .ref (v 2), .int 0, .ref (v 3), .int 0, .int 0, .ref (v 4), .ref (v 5), .ref (v 6), .ref (v 7), .int 0, .int 0, .int 0, .int 0, .ref (v 8), .ref (v 9), .ref (v 10), .ref (v 11), .ref (v 12), .ref (v 13), .ref (v 14), .ref (v 15), .ref (v 16), .ref (v 17), .ref (v 18), .int 0, .ref (v 19), .int 0, .ref (v 20), .int 0, .int 0, .int (-1), .int 0, .ref (v 21), .int 0, .ref (v 22)]))]
theorem h_thrown (l : Launch) (g : gG) (qm : Nat) (fs : List Value) (T : Int32) (hT : fs[6]? = some (.int T)) (sz : Nat) : Met l yX10_thrown [Cond.code yX10_thrown cX10_thrown 1 (some .int)] ({ frames := 0, cells := 0, slots := 0, locals := 0 } : Room) (va_Pc [.ref qm] (PX g sz [(qm, .inr (12, fs))])) (QI g [(qm, .inr (12, fs))] sz T (fun _ => [(qm, .inr (12, fs))])) 0 0 (va_A [(qm, .inr (12, fs))] sz) := by
  refine ofN (by decide) (Nat.le_of_ble_eq_true rfl) rfl ?_
  intro p e s m args below meth c A ls hAe hsz hx hb hml hr hlocks hin hown hE hP hD hA hS hl
  have hown : s.vm.findClass RX10 = some m.cls := hown
  refine lv_aload_n hx hb dX10_thrown_0 rfl (lv_at hl 0 rfl) ?_
  refine gf_RX10_86 hx hb hown hE hP 0 rfl hT dX10_thrown_1 ?_
  exact x_zret hx hb hr rfl rfl hlocks hP hD hS hAe hsz (Nat.le_of_ble_eq_true rfl) (Nat.le_of_ble_eq_true rfl) (fun _ => 0) [0] (by decide) rfl dX10_thrown_4

section LAW9
variable {p : Program} {l : Launch} {e : Env} {s : State} {m : MethodId} {below : List Frame} {meth : Method} {c : Code} {g : gG} {H : Heap} {locs : List Loc} {ls : Array Slot} {cells slots b qx qm qo qd : Nat} {u v : Nat → Nat} {xs : Nat → Int32}
theorem L0.hbA {N : Nat} (C : L0 p l s m meth c b N xs g) : ¬ LA s b := Nat.not_le.mpr C.hbl
theorem LA_new : ∀ q, s.heap.size ≤ q → LA s q := fun _ h => h
theorem x_lcmp {Q : State → Prop} {R : Room} {args : Array Value} {cc : ByteArray} {pc : Nat} {rest : List Value} (hx : p.tables.exec = Jvm.exec) (hb : c.code = cc) {x : Int64} (hdg : decode cc pc = .ok (.lcmp, 1)) (k : W p l e R s m args below meth c H locs cells slots Q (F0 m (pc + 1) ls (.int 0 :: rest))) : W p l e R s m args below meth c H locs cells slots Q (F0 m pc ls (.long x :: .long x :: rest)) := by
  intro T hT X
  obtain ⟨t, a, b⟩ := k T hT X
  refine ⟨t, ?_, b⟩
  have h1 : ¬ (x > x) := Int64.lt_irrefl
  jvm_step X.here [X.here.top, hx, hb, hdg, h1]
  exact a
theorem x_sld {Q : State → Prop} {R : Room} {args : Array Value} {cc : ByteArray} {pc N : Nat} {rest : List Value} {A : Nat → Prop} (hx : p.tables.exec = Jvm.exec) (hb : c.code = cc) (hX : va_X b N xs s s.heap) (hbl : b < s.heap.size) (hbA : ¬ A b) (hS : va_S A s.heap H locs) {i : Int32} (hin : vp_in i N) {k : Nat} (hk : i.toNatClampNeg = k) {z : Int32} (hz : xs k = z) (hdg : decode cc pc = .ok (.iaload, 1)) (kk : W p l e R s m args below meth c H locs cells slots Q (F0 m (pc + 1) ls (.int z :: rest))) : W p l e R s m args below meth c H locs cells slots Q (F0 m pc ls (.int i :: .ref b :: rest)) := by
  subst hk
  subst hz
  exact va_sld hx hb hX hbl hbA hS hin hdg kk

set_option maxRecDepth 100000 in
theorem lw_fin {N : Nat} (C : L0 p l s m meth c b N xs g) (hS : va_S (LA s) s.heap H locs) (hc : cells ≤ 600006) (hs : slots ≤ 7302016) : W p l e room_1 s m #[Value.ref b] below meth c H locs cells slots (lw_Z below #[Value.ref b] s) (F0 m 2964 ls []) := by
  have hx := C.hx
  have hb := C.hb
  refine lv_iconst (v := 1) hx hb dL_law_2964 (by decide) ?_
  refine va_forget (fun q hq => hS.2.2 q hq) ?_
  refine W.widen (k := 600006) (n := 7302016) hc hs ?_
  exact lw_ret (d0 := s.drawn) (Drawn.sameBut.refl s.drawn lw_cs) hx hb C.hr C.hlocks dL_law_2965
set_option maxRecDepth 100000 in
theorem lw_end (C : L0 p l s m meth c b 6 xs g) (hS : va_S (LA s) s.heap H locs) (hl : lv_has ls 9 [(5, .int 0), (0, .ref b)]) (hc : cells ≤ 600006) (hs : slots ≤ 7302016) : W p l e room_1 s m #[Value.ref b] below meth c H locs cells slots (lw_Z below #[Value.ref b] s) (F0 m 2958 ls []) := by
  have hx := C.hx
  have hb := C.hb
  refine lv_iinc (v := 6) (lv' := [(5, .int 6), (0, .ref b)]) hx hb dL_law_2958 hl (k := 0) rfl (by decide) (by decide) rfl (fun ls hl => ?_)
  refine lv_goto (tgt := 28) hx hb dL_law_2961 (by decide) ?_
  refine lv_iload hx hb dL_law_28 (lv_at hl 0 rfl) ?_
  refine lv_aload_n hx hb dL_law_30 rfl (lv_at hl 1 rfl) ?_
  refine va_slen hx hb C.hX C.hbl C.hbA hS dL_law_31 ?_
  refine lv_bipush (v := 6) hx hb dL_law_32 (by decide) ?_
  refine x_isub (v := 0) hx hb dL_law_34 (by decide) ?_
  refine lv_icmp_gt (tgt := 2964) hx hb dL_law_35 (by decide) (fun _ => ?_) (fun h => absurd (by decide) h)
  exact lw_fin C hS hc hs
theorem lw_sh {N : Nat} (h : N < 6) : Int32.ofNat N - 6 < 0 := by
  rcases (show N = 0 ∨ N = 1 ∨ N = 2 ∨ N = 3 ∨ N = 4 ∨ N = 5 by omega) with rfl | rfl | rfl | rfl | rfl | rfl <;> decide
set_option maxHeartbeats 4000000 in
set_option maxRecDepth 100000 in
theorem lo0_addCall (C : L0 p l s m meth c b 6 xs g) (hP : va_P g.1 vwCl (WL g qx u qm v qo qd) H) (hD : va_D (LA s) (WL g qx u qm v qo qd)) (hS : va_S (LA s) s.heap H locs) (hl : lv_has ls 9 [(5, .int 0), (4, .ref qd), (3, .ref qo), (2, .ref qm), (1, .ref qx), (0, .ref b)]) {a1 a2 a3 : Int32} (x1 : xs 1 = a1) (x2 : xs 2 = a2) (x3 : xs 3 = a3) {ws1 ws2 : va_W} {rm1 rm2 : Room} {mc1 ms1 mc2 ms2 : Nat} {fs2 : List Value} {f : Nat → Int64} {r2 T : Int32} {B : Int64} (hTK : T = 0) (hB : f 0 = B) (hrB : r2.toInt64 = B) (hT : fs2[6]? = some (.int T)) (is1 : List Nat) (hi1 : is1.map (fun i => (WL g qx u qm v qo qd)[i]?) = ws1.map some) (hn1 : va_nd is1 = true) (hd1 : ∀ i ∈ [48, 49, 50, 51, 52, 53, 54, 55, 56, 57, 58, 59, 60, 61, 62, 63, 64, 65, 66, 67, 68, 69, 70, 71], i ∉ is1) (M1 : ∀ sz, Met l yL_addCall [Cond.codeWith yL_addCall cL_addCall 6 (some .int) [(0, 12, 15, 13), (0, 12, 19, 15), (0, 12, 23, 17)]] rm1 (va_Pc [.ref qx, .int a1, .int a2, .int a3, .ref qo] (PZ g sz ws1)) (QI g ws1 sz 0 (fun _ => [(qo, .inl (g.2 1, 1, .inr (.inl f)))])) mc1 ms1 (va_A ws1 sz)) (hrc1 : rm1.cells = mc1) (hrs1 : rm1.slots = ms1) (hR1 : rm1.frames + 1 ≤ room_1.frames ∧ 8 + (6 + 11) + rm1.locals ≤ room_1.locals) (hc1 : mc1 ≤ 100000 ∧ ms1 ≤ 1000000) (is2 : List Nat) (hi2 : is2.map (fun i => (WM g qm v)[i]?) = ws2.map some) (hn2 : va_nd is2 = true) (hd2 : ∀ i ∈ is2, i < 24) (M2 : ∀ sz, Met l yX10_addCall [Cond.code yX10_addCall cX10_addCall 4 (some .int)] rm2 (va_Pc [.ref qm, .int a1, .int a2, .int a3] (PX g sz ws2)) (QI g ws2 sz r2 (fun _ => [(qm, .inr (12, fs2))])) mc2 ms2 (va_A ws2 sz)) (hrc2 : rm2.cells = mc2) (hrs2 : rm2.slots = ms2) (hR2 : rm2.frames + 1 ≤ room_1.frames ∧ 8 + (4 + 11) + rm2.locals ≤ room_1.locals) (hc2 : mc2 ≤ 100000 ∧ ms2 ≤ 1000000) : W p l e room_1 s m #[Value.ref b] below meth c H locs 146 20899 (lw_Z below #[Value.ref b] s) (F0 m 413 ls []) := by
  have hx := C.hx
  have hb := C.hb
  have hml := C.hml
  have hown := C.hown
  have hE := C.hE
  have hz := C.hz
  have hA : ∀ q, s.heap.size ≤ q → LA s q := LA_new
  refine lv_aload_n hx hb dL_law_413 rfl (lv_at hl 4 rfl) ?_
  refine lv_aload_n hx hb dL_law_414 rfl (lv_at hl 5 rfl) ?_
  refine lv_iload hx hb dL_law_415 (lv_at hl 0 rfl) ?_
  refine lv_iconst (v := 1) hx hb dL_law_417 (by decide) ?_
  refine x_iadd (v := 1) hx hb dL_law_418 (by decide) ?_
  refine x_sld (z := a1) hx hb C.hX C.hbl C.hbA hS (x_in (by decide)) (k := 1) (by decide) x1 dL_law_419 ?_
  refine lv_aload_n hx hb dL_law_420 rfl (lv_at hl 5 rfl) ?_
  refine lv_iload hx hb dL_law_421 (lv_at hl 0 rfl) ?_
  refine lv_iconst (v := 2) hx hb dL_law_423 (by decide) ?_
  refine x_iadd (v := 2) hx hb dL_law_424 (by decide) ?_
  refine x_sld (z := a2) hx hb C.hX C.hbl C.hbA hS (x_in (by decide)) (k := 2) (by decide) x2 dL_law_425 ?_
  refine lv_aload_n hx hb dL_law_426 rfl (lv_at hl 5 rfl) ?_
  refine lv_iload hx hb dL_law_427 (lv_at hl 0 rfl) ?_
  refine lv_iconst (v := 3) hx hb dL_law_429 (by decide) ?_
  refine x_iadd (v := 3) hx hb dL_law_430 (by decide) ?_
  refine x_sld (z := a3) hx hb C.hX C.hbl C.hbA hS (x_in (by decide)) (k := 3) (by decide) x3 dL_law_431 ?_
  refine lv_aload_n hx hb dL_law_432 rfl (lv_at hl 2 rfl) ?_
  refine g_i (wr := WM g qm v) (rSW (rest := []) hx hb hml hown hE hP hD hS hA hz (M1 H.size) (kSW_L_addCall hE (e734 hE) hrc1 hrs1 hR1) is1 hi1 hn1 rfl hl.1 rfl (lv_room (Nat.le_of_ble_eq_true rfl)) dL_law_433 ⟨by rw [rm_c]; omega, by rw [rm_s]; omega⟩) hP hD hS hA is1 [48, 49, 50, 51, 52, 53, 54, 55, 56, 57, 58, 59, 60, 61, 62, 63, 64, 65, 66, 67, 68, 69, 70, 71] hi1 rfl (by decide) hd1 (fun u1 H locs hP hD hS => ?_)
  refine lv_istore (lv' := [(6, .int 0), (5, .int 0), (4, .ref qd), (3, .ref qo), (2, .ref qm), (1, .ref qx), (0, .ref b)]) hx hb dL_law_436 hl (by decide) rfl (fun ls hl => ?_)
  refine lv_aload_n hx hb dL_law_438 rfl (lv_at hl 4 rfl) ?_
  refine lv_aload_n hx hb dL_law_439 rfl (lv_at hl 6 rfl) ?_
  refine lv_iload hx hb dL_law_440 (lv_at hl 1 rfl) ?_
  refine lv_iconst (v := 1) hx hb dL_law_442 (by decide) ?_
  refine x_iadd (v := 1) hx hb dL_law_443 (by decide) ?_
  refine x_sld (z := a1) hx hb C.hX C.hbl C.hbA hS (x_in (by decide)) (k := 1) (by decide) x1 dL_law_444 ?_
  refine lv_aload_n hx hb dL_law_445 rfl (lv_at hl 6 rfl) ?_
  refine lv_iload hx hb dL_law_446 (lv_at hl 1 rfl) ?_
  refine lv_iconst (v := 2) hx hb dL_law_448 (by decide) ?_
  refine x_iadd (v := 2) hx hb dL_law_449 (by decide) ?_
  refine x_sld (z := a2) hx hb C.hX C.hbl C.hbA hS (x_in (by decide)) (k := 2) (by decide) x2 dL_law_450 ?_
  refine lv_aload_n hx hb dL_law_451 rfl (lv_at hl 6 rfl) ?_
  refine lv_iload hx hb dL_law_452 (lv_at hl 1 rfl) ?_
  refine lv_iconst (v := 3) hx hb dL_law_454 (by decide) ?_
  refine x_iadd (v := 3) hx hb dL_law_455 (by decide) ?_
  refine x_sld (z := a3) hx hb C.hX C.hbl C.hbA hS (x_in (by decide)) (k := 3) (by decide) x3 dL_law_456 ?_
  refine g_i (wr := [(qo, .inl (g.2 1, 1, .inr (.inl f)))]) (rV (rest := []) hx hb hml hown hE hP hD 23 rfl rfl (M2 H.size) (kV_X10_addCall hE (e1486 hE) hrc2 hrs2 hR2) is2 (sub_app hi2) hn2 rfl hl.1 rfl (lv_room (Nat.le_of_ble_eq_true rfl)) dL_law_457 ⟨by rw [rm_c]; omega, by rw [rm_s]; omega⟩) hP hD hS hA is2 [24] (sub_app hi2) rfl (by decide) (fun i hi h => absurd (hd2 i h) (by rw [List.mem_singleton.mp hi]; decide)) (fun u2 H locs hP hD hS => ?_)
  refine lv_istore (lv' := [(7, .int r2), (6, .int 0), (5, .int 0), (4, .ref qd), (3, .ref qo), (2, .ref qm), (1, .ref qx), (0, .ref b)]) hx hb dL_law_460 hl (by decide) rfl (fun ls hl => ?_)
  refine lv_aload_n hx hb dL_law_462 rfl (lv_at hl 5 rfl) ?_
  refine g_i (wr := [(qo, .inl (g.2 1, 1, .inr (.inl f)))]) (rV (rest := []) hx hb hml hown hE hP hD 1 rfl rfl (h_thrown l g qm fs2 T hT H.size) (kV_X10_thrown hE (e1412 hE) rfl rfl ⟨(Nat.le_of_ble_eq_true rfl), (Nat.le_of_ble_eq_true rfl)⟩) [1] rfl (by decide) rfl hl.1 rfl (lv_room (Nat.le_of_ble_eq_true rfl)) dL_law_463 ⟨by rw [rm_c]; omega, by rw [rm_s]; omega⟩) hP hD hS hA [1] [0] rfl rfl (by decide) (by decide) (fun u3 H locs hP hD hS => ?_)
  refine lv_iload hx hb dL_law_466 (lv_at hl 1 rfl) ?_
  refine lv_icmp_eq (tgt := 473) hx hb dL_law_468 (by decide) (fun _ => ?_) (fun h => absurd hTK h)
  refine lv_iload hx hb dL_law_473 (lv_at hl 1 rfl) ?_
  refine lv_if_ne (tgt := 490) hx hb dL_law_475 (by decide) (fun h => absurd h (by decide)) (fun _ => ?_)
  refine lv_aload_n hx hb dL_law_478 rfl (lv_at hl 4 rfl) ?_
  refine lv_iconst (v := 0) hx hb dL_law_479 (by decide) ?_
  refine x_lald (v := B) hx hb hE hP 0 rfl 0 (x_in (by decide)) (by decide) hB dL_law_480 ?_
  refine lv_iload hx hb dL_law_481 (lv_at hl 0 rfl) ?_
  refine lv_i2l (v := B) hx hb dL_law_483 hrB ?_
  refine x_lcmp hx hb dL_law_484 ?_
  refine lv_if_eq (tgt := 490) hx hb dL_law_485 (by decide) (fun _ => ?_) (fun h => absurd rfl h)
  refine lv_goto (tgt := 2958) hx hb dL_law_490 (by decide) ?_
  exact lw_end C hS (lv_sub hl [2, 7] rfl) (by omega) (by omega)

set_option maxHeartbeats 4000000 in
set_option maxRecDepth 100000 in
theorem lo0_addClip (C : L0 p l s m meth c b 6 xs g) (hP : va_P g.1 vwCl (WL g qx u qm v qo qd) H) (hD : va_D (LA s) (WL g qx u qm v qo qd)) (hS : va_S (LA s) s.heap H locs) (hl : lv_has ls 9 [(5, .int 0), (4, .ref qd), (3, .ref qo), (2, .ref qm), (1, .ref qx), (0, .ref b)]) {a1 a2 a3 a4 a5 : Int32} (x1 : xs 1 = a1) (x2 : xs 2 = a2) (x3 : xs 3 = a3) (x4 : xs 4 = a4) (x5 : xs 5 = a5) {ws1 ws2 : va_W} {rm1 rm2 : Room} {mc1 ms1 mc2 ms2 : Nat} {fs2 : List Value} {f : Nat → Int64} {r2 T : Int32} {B : Int64} (hTK : T = 0) (hB : f 0 = B) (hrB : r2.toInt64 = B) (hT : fs2[6]? = some (.int T)) (is1 : List Nat) (hi1 : is1.map (fun i => (WL g qx u qm v qo qd)[i]?) = ws1.map some) (hn1 : va_nd is1 = true) (hd1 : ∀ i ∈ [48, 49, 50, 51, 52, 53, 54, 55, 56, 57, 58, 59, 60, 61, 62, 63, 64, 65, 66, 67, 68, 69, 70, 71], i ∉ is1) (M1 : ∀ sz, Met l yL_addClip [Cond.codeWith yL_addClip cL_addClip 8 (some .int) [(0, 16, 19, 15), (0, 16, 23, 17)]] rm1 (va_Pc [.ref qx, .int a1, .int a2, .int a3, .int a4, .int a5, .ref qo] (PZ g sz ws1)) (QI g ws1 sz 0 (fun _ => [(qo, .inl (g.2 1, 1, .inr (.inl f)))])) mc1 ms1 (va_A ws1 sz)) (hrc1 : rm1.cells = mc1) (hrs1 : rm1.slots = ms1) (hR1 : rm1.frames + 1 ≤ room_1.frames ∧ 8 + (8 + 11) + rm1.locals ≤ room_1.locals) (hc1 : mc1 ≤ 100000 ∧ ms1 ≤ 1000000) (is2 : List Nat) (hi2 : is2.map (fun i => (WM g qm v)[i]?) = ws2.map some) (hn2 : va_nd is2 = true) (hd2 : ∀ i ∈ is2, i < 24) (M2 : ∀ sz, Met l yX10_addClip [Cond.code yX10_addClip cX10_addClip 8 (some .int)] rm2 (va_Pc [.ref qm, .int a1, .int a2, .int a3, .int a4, .int a5] (PX g sz ws2)) (QI g ws2 sz r2 (fun _ => [(qm, .inr (12, fs2))])) mc2 ms2 (va_A ws2 sz)) (hrc2 : rm2.cells = mc2) (hrs2 : rm2.slots = ms2) (hR2 : rm2.frames + 1 ≤ room_1.frames ∧ 8 + (8 + 11) + rm2.locals ≤ room_1.locals) (hc2 : mc2 ≤ 100000 ∧ ms2 ≤ 1000000) : W p l e room_1 s m #[Value.ref b] below meth c H locs 146 20899 (lw_Z below #[Value.ref b] s) (F0 m 789 ls []) := by
  have hx := C.hx
  have hb := C.hb
  have hml := C.hml
  have hown := C.hown
  have hE := C.hE
  have hz := C.hz
  have hA : ∀ q, s.heap.size ≤ q → LA s q := LA_new
  refine lv_aload_n hx hb dL_law_789 rfl (lv_at hl 4 rfl) ?_
  refine lv_aload_n hx hb dL_law_790 rfl (lv_at hl 5 rfl) ?_
  refine lv_iload hx hb dL_law_791 (lv_at hl 0 rfl) ?_
  refine lv_iconst (v := 1) hx hb dL_law_793 (by decide) ?_
  refine x_iadd (v := 1) hx hb dL_law_794 (by decide) ?_
  refine x_sld (z := a1) hx hb C.hX C.hbl C.hbA hS (x_in (by decide)) (k := 1) (by decide) x1 dL_law_795 ?_
  refine lv_aload_n hx hb dL_law_796 rfl (lv_at hl 5 rfl) ?_
  refine lv_iload hx hb dL_law_797 (lv_at hl 0 rfl) ?_
  refine lv_iconst (v := 2) hx hb dL_law_799 (by decide) ?_
  refine x_iadd (v := 2) hx hb dL_law_800 (by decide) ?_
  refine x_sld (z := a2) hx hb C.hX C.hbl C.hbA hS (x_in (by decide)) (k := 2) (by decide) x2 dL_law_801 ?_
  refine lv_aload_n hx hb dL_law_802 rfl (lv_at hl 5 rfl) ?_
  refine lv_iload hx hb dL_law_803 (lv_at hl 0 rfl) ?_
  refine lv_iconst (v := 3) hx hb dL_law_805 (by decide) ?_
  refine x_iadd (v := 3) hx hb dL_law_806 (by decide) ?_
  refine x_sld (z := a3) hx hb C.hX C.hbl C.hbA hS (x_in (by decide)) (k := 3) (by decide) x3 dL_law_807 ?_
  refine lv_aload_n hx hb dL_law_808 rfl (lv_at hl 5 rfl) ?_
  refine lv_iload hx hb dL_law_809 (lv_at hl 0 rfl) ?_
  refine lv_iconst (v := 4) hx hb dL_law_811 (by decide) ?_
  refine x_iadd (v := 4) hx hb dL_law_812 (by decide) ?_
  refine x_sld (z := a4) hx hb C.hX C.hbl C.hbA hS (x_in (by decide)) (k := 4) (by decide) x4 dL_law_813 ?_
  refine lv_aload_n hx hb dL_law_814 rfl (lv_at hl 5 rfl) ?_
  refine lv_iload hx hb dL_law_815 (lv_at hl 0 rfl) ?_
  refine lv_iconst (v := 5) hx hb dL_law_817 (by decide) ?_
  refine x_iadd (v := 5) hx hb dL_law_818 (by decide) ?_
  refine x_sld (z := a5) hx hb C.hX C.hbl C.hbA hS (x_in (by decide)) (k := 5) (by decide) x5 dL_law_819 ?_
  refine lv_aload_n hx hb dL_law_820 rfl (lv_at hl 2 rfl) ?_
  refine g_i (wr := WM g qm v) (rSW (rest := []) hx hb hml hown hE hP hD hS hA hz (M1 H.size) (kSW_L_addClip hE (e800 hE) hrc1 hrs1 hR1) is1 hi1 hn1 rfl hl.1 rfl (lv_room (Nat.le_of_ble_eq_true rfl)) dL_law_821 ⟨by rw [rm_c]; omega, by rw [rm_s]; omega⟩) hP hD hS hA is1 [48, 49, 50, 51, 52, 53, 54, 55, 56, 57, 58, 59, 60, 61, 62, 63, 64, 65, 66, 67, 68, 69, 70, 71] hi1 rfl (by decide) hd1 (fun u1 H locs hP hD hS => ?_)
  refine lv_istore (lv' := [(6, .int 0), (5, .int 0), (4, .ref qd), (3, .ref qo), (2, .ref qm), (1, .ref qx), (0, .ref b)]) hx hb dL_law_824 hl (by decide) rfl (fun ls hl => ?_)
  refine lv_aload_n hx hb dL_law_826 rfl (lv_at hl 4 rfl) ?_
  refine lv_aload_n hx hb dL_law_827 rfl (lv_at hl 6 rfl) ?_
  refine lv_iload hx hb dL_law_828 (lv_at hl 1 rfl) ?_
  refine lv_iconst (v := 1) hx hb dL_law_830 (by decide) ?_
  refine x_iadd (v := 1) hx hb dL_law_831 (by decide) ?_
  refine x_sld (z := a1) hx hb C.hX C.hbl C.hbA hS (x_in (by decide)) (k := 1) (by decide) x1 dL_law_832 ?_
  refine lv_aload_n hx hb dL_law_833 rfl (lv_at hl 6 rfl) ?_
  refine lv_iload hx hb dL_law_834 (lv_at hl 1 rfl) ?_
  refine lv_iconst (v := 2) hx hb dL_law_836 (by decide) ?_
  refine x_iadd (v := 2) hx hb dL_law_837 (by decide) ?_
  refine x_sld (z := a2) hx hb C.hX C.hbl C.hbA hS (x_in (by decide)) (k := 2) (by decide) x2 dL_law_838 ?_
  refine lv_aload_n hx hb dL_law_839 rfl (lv_at hl 6 rfl) ?_
  refine lv_iload hx hb dL_law_840 (lv_at hl 1 rfl) ?_
  refine lv_iconst (v := 3) hx hb dL_law_842 (by decide) ?_
  refine x_iadd (v := 3) hx hb dL_law_843 (by decide) ?_
  refine x_sld (z := a3) hx hb C.hX C.hbl C.hbA hS (x_in (by decide)) (k := 3) (by decide) x3 dL_law_844 ?_
  refine lv_aload_n hx hb dL_law_845 rfl (lv_at hl 6 rfl) ?_
  refine lv_iload hx hb dL_law_846 (lv_at hl 1 rfl) ?_
  refine lv_iconst (v := 4) hx hb dL_law_848 (by decide) ?_
  refine x_iadd (v := 4) hx hb dL_law_849 (by decide) ?_
  refine x_sld (z := a4) hx hb C.hX C.hbl C.hbA hS (x_in (by decide)) (k := 4) (by decide) x4 dL_law_850 ?_
  refine lv_aload_n hx hb dL_law_851 rfl (lv_at hl 6 rfl) ?_
  refine lv_iload hx hb dL_law_852 (lv_at hl 1 rfl) ?_
  refine lv_iconst (v := 5) hx hb dL_law_854 (by decide) ?_
  refine x_iadd (v := 5) hx hb dL_law_855 (by decide) ?_
  refine x_sld (z := a5) hx hb C.hX C.hbl C.hbA hS (x_in (by decide)) (k := 5) (by decide) x5 dL_law_856 ?_
  refine g_i (wr := [(qo, .inl (g.2 1, 1, .inr (.inl f)))]) (rV (rest := []) hx hb hml hown hE hP hD 23 rfl rfl (M2 H.size) (kV_X10_addClip hE (e1519 hE) hrc2 hrs2 hR2) is2 (sub_app hi2) hn2 rfl hl.1 rfl (lv_room (Nat.le_of_ble_eq_true rfl)) dL_law_857 ⟨by rw [rm_c]; omega, by rw [rm_s]; omega⟩) hP hD hS hA is2 [24] (sub_app hi2) rfl (by decide) (fun i hi h => absurd (hd2 i h) (by rw [List.mem_singleton.mp hi]; decide)) (fun u2 H locs hP hD hS => ?_)
  refine lv_istore (lv' := [(7, .int r2), (6, .int 0), (5, .int 0), (4, .ref qd), (3, .ref qo), (2, .ref qm), (1, .ref qx), (0, .ref b)]) hx hb dL_law_860 hl (by decide) rfl (fun ls hl => ?_)
  refine lv_aload_n hx hb dL_law_862 rfl (lv_at hl 5 rfl) ?_
  refine g_i (wr := [(qo, .inl (g.2 1, 1, .inr (.inl f)))]) (rV (rest := []) hx hb hml hown hE hP hD 1 rfl rfl (h_thrown l g qm fs2 T hT H.size) (kV_X10_thrown hE (e1412 hE) rfl rfl ⟨(Nat.le_of_ble_eq_true rfl), (Nat.le_of_ble_eq_true rfl)⟩) [1] rfl (by decide) rfl hl.1 rfl (lv_room (Nat.le_of_ble_eq_true rfl)) dL_law_863 ⟨by rw [rm_c]; omega, by rw [rm_s]; omega⟩) hP hD hS hA [1] [0] rfl rfl (by decide) (by decide) (fun u3 H locs hP hD hS => ?_)
  refine lv_iload hx hb dL_law_866 (lv_at hl 1 rfl) ?_
  refine lv_icmp_eq (tgt := 873) hx hb dL_law_868 (by decide) (fun _ => ?_) (fun h => absurd hTK h)
  refine lv_iload hx hb dL_law_873 (lv_at hl 1 rfl) ?_
  refine lv_if_ne (tgt := 890) hx hb dL_law_875 (by decide) (fun h => absurd h (by decide)) (fun _ => ?_)
  refine lv_aload_n hx hb dL_law_878 rfl (lv_at hl 4 rfl) ?_
  refine lv_iconst (v := 0) hx hb dL_law_879 (by decide) ?_
  refine x_lald (v := B) hx hb hE hP 0 rfl 0 (x_in (by decide)) (by decide) hB dL_law_880 ?_
  refine lv_iload hx hb dL_law_881 (lv_at hl 0 rfl) ?_
  refine lv_i2l (v := B) hx hb dL_law_883 hrB ?_
  refine x_lcmp hx hb dL_law_884 ?_
  refine lv_if_eq (tgt := 890) hx hb dL_law_885 (by decide) (fun _ => ?_) (fun h => absurd rfl h)
  refine lv_goto (tgt := 2958) hx hb dL_law_890 (by decide) ?_
  exact lw_end C hS (lv_sub hl [2, 7] rfl) (by omega) (by omega)

set_option maxHeartbeats 4000000 in
set_option maxRecDepth 100000 in
theorem lo0_addNote (C : L0 p l s m meth c b 6 xs g) (hP : va_P g.1 vwCl (WL g qx u qm v qo qd) H) (hD : va_D (LA s) (WL g qx u qm v qo qd)) (hS : va_S (LA s) s.heap H locs) (hl : lv_has ls 9 [(5, .int 0), (4, .ref qd), (3, .ref qo), (2, .ref qm), (1, .ref qx), (0, .ref b)]) {a1 a2 a3 a4 : Int32} (x1 : xs 1 = a1) (x2 : xs 2 = a2) (x3 : xs 3 = a3) (x4 : xs 4 = a4) {ws1 ws2 : va_W} {rm1 rm2 : Room} {mc1 ms1 mc2 ms2 : Nat} {fs2 : List Value} {f : Nat → Int64} {r2 T : Int32} {B : Int64} (hTK : T = 0) (hB : f 0 = B) (hrB : r2.toInt64 = B) (hT : fs2[6]? = some (.int T)) (is1 : List Nat) (hi1 : is1.map (fun i => (WL g qx u qm v qo qd)[i]?) = ws1.map some) (hn1 : va_nd is1 = true) (hd1 : ∀ i ∈ [48, 49, 50, 51, 52, 53, 54, 55, 56, 57, 58, 59, 60, 61, 62, 63, 64, 65, 66, 67, 68, 69, 70, 71], i ∉ is1) (M1 : ∀ sz, Met l yL_addNote [Cond.codeWith yL_addNote cL_addNote 7 (some .int) [(0, 14, 17, 13), (0, 14, 21, 15), (0, 14, 25, 17)]] rm1 (va_Pc [.ref qx, .int a1, .int a2, .int a3, .int a4, .ref qo] (PZ g sz ws1)) (QI g ws1 sz 0 (fun _ => [(qo, .inl (g.2 1, 1, .inr (.inl f)))])) mc1 ms1 (va_A ws1 sz)) (hrc1 : rm1.cells = mc1) (hrs1 : rm1.slots = ms1) (hR1 : rm1.frames + 1 ≤ room_1.frames ∧ 8 + (7 + 11) + rm1.locals ≤ room_1.locals) (hc1 : mc1 ≤ 100000 ∧ ms1 ≤ 1000000) (is2 : List Nat) (hi2 : is2.map (fun i => (WM g qm v)[i]?) = ws2.map some) (hn2 : va_nd is2 = true) (hd2 : ∀ i ∈ is2, i < 24) (M2 : ∀ sz, Met l yX10_addNote [Cond.code yX10_addNote cX10_addNote 5 (some .int)] rm2 (va_Pc [.ref qm, .int a1, .int a2, .int a3, .int a4] (PX g sz ws2)) (QI g ws2 sz r2 (fun _ => [(qm, .inr (12, fs2))])) mc2 ms2 (va_A ws2 sz)) (hrc2 : rm2.cells = mc2) (hrs2 : rm2.slots = ms2) (hR2 : rm2.frames + 1 ≤ room_1.frames ∧ 8 + (5 + 11) + rm2.locals ≤ room_1.locals) (hc2 : mc2 ≤ 100000 ∧ ms2 ≤ 1000000) : W p l e room_1 s m #[Value.ref b] below meth c H locs 146 20899 (lw_Z below #[Value.ref b] s) (F0 m 253 ls []) := by
  have hx := C.hx
  have hb := C.hb
  have hml := C.hml
  have hown := C.hown
  have hE := C.hE
  have hz := C.hz
  have hA : ∀ q, s.heap.size ≤ q → LA s q := LA_new
  refine lv_aload_n hx hb dL_law_253 rfl (lv_at hl 4 rfl) ?_
  refine lv_aload_n hx hb dL_law_254 rfl (lv_at hl 5 rfl) ?_
  refine lv_iload hx hb dL_law_255 (lv_at hl 0 rfl) ?_
  refine lv_iconst (v := 1) hx hb dL_law_257 (by decide) ?_
  refine x_iadd (v := 1) hx hb dL_law_258 (by decide) ?_
  refine x_sld (z := a1) hx hb C.hX C.hbl C.hbA hS (x_in (by decide)) (k := 1) (by decide) x1 dL_law_259 ?_
  refine lv_aload_n hx hb dL_law_260 rfl (lv_at hl 5 rfl) ?_
  refine lv_iload hx hb dL_law_261 (lv_at hl 0 rfl) ?_
  refine lv_iconst (v := 2) hx hb dL_law_263 (by decide) ?_
  refine x_iadd (v := 2) hx hb dL_law_264 (by decide) ?_
  refine x_sld (z := a2) hx hb C.hX C.hbl C.hbA hS (x_in (by decide)) (k := 2) (by decide) x2 dL_law_265 ?_
  refine lv_aload_n hx hb dL_law_266 rfl (lv_at hl 5 rfl) ?_
  refine lv_iload hx hb dL_law_267 (lv_at hl 0 rfl) ?_
  refine lv_iconst (v := 3) hx hb dL_law_269 (by decide) ?_
  refine x_iadd (v := 3) hx hb dL_law_270 (by decide) ?_
  refine x_sld (z := a3) hx hb C.hX C.hbl C.hbA hS (x_in (by decide)) (k := 3) (by decide) x3 dL_law_271 ?_
  refine lv_aload_n hx hb dL_law_272 rfl (lv_at hl 5 rfl) ?_
  refine lv_iload hx hb dL_law_273 (lv_at hl 0 rfl) ?_
  refine lv_iconst (v := 4) hx hb dL_law_275 (by decide) ?_
  refine x_iadd (v := 4) hx hb dL_law_276 (by decide) ?_
  refine x_sld (z := a4) hx hb C.hX C.hbl C.hbA hS (x_in (by decide)) (k := 4) (by decide) x4 dL_law_277 ?_
  refine lv_aload_n hx hb dL_law_278 rfl (lv_at hl 2 rfl) ?_
  refine g_i (wr := WM g qm v) (rSW (rest := []) hx hb hml hown hE hP hD hS hA hz (M1 H.size) (kSW_L_addNote hE (e529 hE) hrc1 hrs1 hR1) is1 hi1 hn1 rfl hl.1 rfl (lv_room (Nat.le_of_ble_eq_true rfl)) dL_law_279 ⟨by rw [rm_c]; omega, by rw [rm_s]; omega⟩) hP hD hS hA is1 [48, 49, 50, 51, 52, 53, 54, 55, 56, 57, 58, 59, 60, 61, 62, 63, 64, 65, 66, 67, 68, 69, 70, 71] hi1 rfl (by decide) hd1 (fun u1 H locs hP hD hS => ?_)
  refine lv_istore (lv' := [(6, .int 0), (5, .int 0), (4, .ref qd), (3, .ref qo), (2, .ref qm), (1, .ref qx), (0, .ref b)]) hx hb dL_law_282 hl (by decide) rfl (fun ls hl => ?_)
  refine lv_aload_n hx hb dL_law_284 rfl (lv_at hl 4 rfl) ?_
  refine lv_aload_n hx hb dL_law_285 rfl (lv_at hl 6 rfl) ?_
  refine lv_iload hx hb dL_law_286 (lv_at hl 1 rfl) ?_
  refine lv_iconst (v := 1) hx hb dL_law_288 (by decide) ?_
  refine x_iadd (v := 1) hx hb dL_law_289 (by decide) ?_
  refine x_sld (z := a1) hx hb C.hX C.hbl C.hbA hS (x_in (by decide)) (k := 1) (by decide) x1 dL_law_290 ?_
  refine lv_aload_n hx hb dL_law_291 rfl (lv_at hl 6 rfl) ?_
  refine lv_iload hx hb dL_law_292 (lv_at hl 1 rfl) ?_
  refine lv_iconst (v := 2) hx hb dL_law_294 (by decide) ?_
  refine x_iadd (v := 2) hx hb dL_law_295 (by decide) ?_
  refine x_sld (z := a2) hx hb C.hX C.hbl C.hbA hS (x_in (by decide)) (k := 2) (by decide) x2 dL_law_296 ?_
  refine lv_aload_n hx hb dL_law_297 rfl (lv_at hl 6 rfl) ?_
  refine lv_iload hx hb dL_law_298 (lv_at hl 1 rfl) ?_
  refine lv_iconst (v := 3) hx hb dL_law_300 (by decide) ?_
  refine x_iadd (v := 3) hx hb dL_law_301 (by decide) ?_
  refine x_sld (z := a3) hx hb C.hX C.hbl C.hbA hS (x_in (by decide)) (k := 3) (by decide) x3 dL_law_302 ?_
  refine lv_aload_n hx hb dL_law_303 rfl (lv_at hl 6 rfl) ?_
  refine lv_iload hx hb dL_law_304 (lv_at hl 1 rfl) ?_
  refine lv_iconst (v := 4) hx hb dL_law_306 (by decide) ?_
  refine x_iadd (v := 4) hx hb dL_law_307 (by decide) ?_
  refine x_sld (z := a4) hx hb C.hX C.hbl C.hbA hS (x_in (by decide)) (k := 4) (by decide) x4 dL_law_308 ?_
  refine g_i (wr := [(qo, .inl (g.2 1, 1, .inr (.inl f)))]) (rV (rest := []) hx hb hml hown hE hP hD 23 rfl rfl (M2 H.size) (kV_X10_addNote hE (e1420 hE) hrc2 hrs2 hR2) is2 (sub_app hi2) hn2 rfl hl.1 rfl (lv_room (Nat.le_of_ble_eq_true rfl)) dL_law_309 ⟨by rw [rm_c]; omega, by rw [rm_s]; omega⟩) hP hD hS hA is2 [24] (sub_app hi2) rfl (by decide) (fun i hi h => absurd (hd2 i h) (by rw [List.mem_singleton.mp hi]; decide)) (fun u2 H locs hP hD hS => ?_)
  refine lv_istore (lv' := [(7, .int r2), (6, .int 0), (5, .int 0), (4, .ref qd), (3, .ref qo), (2, .ref qm), (1, .ref qx), (0, .ref b)]) hx hb dL_law_312 hl (by decide) rfl (fun ls hl => ?_)
  refine lv_aload_n hx hb dL_law_314 rfl (lv_at hl 5 rfl) ?_
  refine g_i (wr := [(qo, .inl (g.2 1, 1, .inr (.inl f)))]) (rV (rest := []) hx hb hml hown hE hP hD 1 rfl rfl (h_thrown l g qm fs2 T hT H.size) (kV_X10_thrown hE (e1412 hE) rfl rfl ⟨(Nat.le_of_ble_eq_true rfl), (Nat.le_of_ble_eq_true rfl)⟩) [1] rfl (by decide) rfl hl.1 rfl (lv_room (Nat.le_of_ble_eq_true rfl)) dL_law_315 ⟨by rw [rm_c]; omega, by rw [rm_s]; omega⟩) hP hD hS hA [1] [0] rfl rfl (by decide) (by decide) (fun u3 H locs hP hD hS => ?_)
  refine lv_iload hx hb dL_law_318 (lv_at hl 1 rfl) ?_
  refine lv_icmp_eq (tgt := 325) hx hb dL_law_320 (by decide) (fun _ => ?_) (fun h => absurd hTK h)
  refine lv_iload hx hb dL_law_325 (lv_at hl 1 rfl) ?_
  refine lv_if_ne (tgt := 342) hx hb dL_law_327 (by decide) (fun h => absurd h (by decide)) (fun _ => ?_)
  refine lv_aload_n hx hb dL_law_330 rfl (lv_at hl 4 rfl) ?_
  refine lv_iconst (v := 0) hx hb dL_law_331 (by decide) ?_
  refine x_lald (v := B) hx hb hE hP 0 rfl 0 (x_in (by decide)) (by decide) hB dL_law_332 ?_
  refine lv_iload hx hb dL_law_333 (lv_at hl 0 rfl) ?_
  refine lv_i2l (v := B) hx hb dL_law_335 hrB ?_
  refine x_lcmp hx hb dL_law_336 ?_
  refine lv_if_eq (tgt := 342) hx hb dL_law_337 (by decide) (fun _ => ?_) (fun h => absurd rfl h)
  refine lv_goto (tgt := 2958) hx hb dL_law_342 (by decide) ?_
  exact lw_end C hS (lv_sub hl [2, 7] rfl) (by omega) (by omega)

set_option maxHeartbeats 4000000 in
set_option maxRecDepth 100000 in
theorem lo0_addRest (C : L0 p l s m meth c b 6 xs g) (hP : va_P g.1 vwCl (WL g qx u qm v qo qd) H) (hD : va_D (LA s) (WL g qx u qm v qo qd)) (hS : va_S (LA s) s.heap H locs) (hl : lv_has ls 9 [(5, .int 0), (4, .ref qd), (3, .ref qo), (2, .ref qm), (1, .ref qx), (0, .ref b)]) {a1 a2 : Int32} (x1 : xs 1 = a1) (x2 : xs 2 = a2) {ws1 ws2 : va_W} {rm1 rm2 : Room} {mc1 ms1 mc2 ms2 : Nat} {fs2 : List Value} {f : Nat → Int64} {r2 T : Int32} {B : Int64} (hTK : T = 0) (hB : f 0 = B) (hrB : r2.toInt64 = B) (hT : fs2[6]? = some (.int T)) (is1 : List Nat) (hi1 : is1.map (fun i => (WL g qx u qm v qo qd)[i]?) = ws1.map some) (hn1 : va_nd is1 = true) (hd1 : ∀ i ∈ [48, 49, 50, 51, 52, 53, 54, 55, 56, 57, 58, 59, 60, 61, 62, 63, 64, 65, 66, 67, 68, 69, 70, 71], i ∉ is1) (M1 : ∀ sz, Met l yL_addRest [Cond.codeWith yL_addRest cL_addRest 5 (some .int) [(0, 10, 13, 13), (0, 10, 17, 15), (0, 10, 21, 17)]] rm1 (va_Pc [.ref qx, .int a1, .int a2, .ref qo] (PZ g sz ws1)) (QI g ws1 sz 0 (fun _ => [(qo, .inl (g.2 1, 1, .inr (.inl f)))])) mc1 ms1 (va_A ws1 sz)) (hrc1 : rm1.cells = mc1) (hrs1 : rm1.slots = ms1) (hR1 : rm1.frames + 1 ≤ room_1.frames ∧ 8 + (5 + 11) + rm1.locals ≤ room_1.locals) (hc1 : mc1 ≤ 100000 ∧ ms1 ≤ 1000000) (is2 : List Nat) (hi2 : is2.map (fun i => (WM g qm v)[i]?) = ws2.map some) (hn2 : va_nd is2 = true) (hd2 : ∀ i ∈ is2, i < 24) (M2 : ∀ sz, Met l yX10_addRest [Cond.code yX10_addRest cX10_addRest 3 (some .int)] rm2 (va_Pc [.ref qm, .int a1, .int a2] (PX g sz ws2)) (QI g ws2 sz r2 (fun _ => [(qm, .inr (12, fs2))])) mc2 ms2 (va_A ws2 sz)) (hrc2 : rm2.cells = mc2) (hrs2 : rm2.slots = ms2) (hR2 : rm2.frames + 1 ≤ room_1.frames ∧ 8 + (3 + 11) + rm2.locals ≤ room_1.locals) (hc2 : mc2 ≤ 100000 ∧ ms2 ≤ 1000000) : W p l e room_1 s m #[Value.ref b] below meth c H locs 146 20899 (lw_Z below #[Value.ref b] s) (F0 m 345 ls []) := by
  have hx := C.hx
  have hb := C.hb
  have hml := C.hml
  have hown := C.hown
  have hE := C.hE
  have hz := C.hz
  have hA : ∀ q, s.heap.size ≤ q → LA s q := LA_new
  refine lv_aload_n hx hb dL_law_345 rfl (lv_at hl 4 rfl) ?_
  refine lv_aload_n hx hb dL_law_346 rfl (lv_at hl 5 rfl) ?_
  refine lv_iload hx hb dL_law_347 (lv_at hl 0 rfl) ?_
  refine lv_iconst (v := 1) hx hb dL_law_349 (by decide) ?_
  refine x_iadd (v := 1) hx hb dL_law_350 (by decide) ?_
  refine x_sld (z := a1) hx hb C.hX C.hbl C.hbA hS (x_in (by decide)) (k := 1) (by decide) x1 dL_law_351 ?_
  refine lv_aload_n hx hb dL_law_352 rfl (lv_at hl 5 rfl) ?_
  refine lv_iload hx hb dL_law_353 (lv_at hl 0 rfl) ?_
  refine lv_iconst (v := 2) hx hb dL_law_355 (by decide) ?_
  refine x_iadd (v := 2) hx hb dL_law_356 (by decide) ?_
  refine x_sld (z := a2) hx hb C.hX C.hbl C.hbA hS (x_in (by decide)) (k := 2) (by decide) x2 dL_law_357 ?_
  refine lv_aload_n hx hb dL_law_358 rfl (lv_at hl 2 rfl) ?_
  refine g_i (wr := WM g qm v) (rSW (rest := []) hx hb hml hown hE hP hD hS hA hz (M1 H.size) (kSW_L_addRest hE (e727 hE) hrc1 hrs1 hR1) is1 hi1 hn1 rfl hl.1 rfl (lv_room (Nat.le_of_ble_eq_true rfl)) dL_law_359 ⟨by rw [rm_c]; omega, by rw [rm_s]; omega⟩) hP hD hS hA is1 [48, 49, 50, 51, 52, 53, 54, 55, 56, 57, 58, 59, 60, 61, 62, 63, 64, 65, 66, 67, 68, 69, 70, 71] hi1 rfl (by decide) hd1 (fun u1 H locs hP hD hS => ?_)
  refine lv_istore (lv' := [(6, .int 0), (5, .int 0), (4, .ref qd), (3, .ref qo), (2, .ref qm), (1, .ref qx), (0, .ref b)]) hx hb dL_law_362 hl (by decide) rfl (fun ls hl => ?_)
  refine lv_aload_n hx hb dL_law_364 rfl (lv_at hl 4 rfl) ?_
  refine lv_aload_n hx hb dL_law_365 rfl (lv_at hl 6 rfl) ?_
  refine lv_iload hx hb dL_law_366 (lv_at hl 1 rfl) ?_
  refine lv_iconst (v := 1) hx hb dL_law_368 (by decide) ?_
  refine x_iadd (v := 1) hx hb dL_law_369 (by decide) ?_
  refine x_sld (z := a1) hx hb C.hX C.hbl C.hbA hS (x_in (by decide)) (k := 1) (by decide) x1 dL_law_370 ?_
  refine lv_aload_n hx hb dL_law_371 rfl (lv_at hl 6 rfl) ?_
  refine lv_iload hx hb dL_law_372 (lv_at hl 1 rfl) ?_
  refine lv_iconst (v := 2) hx hb dL_law_374 (by decide) ?_
  refine x_iadd (v := 2) hx hb dL_law_375 (by decide) ?_
  refine x_sld (z := a2) hx hb C.hX C.hbl C.hbA hS (x_in (by decide)) (k := 2) (by decide) x2 dL_law_376 ?_
  refine g_i (wr := [(qo, .inl (g.2 1, 1, .inr (.inl f)))]) (rV (rest := []) hx hb hml hown hE hP hD 23 rfl rfl (M2 H.size) (kV_X10_addRest hE (e1482 hE) hrc2 hrs2 hR2) is2 (sub_app hi2) hn2 rfl hl.1 rfl (lv_room (Nat.le_of_ble_eq_true rfl)) dL_law_377 ⟨by rw [rm_c]; omega, by rw [rm_s]; omega⟩) hP hD hS hA is2 [24] (sub_app hi2) rfl (by decide) (fun i hi h => absurd (hd2 i h) (by rw [List.mem_singleton.mp hi]; decide)) (fun u2 H locs hP hD hS => ?_)
  refine lv_istore (lv' := [(7, .int r2), (6, .int 0), (5, .int 0), (4, .ref qd), (3, .ref qo), (2, .ref qm), (1, .ref qx), (0, .ref b)]) hx hb dL_law_380 hl (by decide) rfl (fun ls hl => ?_)
  refine lv_aload_n hx hb dL_law_382 rfl (lv_at hl 5 rfl) ?_
  refine g_i (wr := [(qo, .inl (g.2 1, 1, .inr (.inl f)))]) (rV (rest := []) hx hb hml hown hE hP hD 1 rfl rfl (h_thrown l g qm fs2 T hT H.size) (kV_X10_thrown hE (e1412 hE) rfl rfl ⟨(Nat.le_of_ble_eq_true rfl), (Nat.le_of_ble_eq_true rfl)⟩) [1] rfl (by decide) rfl hl.1 rfl (lv_room (Nat.le_of_ble_eq_true rfl)) dL_law_383 ⟨by rw [rm_c]; omega, by rw [rm_s]; omega⟩) hP hD hS hA [1] [0] rfl rfl (by decide) (by decide) (fun u3 H locs hP hD hS => ?_)
  refine lv_iload hx hb dL_law_386 (lv_at hl 1 rfl) ?_
  refine lv_icmp_eq (tgt := 393) hx hb dL_law_388 (by decide) (fun _ => ?_) (fun h => absurd hTK h)
  refine lv_iload hx hb dL_law_393 (lv_at hl 1 rfl) ?_
  refine lv_if_ne (tgt := 410) hx hb dL_law_395 (by decide) (fun h => absurd h (by decide)) (fun _ => ?_)
  refine lv_aload_n hx hb dL_law_398 rfl (lv_at hl 4 rfl) ?_
  refine lv_iconst (v := 0) hx hb dL_law_399 (by decide) ?_
  refine x_lald (v := B) hx hb hE hP 0 rfl 0 (x_in (by decide)) (by decide) hB dL_law_400 ?_
  refine lv_iload hx hb dL_law_401 (lv_at hl 0 rfl) ?_
  refine lv_i2l (v := B) hx hb dL_law_403 hrB ?_
  refine x_lcmp hx hb dL_law_404 ?_
  refine lv_if_eq (tgt := 410) hx hb dL_law_405 (by decide) (fun _ => ?_) (fun h => absurd rfl h)
  refine lv_goto (tgt := 2958) hx hb dL_law_410 (by decide) ?_
  exact lw_end C hS (lv_sub hl [2, 7] rfl) (by omega) (by omega)

set_option maxHeartbeats 4000000 in
set_option maxRecDepth 100000 in
theorem lo0_append (C : L0 p l s m meth c b 6 xs g) (hP : va_P g.1 vwCl (WL g qx u qm v qo qd) H) (hD : va_D (LA s) (WL g qx u qm v qo qd)) (hS : va_S (LA s) s.heap H locs) (hl : lv_has ls 9 [(5, .int 0), (4, .ref qd), (3, .ref qo), (2, .ref qm), (1, .ref qx), (0, .ref b)]) {a1 : Int32} {ch : Int32} (x1 : xs 1 = a1) (hch : i_chr a1 = ch) {ws1 ws2 : va_W} {rm1 rm2 : Room} {mc1 ms1 mc2 ms2 : Nat} {fs2 : List Value} {f : Nat → Int64} {r2 T : Int32} {B : Int64} (hTK : T = 0) (hB : f 0 = B) (hrB : r2.toInt64 = B) (hT : fs2[6]? = some (.int T)) (is1 : List Nat) (hi1 : is1.map (fun i => (WL g qx u qm v qo qd)[i]?) = ws1.map some) (hn1 : va_nd is1 = true) (hd1 : ∀ i ∈ [48, 49, 50, 51, 52, 53, 54, 55, 56, 57, 58, 59, 60, 61, 62, 63, 64, 65, 66, 67, 68, 69, 70, 71], i ∉ is1) (M1 : ∀ sz, Met l yL_append [Cond.codeWith yL_append cL_append 4 (some .int) [(0, 9, 12, 15), (0, 9, 15, 17)]] rm1 (va_Pc [.ref qx, .int ch, .ref qo] (PZ g sz ws1)) (QI g ws1 sz 0 (fun _ => [(qo, .inl (g.2 1, 1, .inr (.inl f)))])) mc1 ms1 (va_A ws1 sz)) (hrc1 : rm1.cells = mc1) (hrs1 : rm1.slots = ms1) (hR1 : rm1.frames + 1 ≤ room_1.frames ∧ 8 + (4 + 11) + rm1.locals ≤ room_1.locals) (hc1 : mc1 ≤ 100000 ∧ ms1 ≤ 1000000) (is2 : List Nat) (hi2 : is2.map (fun i => (WM g qm v)[i]?) = ws2.map some) (hn2 : va_nd is2 = true) (hd2 : ∀ i ∈ is2, i < 24) (M2 : ∀ sz, Met l yX10_append [Cond.code yX10_append cX10_append 2 (some .int)] rm2 (va_Pc [.ref qm, .int ch] (PX g sz ws2)) (QI g ws2 sz r2 (fun _ => [(qm, .inr (12, fs2))])) mc2 ms2 (va_A ws2 sz)) (hrc2 : rm2.cells = mc2) (hrs2 : rm2.slots = ms2) (hR2 : rm2.frames + 1 ≤ room_1.frames ∧ 8 + (2 + 11) + rm2.locals ≤ room_1.locals) (hc2 : mc2 ≤ 100000 ∧ ms2 ≤ 1000000) : W p l e room_1 s m #[Value.ref b] below meth c H locs 146 20899 (lw_Z below #[Value.ref b] s) (F0 m 2631 ls []) := by
  have hx := C.hx
  have hb := C.hb
  have hml := C.hml
  have hown := C.hown
  have hE := C.hE
  have hz := C.hz
  have hA : ∀ q, s.heap.size ≤ q → LA s q := LA_new
  refine lv_aload_n hx hb dL_law_2631 rfl (lv_at hl 4 rfl) ?_
  refine lv_aload_n hx hb dL_law_2632 rfl (lv_at hl 5 rfl) ?_
  refine lv_iload hx hb dL_law_2633 (lv_at hl 0 rfl) ?_
  refine lv_iconst (v := 1) hx hb dL_law_2635 (by decide) ?_
  refine x_iadd (v := 1) hx hb dL_law_2636 (by decide) ?_
  refine x_sld (z := a1) hx hb C.hX C.hbl C.hbA hS (x_in (by decide)) (k := 1) (by decide) x1 dL_law_2637 ?_
  refine lv_i2c (v := i_chr a1) hx hb dL_law_2638 rfl ?_
  refine x_top (v := ch) hch ?_
  refine lv_aload_n hx hb dL_law_2639 rfl (lv_at hl 2 rfl) ?_
  refine g_i (wr := WM g qm v) (rSW (rest := []) hx hb hml hown hE hP hD hS hA hz (M1 H.size) (kSW_L_append hE (e1150 hE) hrc1 hrs1 hR1) is1 hi1 hn1 rfl hl.1 rfl (lv_room (Nat.le_of_ble_eq_true rfl)) dL_law_2640 ⟨by rw [rm_c]; omega, by rw [rm_s]; omega⟩) hP hD hS hA is1 [48, 49, 50, 51, 52, 53, 54, 55, 56, 57, 58, 59, 60, 61, 62, 63, 64, 65, 66, 67, 68, 69, 70, 71] hi1 rfl (by decide) hd1 (fun u1 H locs hP hD hS => ?_)
  refine lv_istore (lv' := [(6, .int 0), (5, .int 0), (4, .ref qd), (3, .ref qo), (2, .ref qm), (1, .ref qx), (0, .ref b)]) hx hb dL_law_2643 hl (by decide) rfl (fun ls hl => ?_)
  refine lv_aload_n hx hb dL_law_2645 rfl (lv_at hl 4 rfl) ?_
  refine lv_aload_n hx hb dL_law_2646 rfl (lv_at hl 6 rfl) ?_
  refine lv_iload hx hb dL_law_2647 (lv_at hl 1 rfl) ?_
  refine lv_iconst (v := 1) hx hb dL_law_2649 (by decide) ?_
  refine x_iadd (v := 1) hx hb dL_law_2650 (by decide) ?_
  refine x_sld (z := a1) hx hb C.hX C.hbl C.hbA hS (x_in (by decide)) (k := 1) (by decide) x1 dL_law_2651 ?_
  refine lv_i2c (v := i_chr a1) hx hb dL_law_2652 rfl ?_
  refine x_top (v := ch) hch ?_
  refine g_i (wr := [(qo, .inl (g.2 1, 1, .inr (.inl f)))]) (rV (rest := []) hx hb hml hown hE hP hD 23 rfl rfl (M2 H.size) (kV_X10_append hE (e1724 hE) hrc2 hrs2 hR2) is2 (sub_app hi2) hn2 rfl hl.1 rfl (lv_room (Nat.le_of_ble_eq_true rfl)) dL_law_2653 ⟨by rw [rm_c]; omega, by rw [rm_s]; omega⟩) hP hD hS hA is2 [24] (sub_app hi2) rfl (by decide) (fun i hi h => absurd (hd2 i h) (by rw [List.mem_singleton.mp hi]; decide)) (fun u2 H locs hP hD hS => ?_)
  refine lv_istore (lv' := [(7, .int r2), (6, .int 0), (5, .int 0), (4, .ref qd), (3, .ref qo), (2, .ref qm), (1, .ref qx), (0, .ref b)]) hx hb dL_law_2656 hl (by decide) rfl (fun ls hl => ?_)
  refine lv_aload_n hx hb dL_law_2658 rfl (lv_at hl 5 rfl) ?_
  refine g_i (wr := [(qo, .inl (g.2 1, 1, .inr (.inl f)))]) (rV (rest := []) hx hb hml hown hE hP hD 1 rfl rfl (h_thrown l g qm fs2 T hT H.size) (kV_X10_thrown hE (e1412 hE) rfl rfl ⟨(Nat.le_of_ble_eq_true rfl), (Nat.le_of_ble_eq_true rfl)⟩) [1] rfl (by decide) rfl hl.1 rfl (lv_room (Nat.le_of_ble_eq_true rfl)) dL_law_2659 ⟨by rw [rm_c]; omega, by rw [rm_s]; omega⟩) hP hD hS hA [1] [0] rfl rfl (by decide) (by decide) (fun u3 H locs hP hD hS => ?_)
  refine lv_iload hx hb dL_law_2662 (lv_at hl 1 rfl) ?_
  refine lv_icmp_eq (tgt := 2669) hx hb dL_law_2664 (by decide) (fun _ => ?_) (fun h => absurd hTK h)
  refine lv_iload hx hb dL_law_2669 (lv_at hl 1 rfl) ?_
  refine lv_if_ne (tgt := 2686) hx hb dL_law_2671 (by decide) (fun h => absurd h (by decide)) (fun _ => ?_)
  refine lv_aload_n hx hb dL_law_2674 rfl (lv_at hl 4 rfl) ?_
  refine lv_iconst (v := 0) hx hb dL_law_2675 (by decide) ?_
  refine x_lald (v := B) hx hb hE hP 0 rfl 0 (x_in (by decide)) (by decide) hB dL_law_2676 ?_
  refine lv_iload hx hb dL_law_2677 (lv_at hl 0 rfl) ?_
  refine lv_i2l (v := B) hx hb dL_law_2679 hrB ?_
  refine x_lcmp hx hb dL_law_2680 ?_
  refine lv_if_eq (tgt := 2686) hx hb dL_law_2681 (by decide) (fun _ => ?_) (fun h => absurd rfl h)
  refine lv_goto (tgt := 2958) hx hb dL_law_2686 (by decide) ?_
  exact lw_end C hS (lv_sub hl [2, 7] rfl) (by omega) (by omega)

set_option maxHeartbeats 4000000 in
set_option maxRecDepth 100000 in
theorem lo0_busy (C : L0 p l s m meth c b 6 xs g) (hP : va_P g.1 vwCl (WL g qx u qm v qo qd) H) (hD : va_D (LA s) (WL g qx u qm v qo qd)) (hS : va_S (LA s) s.heap H locs) (hl : lv_has ls 9 [(5, .int 0), (4, .ref qd), (3, .ref qo), (2, .ref qm), (1, .ref qx), (0, .ref b)]) {a1 : Int32} (x1 : xs 1 = a1) {ws1 ws2 : va_W} {rm1 rm2 : Room} {mc1 ms1 mc2 ms2 : Nat} {fs2 : List Value} {f : Nat → Int64} {r2 T : Int32} {B : Int64} (hTK : T = 0) (hB : f 0 = B) (hrB : r2.toInt64 = B) (hT : fs2[6]? = some (.int T)) (is1 : List Nat) (hi1 : is1.map (fun i => (WL g qx u qm v qo qd)[i]?) = ws1.map some) (hn1 : va_nd is1 = true) (hd1 : ∀ i ∈ [48, 49, 50, 51, 52, 53, 54, 55, 56, 57, 58, 59, 60, 61, 62, 63, 64, 65, 66, 67, 68, 69, 70, 71], i ∉ is1) (M1 : ∀ sz, Met l yL_busy [Cond.codeWith yL_busy cL_busy 4 (some .int) [(0, 9, 12, 13)]] rm1 (va_Pc [.ref qx, .int a1, .ref qo] (PZ g sz ws1)) (QI g ws1 sz 0 (fun _ => [(qo, .inl (g.2 1, 1, .inr (.inl f)))])) mc1 ms1 (va_A ws1 sz)) (hrc1 : rm1.cells = mc1) (hrs1 : rm1.slots = ms1) (hR1 : rm1.frames + 1 ≤ room_1.frames ∧ 8 + (4 + 11) + rm1.locals ≤ room_1.locals) (hc1 : mc1 ≤ 100000 ∧ ms1 ≤ 1000000) (is2 : List Nat) (hi2 : is2.map (fun i => (WM g qm v)[i]?) = ws2.map some) (hn2 : va_nd is2 = true) (hd2 : ∀ i ∈ is2, i < 24) (M2 : ∀ sz, Met l yX10_busy [Cond.code yX10_busy cX10_busy 4 (some .int)] rm2 (va_Pc [.ref qm, .int a1] (PX g sz ws2)) (QI g ws2 sz r2 (fun _ => [(qm, .inr (12, fs2))])) mc2 ms2 (va_A ws2 sz)) (hrc2 : rm2.cells = mc2) (hrs2 : rm2.slots = ms2) (hR2 : rm2.frames + 1 ≤ room_1.frames ∧ 8 + (4 + 11) + rm2.locals ≤ room_1.locals) (hc2 : mc2 ≤ 100000 ∧ ms2 ≤ 1000000) : W p l e room_1 s m #[Value.ref b] below meth c H locs 146 20899 (lw_Z below #[Value.ref b] s) (F0 m 2373 ls []) := by
  have hx := C.hx
  have hb := C.hb
  have hml := C.hml
  have hown := C.hown
  have hE := C.hE
  have hz := C.hz
  have hA : ∀ q, s.heap.size ≤ q → LA s q := LA_new
  refine lv_aload_n hx hb dL_law_2373 rfl (lv_at hl 4 rfl) ?_
  refine lv_aload_n hx hb dL_law_2374 rfl (lv_at hl 5 rfl) ?_
  refine lv_iload hx hb dL_law_2375 (lv_at hl 0 rfl) ?_
  refine lv_iconst (v := 1) hx hb dL_law_2377 (by decide) ?_
  refine x_iadd (v := 1) hx hb dL_law_2378 (by decide) ?_
  refine x_sld (z := a1) hx hb C.hX C.hbl C.hbA hS (x_in (by decide)) (k := 1) (by decide) x1 dL_law_2379 ?_
  refine lv_aload_n hx hb dL_law_2380 rfl (lv_at hl 2 rfl) ?_
  refine g_i (wr := WM g qm v) (rSW (rest := []) hx hb hml hown hE hP hD hS hA hz (M1 H.size) (kSW_L_busy hE (e1083 hE) hrc1 hrs1 hR1) is1 hi1 hn1 rfl hl.1 rfl (lv_room (Nat.le_of_ble_eq_true rfl)) dL_law_2381 ⟨by rw [rm_c]; omega, by rw [rm_s]; omega⟩) hP hD hS hA is1 [48, 49, 50, 51, 52, 53, 54, 55, 56, 57, 58, 59, 60, 61, 62, 63, 64, 65, 66, 67, 68, 69, 70, 71] hi1 rfl (by decide) hd1 (fun u1 H locs hP hD hS => ?_)
  refine lv_istore (lv' := [(6, .int 0), (5, .int 0), (4, .ref qd), (3, .ref qo), (2, .ref qm), (1, .ref qx), (0, .ref b)]) hx hb dL_law_2384 hl (by decide) rfl (fun ls hl => ?_)
  refine lv_aload_n hx hb dL_law_2386 rfl (lv_at hl 4 rfl) ?_
  refine lv_aload_n hx hb dL_law_2387 rfl (lv_at hl 6 rfl) ?_
  refine lv_iload hx hb dL_law_2388 (lv_at hl 1 rfl) ?_
  refine lv_iconst (v := 1) hx hb dL_law_2390 (by decide) ?_
  refine x_iadd (v := 1) hx hb dL_law_2391 (by decide) ?_
  refine x_sld (z := a1) hx hb C.hX C.hbl C.hbA hS (x_in (by decide)) (k := 1) (by decide) x1 dL_law_2392 ?_
  refine g_i (wr := [(qo, .inl (g.2 1, 1, .inr (.inl f)))]) (rV (rest := []) hx hb hml hown hE hP hD 23 rfl rfl (M2 H.size) (kV_X10_busy hE (e1692 hE) hrc2 hrs2 hR2) is2 (sub_app hi2) hn2 rfl hl.1 rfl (lv_room (Nat.le_of_ble_eq_true rfl)) dL_law_2393 ⟨by rw [rm_c]; omega, by rw [rm_s]; omega⟩) hP hD hS hA is2 [24] (sub_app hi2) rfl (by decide) (fun i hi h => absurd (hd2 i h) (by rw [List.mem_singleton.mp hi]; decide)) (fun u2 H locs hP hD hS => ?_)
  refine lv_istore (lv' := [(7, .int r2), (6, .int 0), (5, .int 0), (4, .ref qd), (3, .ref qo), (2, .ref qm), (1, .ref qx), (0, .ref b)]) hx hb dL_law_2396 hl (by decide) rfl (fun ls hl => ?_)
  refine lv_aload_n hx hb dL_law_2398 rfl (lv_at hl 5 rfl) ?_
  refine g_i (wr := [(qo, .inl (g.2 1, 1, .inr (.inl f)))]) (rV (rest := []) hx hb hml hown hE hP hD 1 rfl rfl (h_thrown l g qm fs2 T hT H.size) (kV_X10_thrown hE (e1412 hE) rfl rfl ⟨(Nat.le_of_ble_eq_true rfl), (Nat.le_of_ble_eq_true rfl)⟩) [1] rfl (by decide) rfl hl.1 rfl (lv_room (Nat.le_of_ble_eq_true rfl)) dL_law_2399 ⟨by rw [rm_c]; omega, by rw [rm_s]; omega⟩) hP hD hS hA [1] [0] rfl rfl (by decide) (by decide) (fun u3 H locs hP hD hS => ?_)
  refine lv_iload hx hb dL_law_2402 (lv_at hl 1 rfl) ?_
  refine lv_icmp_eq (tgt := 2409) hx hb dL_law_2404 (by decide) (fun _ => ?_) (fun h => absurd hTK h)
  refine lv_iload hx hb dL_law_2409 (lv_at hl 1 rfl) ?_
  refine lv_if_ne (tgt := 2426) hx hb dL_law_2411 (by decide) (fun h => absurd h (by decide)) (fun _ => ?_)
  refine lv_aload_n hx hb dL_law_2414 rfl (lv_at hl 4 rfl) ?_
  refine lv_iconst (v := 0) hx hb dL_law_2415 (by decide) ?_
  refine x_lald (v := B) hx hb hE hP 0 rfl 0 (x_in (by decide)) (by decide) hB dL_law_2416 ?_
  refine lv_iload hx hb dL_law_2417 (lv_at hl 0 rfl) ?_
  refine lv_i2l (v := B) hx hb dL_law_2419 hrB ?_
  refine x_lcmp hx hb dL_law_2420 ?_
  refine lv_if_eq (tgt := 2426) hx hb dL_law_2421 (by decide) (fun _ => ?_) (fun h => absurd rfl h)
  refine lv_goto (tgt := 2958) hx hb dL_law_2426 (by decide) ?_
  exact lw_end C hS (lv_sub hl [2, 7] rfl) (by omega) (by omega)

set_option maxHeartbeats 4000000 in
set_option maxRecDepth 100000 in
theorem lo0_count (C : L0 p l s m meth c b 6 xs g) (hP : va_P g.1 vwCl (WL g qx u qm v qo qd) H) (hD : va_D (LA s) (WL g qx u qm v qo qd)) (hS : va_S (LA s) s.heap H locs) (hl : lv_has ls 9 [(5, .int 0), (4, .ref qd), (3, .ref qo), (2, .ref qm), (1, .ref qx), (0, .ref b)]) {a1 : Int32} (x1 : xs 1 = a1) {ws1 ws2 : va_W} {rm1 rm2 : Room} {mc1 ms1 mc2 ms2 : Nat} {fs2 : List Value} {f : Nat → Int64} {r2 T : Int32} {B : Int64} (hTK : T = 0) (hB : f 0 = B) (hrB : r2.toInt64 = B) (hT : fs2[6]? = some (.int T)) (is1 : List Nat) (hi1 : is1.map (fun i => (WL g qx u qm v qo qd)[i]?) = ws1.map some) (hn1 : va_nd is1 = true) (hd1 : ∀ i ∈ [48, 49, 50, 51, 52, 53, 54, 55, 56, 57, 58, 59, 60, 61, 62, 63, 64, 65, 66, 67, 68, 69, 70, 71], i ∉ is1) (M1 : ∀ sz, Met l yL_count [Cond.codeWith yL_count cL_count 4 (some .int) [(0, 9, 12, 15)]] rm1 (va_Pc [.ref qx, .int a1, .ref qo] (PZ g sz ws1)) (QI g ws1 sz 0 (fun _ => [(qo, .inl (g.2 1, 1, .inr (.inl f)))])) mc1 ms1 (va_A ws1 sz)) (hrc1 : rm1.cells = mc1) (hrs1 : rm1.slots = ms1) (hR1 : rm1.frames + 1 ≤ room_1.frames ∧ 8 + (4 + 11) + rm1.locals ≤ room_1.locals) (hc1 : mc1 ≤ 100000 ∧ ms1 ≤ 1000000) (is2 : List Nat) (hi2 : is2.map (fun i => (WM g qm v)[i]?) = ws2.map some) (hn2 : va_nd is2 = true) (hd2 : ∀ i ∈ is2, i < 24) (M2 : ∀ sz, Met l yX10_count [Cond.code yX10_count cX10_count 6 (some .int)] rm2 (va_Pc [.ref qm, .int a1] (PX g sz ws2)) (QI g ws2 sz r2 (fun _ => [(qm, .inr (12, fs2))])) mc2 ms2 (va_A ws2 sz)) (hrc2 : rm2.cells = mc2) (hrs2 : rm2.slots = ms2) (hR2 : rm2.frames + 1 ≤ room_1.frames ∧ 8 + (6 + 11) + rm2.locals ≤ room_1.locals) (hc2 : mc2 ≤ 100000 ∧ ms2 ≤ 1000000) : W p l e room_1 s m #[Value.ref b] below meth c H locs 146 20899 (lw_Z below #[Value.ref b] s) (F0 m 1085 ls []) := by
  have hx := C.hx
  have hb := C.hb
  have hml := C.hml
  have hown := C.hown
  have hE := C.hE
  have hz := C.hz
  have hA : ∀ q, s.heap.size ≤ q → LA s q := LA_new
  refine lv_aload_n hx hb dL_law_1085 rfl (lv_at hl 4 rfl) ?_
  refine lv_aload_n hx hb dL_law_1086 rfl (lv_at hl 5 rfl) ?_
  refine lv_iload hx hb dL_law_1087 (lv_at hl 0 rfl) ?_
  refine lv_iconst (v := 1) hx hb dL_law_1089 (by decide) ?_
  refine x_iadd (v := 1) hx hb dL_law_1090 (by decide) ?_
  refine x_sld (z := a1) hx hb C.hX C.hbl C.hbA hS (x_in (by decide)) (k := 1) (by decide) x1 dL_law_1091 ?_
  refine lv_aload_n hx hb dL_law_1092 rfl (lv_at hl 2 rfl) ?_
  refine g_i (wr := WM g qm v) (rSW (rest := []) hx hb hml hown hE hP hD hS hA hz (M1 H.size) (kSW_L_count hE (e849 hE) hrc1 hrs1 hR1) is1 hi1 hn1 rfl hl.1 rfl (lv_room (Nat.le_of_ble_eq_true rfl)) dL_law_1093 ⟨by rw [rm_c]; omega, by rw [rm_s]; omega⟩) hP hD hS hA is1 [48, 49, 50, 51, 52, 53, 54, 55, 56, 57, 58, 59, 60, 61, 62, 63, 64, 65, 66, 67, 68, 69, 70, 71] hi1 rfl (by decide) hd1 (fun u1 H locs hP hD hS => ?_)
  refine lv_istore (lv' := [(6, .int 0), (5, .int 0), (4, .ref qd), (3, .ref qo), (2, .ref qm), (1, .ref qx), (0, .ref b)]) hx hb dL_law_1096 hl (by decide) rfl (fun ls hl => ?_)
  refine lv_aload_n hx hb dL_law_1098 rfl (lv_at hl 4 rfl) ?_
  refine lv_aload_n hx hb dL_law_1099 rfl (lv_at hl 6 rfl) ?_
  refine lv_iload hx hb dL_law_1100 (lv_at hl 1 rfl) ?_
  refine lv_iconst (v := 1) hx hb dL_law_1102 (by decide) ?_
  refine x_iadd (v := 1) hx hb dL_law_1103 (by decide) ?_
  refine x_sld (z := a1) hx hb C.hX C.hbl C.hbA hS (x_in (by decide)) (k := 1) (by decide) x1 dL_law_1104 ?_
  refine g_i (wr := [(qo, .inl (g.2 1, 1, .inr (.inl f)))]) (rV (rest := []) hx hb hml hown hE hP hD 23 rfl rfl (M2 H.size) (kV_X10_count hE (e1539 hE) hrc2 hrs2 hR2) is2 (sub_app hi2) hn2 rfl hl.1 rfl (lv_room (Nat.le_of_ble_eq_true rfl)) dL_law_1105 ⟨by rw [rm_c]; omega, by rw [rm_s]; omega⟩) hP hD hS hA is2 [24] (sub_app hi2) rfl (by decide) (fun i hi h => absurd (hd2 i h) (by rw [List.mem_singleton.mp hi]; decide)) (fun u2 H locs hP hD hS => ?_)
  refine lv_istore (lv' := [(7, .int r2), (6, .int 0), (5, .int 0), (4, .ref qd), (3, .ref qo), (2, .ref qm), (1, .ref qx), (0, .ref b)]) hx hb dL_law_1108 hl (by decide) rfl (fun ls hl => ?_)
  refine lv_aload_n hx hb dL_law_1110 rfl (lv_at hl 5 rfl) ?_
  refine g_i (wr := [(qo, .inl (g.2 1, 1, .inr (.inl f)))]) (rV (rest := []) hx hb hml hown hE hP hD 1 rfl rfl (h_thrown l g qm fs2 T hT H.size) (kV_X10_thrown hE (e1412 hE) rfl rfl ⟨(Nat.le_of_ble_eq_true rfl), (Nat.le_of_ble_eq_true rfl)⟩) [1] rfl (by decide) rfl hl.1 rfl (lv_room (Nat.le_of_ble_eq_true rfl)) dL_law_1111 ⟨by rw [rm_c]; omega, by rw [rm_s]; omega⟩) hP hD hS hA [1] [0] rfl rfl (by decide) (by decide) (fun u3 H locs hP hD hS => ?_)
  refine lv_iload hx hb dL_law_1114 (lv_at hl 1 rfl) ?_
  refine lv_icmp_eq (tgt := 1121) hx hb dL_law_1116 (by decide) (fun _ => ?_) (fun h => absurd hTK h)
  refine lv_iload hx hb dL_law_1121 (lv_at hl 1 rfl) ?_
  refine lv_if_ne (tgt := 1138) hx hb dL_law_1123 (by decide) (fun h => absurd h (by decide)) (fun _ => ?_)
  refine lv_aload_n hx hb dL_law_1126 rfl (lv_at hl 4 rfl) ?_
  refine lv_iconst (v := 0) hx hb dL_law_1127 (by decide) ?_
  refine x_lald (v := B) hx hb hE hP 0 rfl 0 (x_in (by decide)) (by decide) hB dL_law_1128 ?_
  refine lv_iload hx hb dL_law_1129 (lv_at hl 0 rfl) ?_
  refine lv_i2l (v := B) hx hb dL_law_1131 hrB ?_
  refine x_lcmp hx hb dL_law_1132 ?_
  refine lv_if_eq (tgt := 1138) hx hb dL_law_1133 (by decide) (fun _ => ?_) (fun h => absurd rfl h)
  refine lv_goto (tgt := 2958) hx hb dL_law_1138 (by decide) ?_
  exact lw_end C hS (lv_sub hl [2, 7] rfl) (by omega) (by omega)

set_option maxHeartbeats 4000000 in
set_option maxRecDepth 100000 in
theorem lo0_describe (C : L0 p l s m meth c b 6 xs g) (hP : va_P g.1 vwCl (WL g qx u qm v qo qd) H) (hD : va_D (LA s) (WL g qx u qm v qo qd)) (hS : va_S (LA s) s.heap H locs) (hl : lv_has ls 9 [(5, .int 0), (4, .ref qd), (3, .ref qo), (2, .ref qm), (1, .ref qx), (0, .ref b)]) {a1 a2 : Int32} (x1 : xs 1 = a1) (x2 : xs 2 = a2) {ws1 ws2 : va_W} {rm1 rm2 : Room} {mc1 ms1 mc2 ms2 : Nat} {fs2 : List Value} {f : Nat → Int64} {r2 T : Int32} {B : Int64} (hTK : T = 0) (hB : f 0 = B) (hrB : r2.toInt64 = B) (hT : fs2[6]? = some (.int T)) (is1 : List Nat) (hi1 : is1.map (fun i => (WL g qx u qm v qo qd)[i]?) = ws1.map some) (hn1 : va_nd is1 = true) (hd1 : ∀ i ∈ [48, 49, 50, 51, 52, 53, 54, 55, 56, 57, 58, 59, 60, 61, 62, 63, 64, 65, 66, 67, 68, 69, 70, 71], i ∉ is1) (M1 : ∀ sz, Met l yL_describe [Cond.codeWith yL_describe cL_describe 5 (some .int) [(0, 10, 13, 13), (0, 10, 17, 39)]] rm1 (va_Pc [.ref qx, .int a1, .int a2, .ref qo] (PZ g sz ws1)) (QI g ws1 sz 0 (fun _ => [(qo, .inl (g.2 1, 1, .inr (.inl f)))])) mc1 ms1 (va_A ws1 sz)) (hrc1 : rm1.cells = mc1) (hrs1 : rm1.slots = ms1) (hR1 : rm1.frames + 1 ≤ room_1.frames ∧ 8 + (5 + 11) + rm1.locals ≤ room_1.locals) (hc1 : mc1 ≤ 100000 ∧ ms1 ≤ 1000000) (is2 : List Nat) (hi2 : is2.map (fun i => (WM g qm v)[i]?) = ws2.map some) (hn2 : va_nd is2 = true) (hd2 : ∀ i ∈ is2, i < 24) (M2 : ∀ sz, Met l yX10_describe [Cond.code yX10_describe cX10_describe 4 (some .int)] rm2 (va_Pc [.ref qm, .int a1, .int a2] (PX g sz ws2)) (QI g ws2 sz r2 (fun _ => [(qm, .inr (12, fs2))])) mc2 ms2 (va_A ws2 sz)) (hrc2 : rm2.cells = mc2) (hrs2 : rm2.slots = ms2) (hR2 : rm2.frames + 1 ≤ room_1.frames ∧ 8 + (4 + 11) + rm2.locals ≤ room_1.locals) (hc2 : mc2 ≤ 100000 ∧ ms2 ≤ 1000000) : W p l e room_1 s m #[Value.ref b] below meth c H locs 146 20899 (lw_Z below #[Value.ref b] s) (F0 m 2789 ls []) := by
  have hx := C.hx
  have hb := C.hb
  have hml := C.hml
  have hown := C.hown
  have hE := C.hE
  have hz := C.hz
  have hA : ∀ q, s.heap.size ≤ q → LA s q := LA_new
  refine lv_aload_n hx hb dL_law_2789 rfl (lv_at hl 4 rfl) ?_
  refine lv_aload_n hx hb dL_law_2790 rfl (lv_at hl 5 rfl) ?_
  refine lv_iload hx hb dL_law_2791 (lv_at hl 0 rfl) ?_
  refine lv_iconst (v := 1) hx hb dL_law_2793 (by decide) ?_
  refine x_iadd (v := 1) hx hb dL_law_2794 (by decide) ?_
  refine x_sld (z := a1) hx hb C.hX C.hbl C.hbA hS (x_in (by decide)) (k := 1) (by decide) x1 dL_law_2795 ?_
  refine lv_aload_n hx hb dL_law_2796 rfl (lv_at hl 5 rfl) ?_
  refine lv_iload hx hb dL_law_2797 (lv_at hl 0 rfl) ?_
  refine lv_iconst (v := 2) hx hb dL_law_2799 (by decide) ?_
  refine x_iadd (v := 2) hx hb dL_law_2800 (by decide) ?_
  refine x_sld (z := a2) hx hb C.hX C.hbl C.hbA hS (x_in (by decide)) (k := 2) (by decide) x2 dL_law_2801 ?_
  refine lv_aload_n hx hb dL_law_2802 rfl (lv_at hl 2 rfl) ?_
  refine g_i (wr := WM g qm v) (rSW (rest := []) hx hb hml hown hE hP hD hS hA hz (M1 H.size) (kSW_L_describe hE (e1242 hE) hrc1 hrs1 hR1) is1 hi1 hn1 rfl hl.1 rfl (lv_room (Nat.le_of_ble_eq_true rfl)) dL_law_2803 ⟨by rw [rm_c]; omega, by rw [rm_s]; omega⟩) hP hD hS hA is1 [48, 49, 50, 51, 52, 53, 54, 55, 56, 57, 58, 59, 60, 61, 62, 63, 64, 65, 66, 67, 68, 69, 70, 71] hi1 rfl (by decide) hd1 (fun u1 H locs hP hD hS => ?_)
  refine lv_istore (lv' := [(6, .int 0), (5, .int 0), (4, .ref qd), (3, .ref qo), (2, .ref qm), (1, .ref qx), (0, .ref b)]) hx hb dL_law_2806 hl (by decide) rfl (fun ls hl => ?_)
  refine lv_aload_n hx hb dL_law_2808 rfl (lv_at hl 4 rfl) ?_
  refine lv_aload_n hx hb dL_law_2809 rfl (lv_at hl 6 rfl) ?_
  refine lv_iload hx hb dL_law_2810 (lv_at hl 1 rfl) ?_
  refine lv_iconst (v := 1) hx hb dL_law_2812 (by decide) ?_
  refine x_iadd (v := 1) hx hb dL_law_2813 (by decide) ?_
  refine x_sld (z := a1) hx hb C.hX C.hbl C.hbA hS (x_in (by decide)) (k := 1) (by decide) x1 dL_law_2814 ?_
  refine lv_aload_n hx hb dL_law_2815 rfl (lv_at hl 6 rfl) ?_
  refine lv_iload hx hb dL_law_2816 (lv_at hl 1 rfl) ?_
  refine lv_iconst (v := 2) hx hb dL_law_2818 (by decide) ?_
  refine x_iadd (v := 2) hx hb dL_law_2819 (by decide) ?_
  refine x_sld (z := a2) hx hb C.hX C.hbl C.hbA hS (x_in (by decide)) (k := 2) (by decide) x2 dL_law_2820 ?_
  refine g_i (wr := [(qo, .inl (g.2 1, 1, .inr (.inl f)))]) (rV (rest := []) hx hb hml hown hE hP hD 23 rfl rfl (M2 H.size) (kV_X10_describe hE (e1756 hE) hrc2 hrs2 hR2) is2 (sub_app hi2) hn2 rfl hl.1 rfl (lv_room (Nat.le_of_ble_eq_true rfl)) dL_law_2821 ⟨by rw [rm_c]; omega, by rw [rm_s]; omega⟩) hP hD hS hA is2 [24] (sub_app hi2) rfl (by decide) (fun i hi h => absurd (hd2 i h) (by rw [List.mem_singleton.mp hi]; decide)) (fun u2 H locs hP hD hS => ?_)
  refine lv_istore (lv' := [(7, .int r2), (6, .int 0), (5, .int 0), (4, .ref qd), (3, .ref qo), (2, .ref qm), (1, .ref qx), (0, .ref b)]) hx hb dL_law_2824 hl (by decide) rfl (fun ls hl => ?_)
  refine lv_aload_n hx hb dL_law_2826 rfl (lv_at hl 5 rfl) ?_
  refine g_i (wr := [(qo, .inl (g.2 1, 1, .inr (.inl f)))]) (rV (rest := []) hx hb hml hown hE hP hD 1 rfl rfl (h_thrown l g qm fs2 T hT H.size) (kV_X10_thrown hE (e1412 hE) rfl rfl ⟨(Nat.le_of_ble_eq_true rfl), (Nat.le_of_ble_eq_true rfl)⟩) [1] rfl (by decide) rfl hl.1 rfl (lv_room (Nat.le_of_ble_eq_true rfl)) dL_law_2827 ⟨by rw [rm_c]; omega, by rw [rm_s]; omega⟩) hP hD hS hA [1] [0] rfl rfl (by decide) (by decide) (fun u3 H locs hP hD hS => ?_)
  refine lv_iload hx hb dL_law_2830 (lv_at hl 1 rfl) ?_
  refine lv_icmp_eq (tgt := 2837) hx hb dL_law_2832 (by decide) (fun _ => ?_) (fun h => absurd hTK h)
  refine lv_iload hx hb dL_law_2837 (lv_at hl 1 rfl) ?_
  refine lv_if_ne (tgt := 2854) hx hb dL_law_2839 (by decide) (fun h => absurd h (by decide)) (fun _ => ?_)
  refine lv_aload_n hx hb dL_law_2842 rfl (lv_at hl 4 rfl) ?_
  refine lv_iconst (v := 0) hx hb dL_law_2843 (by decide) ?_
  refine x_lald (v := B) hx hb hE hP 0 rfl 0 (x_in (by decide)) (by decide) hB dL_law_2844 ?_
  refine lv_iload hx hb dL_law_2845 (lv_at hl 0 rfl) ?_
  refine lv_i2l (v := B) hx hb dL_law_2847 hrB ?_
  refine x_lcmp hx hb dL_law_2848 ?_
  refine lv_if_eq (tgt := 2854) hx hb dL_law_2849 (by decide) (fun _ => ?_) (fun h => absurd rfl h)
  refine lv_goto (tgt := 2958) hx hb dL_law_2854 (by decide) ?_
  exact lw_end C hS (lv_sub hl [2, 7] rfl) (by omega) (by omega)

set_option maxHeartbeats 4000000 in
set_option maxRecDepth 100000 in
theorem lo0_instrument (C : L0 p l s m meth c b 6 xs g) (hP : va_P g.1 vwCl (WL g qx u qm v qo qd) H) (hD : va_D (LA s) (WL g qx u qm v qo qd)) (hS : va_S (LA s) s.heap H locs) (hl : lv_has ls 9 [(5, .int 0), (4, .ref qd), (3, .ref qo), (2, .ref qm), (1, .ref qx), (0, .ref b)]) {a1 a2 : Int32} (x1 : xs 1 = a1) (x2 : xs 2 = a2) {ws1 ws2 : va_W} {rm1 rm2 : Room} {mc1 ms1 mc2 ms2 : Nat} {fs2 : List Value} {f : Nat → Int64} {r2 T : Int32} {B : Int64} (hTK : T = 0) (hB : f 0 = B) (hrB : r2.toInt64 = B) (hT : fs2[6]? = some (.int T)) (is1 : List Nat) (hi1 : is1.map (fun i => (WL g qx u qm v qo qd)[i]?) = ws1.map some) (hn1 : va_nd is1 = true) (hd1 : ∀ i ∈ [48, 49, 50, 51, 52, 53, 54, 55, 56, 57, 58, 59, 60, 61, 62, 63, 64, 65, 66, 67, 68, 69, 70, 71], i ∉ is1) (M1 : ∀ sz, Met l yL_instrument [Cond.codeWith yL_instrument cL_instrument 5 (some .int) [(0, 10, 13, 13), (0, 10, 17, 15)]] rm1 (va_Pc [.ref qx, .int a1, .int a2, .ref qo] (PZ g sz ws1)) (QI g ws1 sz 0 (fun _ => [(qo, .inl (g.2 1, 1, .inr (.inl f)))])) mc1 ms1 (va_A ws1 sz)) (hrc1 : rm1.cells = mc1) (hrs1 : rm1.slots = ms1) (hR1 : rm1.frames + 1 ≤ room_1.frames ∧ 8 + (5 + 11) + rm1.locals ≤ room_1.locals) (hc1 : mc1 ≤ 100000 ∧ ms1 ≤ 1000000) (is2 : List Nat) (hi2 : is2.map (fun i => (WM g qm v)[i]?) = ws2.map some) (hn2 : va_nd is2 = true) (hd2 : ∀ i ∈ is2, i < 24) (M2 : ∀ sz, Met l yX10_instrument [Cond.code yX10_instrument cX10_instrument 5 (some .int)] rm2 (va_Pc [.ref qm, .int a1, .int a2] (PX g sz ws2)) (QI g ws2 sz r2 (fun _ => [(qm, .inr (12, fs2))])) mc2 ms2 (va_A ws2 sz)) (hrc2 : rm2.cells = mc2) (hrs2 : rm2.slots = ms2) (hR2 : rm2.frames + 1 ≤ room_1.frames ∧ 8 + (5 + 11) + rm2.locals ≤ room_1.locals) (hc2 : mc2 ≤ 100000 ∧ ms2 ≤ 1000000) : W p l e room_1 s m #[Value.ref b] below meth c H locs 146 20899 (lw_Z below #[Value.ref b] s) (F0 m 1932 ls []) := by
  have hx := C.hx
  have hb := C.hb
  have hml := C.hml
  have hown := C.hown
  have hE := C.hE
  have hz := C.hz
  have hA : ∀ q, s.heap.size ≤ q → LA s q := LA_new
  refine lv_aload_n hx hb dL_law_1932 rfl (lv_at hl 4 rfl) ?_
  refine lv_aload_n hx hb dL_law_1933 rfl (lv_at hl 5 rfl) ?_
  refine lv_iload hx hb dL_law_1934 (lv_at hl 0 rfl) ?_
  refine lv_iconst (v := 1) hx hb dL_law_1936 (by decide) ?_
  refine x_iadd (v := 1) hx hb dL_law_1937 (by decide) ?_
  refine x_sld (z := a1) hx hb C.hX C.hbl C.hbA hS (x_in (by decide)) (k := 1) (by decide) x1 dL_law_1938 ?_
  refine lv_aload_n hx hb dL_law_1939 rfl (lv_at hl 5 rfl) ?_
  refine lv_iload hx hb dL_law_1940 (lv_at hl 0 rfl) ?_
  refine lv_iconst (v := 2) hx hb dL_law_1942 (by decide) ?_
  refine x_iadd (v := 2) hx hb dL_law_1943 (by decide) ?_
  refine x_sld (z := a2) hx hb C.hX C.hbl C.hbA hS (x_in (by decide)) (k := 2) (by decide) x2 dL_law_1944 ?_
  refine lv_aload_n hx hb dL_law_1945 rfl (lv_at hl 2 rfl) ?_
  refine g_i (wr := WM g qm v) (rSW (rest := []) hx hb hml hown hE hP hD hS hA hz (M1 H.size) (kSW_L_instrument hE (e1012 hE) hrc1 hrs1 hR1) is1 hi1 hn1 rfl hl.1 rfl (lv_room (Nat.le_of_ble_eq_true rfl)) dL_law_1946 ⟨by rw [rm_c]; omega, by rw [rm_s]; omega⟩) hP hD hS hA is1 [48, 49, 50, 51, 52, 53, 54, 55, 56, 57, 58, 59, 60, 61, 62, 63, 64, 65, 66, 67, 68, 69, 70, 71] hi1 rfl (by decide) hd1 (fun u1 H locs hP hD hS => ?_)
  refine lv_istore (lv' := [(6, .int 0), (5, .int 0), (4, .ref qd), (3, .ref qo), (2, .ref qm), (1, .ref qx), (0, .ref b)]) hx hb dL_law_1949 hl (by decide) rfl (fun ls hl => ?_)
  refine lv_aload_n hx hb dL_law_1951 rfl (lv_at hl 4 rfl) ?_
  refine lv_aload_n hx hb dL_law_1952 rfl (lv_at hl 6 rfl) ?_
  refine lv_iload hx hb dL_law_1953 (lv_at hl 1 rfl) ?_
  refine lv_iconst (v := 1) hx hb dL_law_1955 (by decide) ?_
  refine x_iadd (v := 1) hx hb dL_law_1956 (by decide) ?_
  refine x_sld (z := a1) hx hb C.hX C.hbl C.hbA hS (x_in (by decide)) (k := 1) (by decide) x1 dL_law_1957 ?_
  refine lv_aload_n hx hb dL_law_1958 rfl (lv_at hl 6 rfl) ?_
  refine lv_iload hx hb dL_law_1959 (lv_at hl 1 rfl) ?_
  refine lv_iconst (v := 2) hx hb dL_law_1961 (by decide) ?_
  refine x_iadd (v := 2) hx hb dL_law_1962 (by decide) ?_
  refine x_sld (z := a2) hx hb C.hX C.hbl C.hbA hS (x_in (by decide)) (k := 2) (by decide) x2 dL_law_1963 ?_
  refine g_i (wr := [(qo, .inl (g.2 1, 1, .inr (.inl f)))]) (rV (rest := []) hx hb hml hown hE hP hD 23 rfl rfl (M2 H.size) (kV_X10_instrument hE (e1652 hE) hrc2 hrs2 hR2) is2 (sub_app hi2) hn2 rfl hl.1 rfl (lv_room (Nat.le_of_ble_eq_true rfl)) dL_law_1964 ⟨by rw [rm_c]; omega, by rw [rm_s]; omega⟩) hP hD hS hA is2 [24] (sub_app hi2) rfl (by decide) (fun i hi h => absurd (hd2 i h) (by rw [List.mem_singleton.mp hi]; decide)) (fun u2 H locs hP hD hS => ?_)
  refine lv_istore (lv' := [(7, .int r2), (6, .int 0), (5, .int 0), (4, .ref qd), (3, .ref qo), (2, .ref qm), (1, .ref qx), (0, .ref b)]) hx hb dL_law_1967 hl (by decide) rfl (fun ls hl => ?_)
  refine lv_aload_n hx hb dL_law_1969 rfl (lv_at hl 5 rfl) ?_
  refine g_i (wr := [(qo, .inl (g.2 1, 1, .inr (.inl f)))]) (rV (rest := []) hx hb hml hown hE hP hD 1 rfl rfl (h_thrown l g qm fs2 T hT H.size) (kV_X10_thrown hE (e1412 hE) rfl rfl ⟨(Nat.le_of_ble_eq_true rfl), (Nat.le_of_ble_eq_true rfl)⟩) [1] rfl (by decide) rfl hl.1 rfl (lv_room (Nat.le_of_ble_eq_true rfl)) dL_law_1970 ⟨by rw [rm_c]; omega, by rw [rm_s]; omega⟩) hP hD hS hA [1] [0] rfl rfl (by decide) (by decide) (fun u3 H locs hP hD hS => ?_)
  refine lv_iload hx hb dL_law_1973 (lv_at hl 1 rfl) ?_
  refine lv_icmp_eq (tgt := 1980) hx hb dL_law_1975 (by decide) (fun _ => ?_) (fun h => absurd hTK h)
  refine lv_iload hx hb dL_law_1980 (lv_at hl 1 rfl) ?_
  refine lv_if_ne (tgt := 1997) hx hb dL_law_1982 (by decide) (fun h => absurd h (by decide)) (fun _ => ?_)
  refine lv_aload_n hx hb dL_law_1985 rfl (lv_at hl 4 rfl) ?_
  refine lv_iconst (v := 0) hx hb dL_law_1986 (by decide) ?_
  refine x_lald (v := B) hx hb hE hP 0 rfl 0 (x_in (by decide)) (by decide) hB dL_law_1987 ?_
  refine lv_iload hx hb dL_law_1988 (lv_at hl 0 rfl) ?_
  refine lv_i2l (v := B) hx hb dL_law_1990 hrB ?_
  refine x_lcmp hx hb dL_law_1991 ?_
  refine lv_if_eq (tgt := 1997) hx hb dL_law_1992 (by decide) (fun _ => ?_) (fun h => absurd rfl h)
  refine lv_goto (tgt := 2958) hx hb dL_law_1997 (by decide) ?_
  exact lw_end C hS (lv_sub hl [2, 7] rfl) (by omega) (by omega)

set_option maxHeartbeats 4000000 in
set_option maxRecDepth 100000 in
theorem lo0_mix (C : L0 p l s m meth c b 6 xs g) (hP : va_P g.1 vwCl (WL g qx u qm v qo qd) H) (hD : va_D (LA s) (WL g qx u qm v qo qd)) (hS : va_S (LA s) s.heap H locs) (hl : lv_has ls 9 [(5, .int 0), (4, .ref qd), (3, .ref qo), (2, .ref qm), (1, .ref qx), (0, .ref b)]) {a1 : Int32} (x1 : xs 1 = a1) {ws1 ws2 : va_W} {rm1 rm2 : Room} {mc1 ms1 mc2 ms2 : Nat} {fs2 : List Value} {f : Nat → Int64} {r2 T : Int32} {B : Int64} (hTK : T = 0) (hB : f 0 = B) (hrB : r2.toInt64 = B) (hT : fs2[6]? = some (.int T)) (is1 : List Nat) (hi1 : is1.map (fun i => (WL g qx u qm v qo qd)[i]?) = ws1.map some) (hn1 : va_nd is1 = true) (hd1 : ∀ i ∈ [48, 49, 50, 51, 52, 53, 54, 55, 56, 57, 58, 59, 60, 61, 62, 63, 64, 65, 66, 67, 68, 69, 70, 71], i ∉ is1) (M1 : ∀ sz, Met l yL_mix [Cond.codeWith yL_mix cL_mix 4 (some .int) [(0, 9, 12, 15)]] rm1 (va_Pc [.ref qx, .int a1, .ref qo] (PZ g sz ws1)) (QI g ws1 sz 0 (fun _ => [(qo, .inl (g.2 1, 1, .inr (.inl f)))])) mc1 ms1 (va_A ws1 sz)) (hrc1 : rm1.cells = mc1) (hrs1 : rm1.slots = ms1) (hR1 : rm1.frames + 1 ≤ room_1.frames ∧ 8 + (4 + 11) + rm1.locals ≤ room_1.locals) (hc1 : mc1 ≤ 100000 ∧ ms1 ≤ 1000000) (is2 : List Nat) (hi2 : is2.map (fun i => (WM g qm v)[i]?) = ws2.map some) (hn2 : va_nd is2 = true) (hd2 : ∀ i ∈ is2, i < 24) (M2 : ∀ sz, Met l yX10_mix [Cond.code yX10_mix cX10_mix 4 (some .int)] rm2 (va_Pc [.ref qm, .int a1] (PX g sz ws2)) (QI g ws2 sz r2 (fun _ => [(qm, .inr (12, fs2))])) mc2 ms2 (va_A ws2 sz)) (hrc2 : rm2.cells = mc2) (hrs2 : rm2.slots = ms2) (hR2 : rm2.frames + 1 ≤ room_1.frames ∧ 8 + (4 + 11) + rm2.locals ≤ room_1.locals) (hc2 : mc2 ≤ 100000 ∧ ms2 ≤ 1000000) : W p l e room_1 s m #[Value.ref b] below meth c H locs 146 20899 (lw_Z below #[Value.ref b] s) (F0 m 2180 ls []) := by
  have hx := C.hx
  have hb := C.hb
  have hml := C.hml
  have hown := C.hown
  have hE := C.hE
  have hz := C.hz
  have hA : ∀ q, s.heap.size ≤ q → LA s q := LA_new
  refine lv_aload_n hx hb dL_law_2180 rfl (lv_at hl 4 rfl) ?_
  refine lv_aload_n hx hb dL_law_2181 rfl (lv_at hl 5 rfl) ?_
  refine lv_iload hx hb dL_law_2182 (lv_at hl 0 rfl) ?_
  refine lv_iconst (v := 1) hx hb dL_law_2184 (by decide) ?_
  refine x_iadd (v := 1) hx hb dL_law_2185 (by decide) ?_
  refine x_sld (z := a1) hx hb C.hX C.hbl C.hbA hS (x_in (by decide)) (k := 1) (by decide) x1 dL_law_2186 ?_
  refine lv_aload_n hx hb dL_law_2187 rfl (lv_at hl 2 rfl) ?_
  refine g_i (wr := WM g qm v) (rSW (rest := []) hx hb hml hown hE hP hD hS hA hz (M1 H.size) (kSW_L_mix hE (e1045 hE) hrc1 hrs1 hR1) is1 hi1 hn1 rfl hl.1 rfl (lv_room (Nat.le_of_ble_eq_true rfl)) dL_law_2188 ⟨by rw [rm_c]; omega, by rw [rm_s]; omega⟩) hP hD hS hA is1 [48, 49, 50, 51, 52, 53, 54, 55, 56, 57, 58, 59, 60, 61, 62, 63, 64, 65, 66, 67, 68, 69, 70, 71] hi1 rfl (by decide) hd1 (fun u1 H locs hP hD hS => ?_)
  refine lv_istore (lv' := [(6, .int 0), (5, .int 0), (4, .ref qd), (3, .ref qo), (2, .ref qm), (1, .ref qx), (0, .ref b)]) hx hb dL_law_2191 hl (by decide) rfl (fun ls hl => ?_)
  refine lv_aload_n hx hb dL_law_2193 rfl (lv_at hl 4 rfl) ?_
  refine lv_aload_n hx hb dL_law_2194 rfl (lv_at hl 6 rfl) ?_
  refine lv_iload hx hb dL_law_2195 (lv_at hl 1 rfl) ?_
  refine lv_iconst (v := 1) hx hb dL_law_2197 (by decide) ?_
  refine x_iadd (v := 1) hx hb dL_law_2198 (by decide) ?_
  refine x_sld (z := a1) hx hb C.hX C.hbl C.hbA hS (x_in (by decide)) (k := 1) (by decide) x1 dL_law_2199 ?_
  refine g_i (wr := [(qo, .inl (g.2 1, 1, .inr (.inl f)))]) (rV (rest := []) hx hb hml hown hE hP hD 23 rfl rfl (M2 H.size) (kV_X10_mix hE (e1668 hE) hrc2 hrs2 hR2) is2 (sub_app hi2) hn2 rfl hl.1 rfl (lv_room (Nat.le_of_ble_eq_true rfl)) dL_law_2200 ⟨by rw [rm_c]; omega, by rw [rm_s]; omega⟩) hP hD hS hA is2 [24] (sub_app hi2) rfl (by decide) (fun i hi h => absurd (hd2 i h) (by rw [List.mem_singleton.mp hi]; decide)) (fun u2 H locs hP hD hS => ?_)
  refine lv_istore (lv' := [(7, .int r2), (6, .int 0), (5, .int 0), (4, .ref qd), (3, .ref qo), (2, .ref qm), (1, .ref qx), (0, .ref b)]) hx hb dL_law_2203 hl (by decide) rfl (fun ls hl => ?_)
  refine lv_aload_n hx hb dL_law_2205 rfl (lv_at hl 5 rfl) ?_
  refine g_i (wr := [(qo, .inl (g.2 1, 1, .inr (.inl f)))]) (rV (rest := []) hx hb hml hown hE hP hD 1 rfl rfl (h_thrown l g qm fs2 T hT H.size) (kV_X10_thrown hE (e1412 hE) rfl rfl ⟨(Nat.le_of_ble_eq_true rfl), (Nat.le_of_ble_eq_true rfl)⟩) [1] rfl (by decide) rfl hl.1 rfl (lv_room (Nat.le_of_ble_eq_true rfl)) dL_law_2206 ⟨by rw [rm_c]; omega, by rw [rm_s]; omega⟩) hP hD hS hA [1] [0] rfl rfl (by decide) (by decide) (fun u3 H locs hP hD hS => ?_)
  refine lv_iload hx hb dL_law_2209 (lv_at hl 1 rfl) ?_
  refine lv_icmp_eq (tgt := 2216) hx hb dL_law_2211 (by decide) (fun _ => ?_) (fun h => absurd hTK h)
  refine lv_iload hx hb dL_law_2216 (lv_at hl 1 rfl) ?_
  refine lv_if_ne (tgt := 2233) hx hb dL_law_2218 (by decide) (fun h => absurd h (by decide)) (fun _ => ?_)
  refine lv_aload_n hx hb dL_law_2221 rfl (lv_at hl 4 rfl) ?_
  refine lv_iconst (v := 0) hx hb dL_law_2222 (by decide) ?_
  refine x_lald (v := B) hx hb hE hP 0 rfl 0 (x_in (by decide)) (by decide) hB dL_law_2223 ?_
  refine lv_iload hx hb dL_law_2224 (lv_at hl 0 rfl) ?_
  refine lv_i2l (v := B) hx hb dL_law_2226 hrB ?_
  refine x_lcmp hx hb dL_law_2227 ?_
  refine lv_if_eq (tgt := 2233) hx hb dL_law_2228 (by decide) (fun _ => ?_) (fun h => absurd rfl h)
  refine lv_goto (tgt := 2958) hx hb dL_law_2233 (by decide) ?_
  exact lw_end C hS (lv_sub hl [2, 7] rfl) (by omega) (by omega)

set_option maxHeartbeats 4000000 in
set_option maxRecDepth 100000 in
theorem lo0_pattern (C : L0 p l s m meth c b 6 xs g) (hP : va_P g.1 vwCl (WL g qx u qm v qo qd) H) (hD : va_D (LA s) (WL g qx u qm v qo qd)) (hS : va_S (LA s) s.heap H locs) (hl : lv_has ls 9 [(5, .int 0), (4, .ref qd), (3, .ref qo), (2, .ref qm), (1, .ref qx), (0, .ref b)]) {a1 a2 : Int32} (x1 : xs 1 = a1) (x2 : xs 2 = a2) {ws1 ws2 : va_W} {rm1 rm2 : Room} {mc1 ms1 mc2 ms2 : Nat} {fs2 : List Value} {f : Nat → Int64} {r2 T : Int32} {B : Int64} (hTK : T = 0) (hB : f 0 = B) (hrB : r2.toInt64 = B) (hT : fs2[6]? = some (.int T)) (is1 : List Nat) (hi1 : is1.map (fun i => (WL g qx u qm v qo qd)[i]?) = ws1.map some) (hn1 : va_nd is1 = true) (hd1 : ∀ i ∈ [48, 49, 50, 51, 52, 53, 54, 55, 56, 57, 58, 59, 60, 61, 62, 63, 64, 65, 66, 67, 68, 69, 70, 71], i ∉ is1) (M1 : ∀ sz, Met l yL_pattern [Cond.codeWith yL_pattern cL_pattern 5 (some .int) [(0, 10, 13, 13), (0, 10, 17, 15)]] rm1 (va_Pc [.ref qx, .int a1, .int a2, .ref qo] (PZ g sz ws1)) (QI g ws1 sz 0 (fun _ => [(qo, .inl (g.2 1, 1, .inr (.inl f)))])) mc1 ms1 (va_A ws1 sz)) (hrc1 : rm1.cells = mc1) (hrs1 : rm1.slots = ms1) (hR1 : rm1.frames + 1 ≤ room_1.frames ∧ 8 + (5 + 11) + rm1.locals ≤ room_1.locals) (hc1 : mc1 ≤ 100000 ∧ ms1 ≤ 1000000) (is2 : List Nat) (hi2 : is2.map (fun i => (WM g qm v)[i]?) = ws2.map some) (hn2 : va_nd is2 = true) (hd2 : ∀ i ∈ is2, i < 24) (M2 : ∀ sz, Met l yX10_pattern [Cond.code yX10_pattern cX10_pattern 3 (some .int)] rm2 (va_Pc [.ref qm, .int a1, .int a2] (PX g sz ws2)) (QI g ws2 sz r2 (fun _ => [(qm, .inr (12, fs2))])) mc2 ms2 (va_A ws2 sz)) (hrc2 : rm2.cells = mc2) (hrs2 : rm2.slots = ms2) (hR2 : rm2.frames + 1 ≤ room_1.frames ∧ 8 + (3 + 11) + rm2.locals ≤ room_1.locals) (hc2 : mc2 ≤ 100000 ∧ ms2 ≤ 1000000) : W p l e room_1 s m #[Value.ref b] below meth c H locs 146 20899 (lw_Z below #[Value.ref b] s) (F0 m 561 ls []) := by
  have hx := C.hx
  have hb := C.hb
  have hml := C.hml
  have hown := C.hown
  have hE := C.hE
  have hz := C.hz
  have hA : ∀ q, s.heap.size ≤ q → LA s q := LA_new
  refine lv_aload_n hx hb dL_law_561 rfl (lv_at hl 4 rfl) ?_
  refine lv_aload_n hx hb dL_law_562 rfl (lv_at hl 5 rfl) ?_
  refine lv_iload hx hb dL_law_563 (lv_at hl 0 rfl) ?_
  refine lv_iconst (v := 1) hx hb dL_law_565 (by decide) ?_
  refine x_iadd (v := 1) hx hb dL_law_566 (by decide) ?_
  refine x_sld (z := a1) hx hb C.hX C.hbl C.hbA hS (x_in (by decide)) (k := 1) (by decide) x1 dL_law_567 ?_
  refine lv_aload_n hx hb dL_law_568 rfl (lv_at hl 5 rfl) ?_
  refine lv_iload hx hb dL_law_569 (lv_at hl 0 rfl) ?_
  refine lv_iconst (v := 2) hx hb dL_law_571 (by decide) ?_
  refine x_iadd (v := 2) hx hb dL_law_572 (by decide) ?_
  refine x_sld (z := a2) hx hb C.hX C.hbl C.hbA hS (x_in (by decide)) (k := 2) (by decide) x2 dL_law_573 ?_
  refine lv_aload_n hx hb dL_law_574 rfl (lv_at hl 2 rfl) ?_
  refine g_i (wr := WM g qm v) (rSW (rest := []) hx hb hml hown hE hP hD hS hA hz (M1 H.size) (kSW_L_pattern hE (e759 hE) hrc1 hrs1 hR1) is1 hi1 hn1 rfl hl.1 rfl (lv_room (Nat.le_of_ble_eq_true rfl)) dL_law_575 ⟨by rw [rm_c]; omega, by rw [rm_s]; omega⟩) hP hD hS hA is1 [48, 49, 50, 51, 52, 53, 54, 55, 56, 57, 58, 59, 60, 61, 62, 63, 64, 65, 66, 67, 68, 69, 70, 71] hi1 rfl (by decide) hd1 (fun u1 H locs hP hD hS => ?_)
  refine lv_istore (lv' := [(6, .int 0), (5, .int 0), (4, .ref qd), (3, .ref qo), (2, .ref qm), (1, .ref qx), (0, .ref b)]) hx hb dL_law_578 hl (by decide) rfl (fun ls hl => ?_)
  refine lv_aload_n hx hb dL_law_580 rfl (lv_at hl 4 rfl) ?_
  refine lv_aload_n hx hb dL_law_581 rfl (lv_at hl 6 rfl) ?_
  refine lv_iload hx hb dL_law_582 (lv_at hl 1 rfl) ?_
  refine lv_iconst (v := 1) hx hb dL_law_584 (by decide) ?_
  refine x_iadd (v := 1) hx hb dL_law_585 (by decide) ?_
  refine x_sld (z := a1) hx hb C.hX C.hbl C.hbA hS (x_in (by decide)) (k := 1) (by decide) x1 dL_law_586 ?_
  refine lv_aload_n hx hb dL_law_587 rfl (lv_at hl 6 rfl) ?_
  refine lv_iload hx hb dL_law_588 (lv_at hl 1 rfl) ?_
  refine lv_iconst (v := 2) hx hb dL_law_590 (by decide) ?_
  refine x_iadd (v := 2) hx hb dL_law_591 (by decide) ?_
  refine x_sld (z := a2) hx hb C.hX C.hbl C.hbA hS (x_in (by decide)) (k := 2) (by decide) x2 dL_law_592 ?_
  refine g_i (wr := [(qo, .inl (g.2 1, 1, .inr (.inl f)))]) (rV (rest := []) hx hb hml hown hE hP hD 23 rfl rfl (M2 H.size) (kV_X10_pattern hE (e1498 hE) hrc2 hrs2 hR2) is2 (sub_app hi2) hn2 rfl hl.1 rfl (lv_room (Nat.le_of_ble_eq_true rfl)) dL_law_593 ⟨by rw [rm_c]; omega, by rw [rm_s]; omega⟩) hP hD hS hA is2 [24] (sub_app hi2) rfl (by decide) (fun i hi h => absurd (hd2 i h) (by rw [List.mem_singleton.mp hi]; decide)) (fun u2 H locs hP hD hS => ?_)
  refine lv_istore (lv' := [(7, .int r2), (6, .int 0), (5, .int 0), (4, .ref qd), (3, .ref qo), (2, .ref qm), (1, .ref qx), (0, .ref b)]) hx hb dL_law_596 hl (by decide) rfl (fun ls hl => ?_)
  refine lv_aload_n hx hb dL_law_598 rfl (lv_at hl 5 rfl) ?_
  refine g_i (wr := [(qo, .inl (g.2 1, 1, .inr (.inl f)))]) (rV (rest := []) hx hb hml hown hE hP hD 1 rfl rfl (h_thrown l g qm fs2 T hT H.size) (kV_X10_thrown hE (e1412 hE) rfl rfl ⟨(Nat.le_of_ble_eq_true rfl), (Nat.le_of_ble_eq_true rfl)⟩) [1] rfl (by decide) rfl hl.1 rfl (lv_room (Nat.le_of_ble_eq_true rfl)) dL_law_599 ⟨by rw [rm_c]; omega, by rw [rm_s]; omega⟩) hP hD hS hA [1] [0] rfl rfl (by decide) (by decide) (fun u3 H locs hP hD hS => ?_)
  refine lv_iload hx hb dL_law_602 (lv_at hl 1 rfl) ?_
  refine lv_icmp_eq (tgt := 609) hx hb dL_law_604 (by decide) (fun _ => ?_) (fun h => absurd hTK h)
  refine lv_iload hx hb dL_law_609 (lv_at hl 1 rfl) ?_
  refine lv_if_ne (tgt := 626) hx hb dL_law_611 (by decide) (fun h => absurd h (by decide)) (fun _ => ?_)
  refine lv_aload_n hx hb dL_law_614 rfl (lv_at hl 4 rfl) ?_
  refine lv_iconst (v := 0) hx hb dL_law_615 (by decide) ?_
  refine x_lald (v := B) hx hb hE hP 0 rfl 0 (x_in (by decide)) (by decide) hB dL_law_616 ?_
  refine lv_iload hx hb dL_law_617 (lv_at hl 0 rfl) ?_
  refine lv_i2l (v := B) hx hb dL_law_619 hrB ?_
  refine x_lcmp hx hb dL_law_620 ?_
  refine lv_if_eq (tgt := 626) hx hb dL_law_621 (by decide) (fun _ => ?_) (fun h => absurd rfl h)
  refine lv_goto (tgt := 2958) hx hb dL_law_626 (by decide) ?_
  exact lw_end C hS (lv_sub hl [2, 7] rfl) (by omega) (by omega)

set_option maxHeartbeats 4000000 in
set_option maxRecDepth 100000 in
theorem lo0_place (C : L0 p l s m meth c b 6 xs g) (hP : va_P g.1 vwCl (WL g qx u qm v qo qd) H) (hD : va_D (LA s) (WL g qx u qm v qo qd)) (hS : va_S (LA s) s.heap H locs) (hl : lv_has ls 9 [(5, .int 0), (4, .ref qd), (3, .ref qo), (2, .ref qm), (1, .ref qx), (0, .ref b)]) {a1 : Int32} (x1 : xs 1 = a1) {ws1 ws2 : va_W} {rm1 rm2 : Room} {mc1 ms1 mc2 ms2 : Nat} {fs2 : List Value} {f : Nat → Int64} {r2 T : Int32} {B : Int64} (hTK : T = 0) (hB : f 0 = B) (hrB : r2.toInt64 = B) (hT : fs2[6]? = some (.int T)) (is1 : List Nat) (hi1 : is1.map (fun i => (WL g qx u qm v qo qd)[i]?) = ws1.map some) (hn1 : va_nd is1 = true) (hd1 : ∀ i ∈ [48, 49, 50, 51, 52, 53, 54, 55, 56, 57, 58, 59, 60, 61, 62, 63, 64, 65, 66, 67, 68, 69, 70, 71], i ∉ is1) (M1 : ∀ sz, Met l yL_place [Cond.codeWith yL_place cL_place 4 (some .int) [(0, 9, 12, 39)]] rm1 (va_Pc [.ref qx, .int a1, .ref qo] (PZ g sz ws1)) (QI g ws1 sz 0 (fun _ => [(qo, .inl (g.2 1, 1, .inr (.inl f)))])) mc1 ms1 (va_A ws1 sz)) (hrc1 : rm1.cells = mc1) (hrs1 : rm1.slots = ms1) (hR1 : rm1.frames + 1 ≤ room_1.frames ∧ 8 + (4 + 11) + rm1.locals ≤ room_1.locals) (hc1 : mc1 ≤ 100000 ∧ ms1 ≤ 1000000) (is2 : List Nat) (hi2 : is2.map (fun i => (WM g qm v)[i]?) = ws2.map some) (hn2 : va_nd is2 = true) (hd2 : ∀ i ∈ is2, i < 24) (M2 : ∀ sz, Met l yX10_place [Cond.code yX10_place cX10_place 2 (some .int)] rm2 (va_Pc [.ref qm, .int a1] (PX g sz ws2)) (QI g ws2 sz r2 (fun _ => [(qm, .inr (12, fs2))])) mc2 ms2 (va_A ws2 sz)) (hrc2 : rm2.cells = mc2) (hrs2 : rm2.slots = ms2) (hR2 : rm2.frames + 1 ≤ room_1.frames ∧ 8 + (2 + 11) + rm2.locals ≤ room_1.locals) (hc2 : mc2 ≤ 100000 ∧ ms2 ≤ 1000000) : W p l e room_1 s m #[Value.ref b] below meth c H locs 146 20899 (lw_Z below #[Value.ref b] s) (F0 m 1508 ls []) := by
  have hx := C.hx
  have hb := C.hb
  have hml := C.hml
  have hown := C.hown
  have hE := C.hE
  have hz := C.hz
  have hA : ∀ q, s.heap.size ≤ q → LA s q := LA_new
  refine lv_aload_n hx hb dL_law_1508 rfl (lv_at hl 4 rfl) ?_
  refine lv_aload_n hx hb dL_law_1509 rfl (lv_at hl 5 rfl) ?_
  refine lv_iload hx hb dL_law_1510 (lv_at hl 0 rfl) ?_
  refine lv_iconst (v := 1) hx hb dL_law_1512 (by decide) ?_
  refine x_iadd (v := 1) hx hb dL_law_1513 (by decide) ?_
  refine x_sld (z := a1) hx hb C.hX C.hbl C.hbA hS (x_in (by decide)) (k := 1) (by decide) x1 dL_law_1514 ?_
  refine lv_aload_n hx hb dL_law_1515 rfl (lv_at hl 2 rfl) ?_
  refine g_i (wr := WM g qm v) (rSW (rest := []) hx hb hml hown hE hP hD hS hA hz (M1 H.size) (kSW_L_place hE (e943 hE) hrc1 hrs1 hR1) is1 hi1 hn1 rfl hl.1 rfl (lv_room (Nat.le_of_ble_eq_true rfl)) dL_law_1516 ⟨by rw [rm_c]; omega, by rw [rm_s]; omega⟩) hP hD hS hA is1 [48, 49, 50, 51, 52, 53, 54, 55, 56, 57, 58, 59, 60, 61, 62, 63, 64, 65, 66, 67, 68, 69, 70, 71] hi1 rfl (by decide) hd1 (fun u1 H locs hP hD hS => ?_)
  refine lv_istore (lv' := [(6, .int 0), (5, .int 0), (4, .ref qd), (3, .ref qo), (2, .ref qm), (1, .ref qx), (0, .ref b)]) hx hb dL_law_1519 hl (by decide) rfl (fun ls hl => ?_)
  refine lv_aload_n hx hb dL_law_1521 rfl (lv_at hl 4 rfl) ?_
  refine lv_aload_n hx hb dL_law_1522 rfl (lv_at hl 6 rfl) ?_
  refine lv_iload hx hb dL_law_1523 (lv_at hl 1 rfl) ?_
  refine lv_iconst (v := 1) hx hb dL_law_1525 (by decide) ?_
  refine x_iadd (v := 1) hx hb dL_law_1526 (by decide) ?_
  refine x_sld (z := a1) hx hb C.hX C.hbl C.hbA hS (x_in (by decide)) (k := 1) (by decide) x1 dL_law_1527 ?_
  refine g_i (wr := [(qo, .inl (g.2 1, 1, .inr (.inl f)))]) (rV (rest := []) hx hb hml hown hE hP hD 23 rfl rfl (M2 H.size) (kV_X10_place hE (e1620 hE) hrc2 hrs2 hR2) is2 (sub_app hi2) hn2 rfl hl.1 rfl (lv_room (Nat.le_of_ble_eq_true rfl)) dL_law_1528 ⟨by rw [rm_c]; omega, by rw [rm_s]; omega⟩) hP hD hS hA is2 [24] (sub_app hi2) rfl (by decide) (fun i hi h => absurd (hd2 i h) (by rw [List.mem_singleton.mp hi]; decide)) (fun u2 H locs hP hD hS => ?_)
  refine lv_istore (lv' := [(7, .int r2), (6, .int 0), (5, .int 0), (4, .ref qd), (3, .ref qo), (2, .ref qm), (1, .ref qx), (0, .ref b)]) hx hb dL_law_1531 hl (by decide) rfl (fun ls hl => ?_)
  refine lv_aload_n hx hb dL_law_1533 rfl (lv_at hl 5 rfl) ?_
  refine g_i (wr := [(qo, .inl (g.2 1, 1, .inr (.inl f)))]) (rV (rest := []) hx hb hml hown hE hP hD 1 rfl rfl (h_thrown l g qm fs2 T hT H.size) (kV_X10_thrown hE (e1412 hE) rfl rfl ⟨(Nat.le_of_ble_eq_true rfl), (Nat.le_of_ble_eq_true rfl)⟩) [1] rfl (by decide) rfl hl.1 rfl (lv_room (Nat.le_of_ble_eq_true rfl)) dL_law_1534 ⟨by rw [rm_c]; omega, by rw [rm_s]; omega⟩) hP hD hS hA [1] [0] rfl rfl (by decide) (by decide) (fun u3 H locs hP hD hS => ?_)
  refine lv_iload hx hb dL_law_1537 (lv_at hl 1 rfl) ?_
  refine lv_icmp_eq (tgt := 1544) hx hb dL_law_1539 (by decide) (fun _ => ?_) (fun h => absurd hTK h)
  refine lv_iload hx hb dL_law_1544 (lv_at hl 1 rfl) ?_
  refine lv_if_ne (tgt := 1561) hx hb dL_law_1546 (by decide) (fun h => absurd h (by decide)) (fun _ => ?_)
  refine lv_aload_n hx hb dL_law_1549 rfl (lv_at hl 4 rfl) ?_
  refine lv_iconst (v := 0) hx hb dL_law_1550 (by decide) ?_
  refine x_lald (v := B) hx hb hE hP 0 rfl 0 (x_in (by decide)) (by decide) hB dL_law_1551 ?_
  refine lv_iload hx hb dL_law_1552 (lv_at hl 0 rfl) ?_
  refine lv_i2l (v := B) hx hb dL_law_1554 hrB ?_
  refine x_lcmp hx hb dL_law_1555 ?_
  refine lv_if_eq (tgt := 1561) hx hb dL_law_1556 (by decide) (fun _ => ?_) (fun h => absurd rfl h)
  refine lv_goto (tgt := 2958) hx hb dL_law_1561 (by decide) ?_
  exact lw_end C hS (lv_sub hl [2, 7] rfl) (by omega) (by omega)

set_option maxHeartbeats 4000000 in
set_option maxRecDepth 100000 in
theorem lo0_setEnvelope (C : L0 p l s m meth c b 6 xs g) (hP : va_P g.1 vwCl (WL g qx u qm v qo qd) H) (hD : va_D (LA s) (WL g qx u qm v qo qd)) (hS : va_S (LA s) s.heap H locs) (hl : lv_has ls 9 [(5, .int 0), (4, .ref qd), (3, .ref qo), (2, .ref qm), (1, .ref qx), (0, .ref b)]) {a1 a2 a3 a4 a5 : Int32} (x1 : xs 1 = a1) (x2 : xs 2 = a2) (x3 : xs 3 = a3) (x4 : xs 4 = a4) (x5 : xs 5 = a5) {ws1 ws2 : va_W} {rm1 rm2 : Room} {mc1 ms1 mc2 ms2 : Nat} {fs2 : List Value} {f : Nat → Int64} {r2 T : Int32} {B : Int64} (hTK : T = 0) (hB : f 0 = B) (hrB : r2.toInt64 = B) (hT : fs2[6]? = some (.int T)) (is1 : List Nat) (hi1 : is1.map (fun i => (WL g qx u qm v qo qd)[i]?) = ws1.map some) (hn1 : va_nd is1 = true) (hd1 : ∀ i ∈ [48, 49, 50, 51, 52, 53, 54, 55, 56, 57, 58, 59, 60, 61, 62, 63, 64, 65, 66, 67, 68, 69, 70, 71], i ∉ is1) (M1 : ∀ sz, Met l yL_setEnvelope [Cond.codeWith yL_setEnvelope cL_setEnvelope 8 (some .int) [(0, 16, 19, 13), (0, 16, 23, 15)]] rm1 (va_Pc [.ref qx, .int a1, .int a2, .int a3, .int a4, .int a5, .ref qo] (PZ g sz ws1)) (QI g ws1 sz 0 (fun _ => [(qo, .inl (g.2 1, 1, .inr (.inl f)))])) mc1 ms1 (va_A ws1 sz)) (hrc1 : rm1.cells = mc1) (hrs1 : rm1.slots = ms1) (hR1 : rm1.frames + 1 ≤ room_1.frames ∧ 8 + (8 + 11) + rm1.locals ≤ room_1.locals) (hc1 : mc1 ≤ 100000 ∧ ms1 ≤ 1000000) (is2 : List Nat) (hi2 : is2.map (fun i => (WM g qm v)[i]?) = ws2.map some) (hn2 : va_nd is2 = true) (hd2 : ∀ i ∈ is2, i < 24) (M2 : ∀ sz, Met l yX10_setEnvelope [Cond.code yX10_setEnvelope cX10_setEnvelope 12 (some .int)] rm2 (va_Pc [.ref qm, .int a1, .int a2, .int a3, .int a4, .int a5] (PX g sz ws2)) (QI g ws2 sz r2 (fun _ => [(qm, .inr (12, fs2))])) mc2 ms2 (va_A ws2 sz)) (hrc2 : rm2.cells = mc2) (hrs2 : rm2.slots = ms2) (hR2 : rm2.frames + 1 ≤ room_1.frames ∧ 8 + (12 + 11) + rm2.locals ≤ room_1.locals) (hc2 : mc2 ≤ 100000 ∧ ms2 ≤ 1000000) : W p l e room_1 s m #[Value.ref b] below meth c H locs 146 20899 (lw_Z below #[Value.ref b] s) (F0 m 1760 ls []) := by
  have hx := C.hx
  have hb := C.hb
  have hml := C.hml
  have hown := C.hown
  have hE := C.hE
  have hz := C.hz
  have hA : ∀ q, s.heap.size ≤ q → LA s q := LA_new
  refine lv_aload_n hx hb dL_law_1760 rfl (lv_at hl 4 rfl) ?_
  refine lv_aload_n hx hb dL_law_1761 rfl (lv_at hl 5 rfl) ?_
  refine lv_iload hx hb dL_law_1762 (lv_at hl 0 rfl) ?_
  refine lv_iconst (v := 1) hx hb dL_law_1764 (by decide) ?_
  refine x_iadd (v := 1) hx hb dL_law_1765 (by decide) ?_
  refine x_sld (z := a1) hx hb C.hX C.hbl C.hbA hS (x_in (by decide)) (k := 1) (by decide) x1 dL_law_1766 ?_
  refine lv_aload_n hx hb dL_law_1767 rfl (lv_at hl 5 rfl) ?_
  refine lv_iload hx hb dL_law_1768 (lv_at hl 0 rfl) ?_
  refine lv_iconst (v := 2) hx hb dL_law_1770 (by decide) ?_
  refine x_iadd (v := 2) hx hb dL_law_1771 (by decide) ?_
  refine x_sld (z := a2) hx hb C.hX C.hbl C.hbA hS (x_in (by decide)) (k := 2) (by decide) x2 dL_law_1772 ?_
  refine lv_aload_n hx hb dL_law_1773 rfl (lv_at hl 5 rfl) ?_
  refine lv_iload hx hb dL_law_1774 (lv_at hl 0 rfl) ?_
  refine lv_iconst (v := 3) hx hb dL_law_1776 (by decide) ?_
  refine x_iadd (v := 3) hx hb dL_law_1777 (by decide) ?_
  refine x_sld (z := a3) hx hb C.hX C.hbl C.hbA hS (x_in (by decide)) (k := 3) (by decide) x3 dL_law_1778 ?_
  refine lv_aload_n hx hb dL_law_1779 rfl (lv_at hl 5 rfl) ?_
  refine lv_iload hx hb dL_law_1780 (lv_at hl 0 rfl) ?_
  refine lv_iconst (v := 4) hx hb dL_law_1782 (by decide) ?_
  refine x_iadd (v := 4) hx hb dL_law_1783 (by decide) ?_
  refine x_sld (z := a4) hx hb C.hX C.hbl C.hbA hS (x_in (by decide)) (k := 4) (by decide) x4 dL_law_1784 ?_
  refine lv_aload_n hx hb dL_law_1785 rfl (lv_at hl 5 rfl) ?_
  refine lv_iload hx hb dL_law_1786 (lv_at hl 0 rfl) ?_
  refine lv_iconst (v := 5) hx hb dL_law_1788 (by decide) ?_
  refine x_iadd (v := 5) hx hb dL_law_1789 (by decide) ?_
  refine x_sld (z := a5) hx hb C.hX C.hbl C.hbA hS (x_in (by decide)) (k := 5) (by decide) x5 dL_law_1790 ?_
  refine lv_aload_n hx hb dL_law_1791 rfl (lv_at hl 2 rfl) ?_
  refine g_i (wr := WM g qm v) (rSW (rest := []) hx hb hml hown hE hP hD hS hA hz (M1 H.size) (kSW_L_setEnvelope hE (e984 hE) hrc1 hrs1 hR1) is1 hi1 hn1 rfl hl.1 rfl (lv_room (Nat.le_of_ble_eq_true rfl)) dL_law_1792 ⟨by rw [rm_c]; omega, by rw [rm_s]; omega⟩) hP hD hS hA is1 [48, 49, 50, 51, 52, 53, 54, 55, 56, 57, 58, 59, 60, 61, 62, 63, 64, 65, 66, 67, 68, 69, 70, 71] hi1 rfl (by decide) hd1 (fun u1 H locs hP hD hS => ?_)
  refine lv_istore (lv' := [(6, .int 0), (5, .int 0), (4, .ref qd), (3, .ref qo), (2, .ref qm), (1, .ref qx), (0, .ref b)]) hx hb dL_law_1795 hl (by decide) rfl (fun ls hl => ?_)
  refine lv_aload_n hx hb dL_law_1797 rfl (lv_at hl 4 rfl) ?_
  refine lv_aload_n hx hb dL_law_1798 rfl (lv_at hl 6 rfl) ?_
  refine lv_iload hx hb dL_law_1799 (lv_at hl 1 rfl) ?_
  refine lv_iconst (v := 1) hx hb dL_law_1801 (by decide) ?_
  refine x_iadd (v := 1) hx hb dL_law_1802 (by decide) ?_
  refine x_sld (z := a1) hx hb C.hX C.hbl C.hbA hS (x_in (by decide)) (k := 1) (by decide) x1 dL_law_1803 ?_
  refine lv_aload_n hx hb dL_law_1804 rfl (lv_at hl 6 rfl) ?_
  refine lv_iload hx hb dL_law_1805 (lv_at hl 1 rfl) ?_
  refine lv_iconst (v := 2) hx hb dL_law_1807 (by decide) ?_
  refine x_iadd (v := 2) hx hb dL_law_1808 (by decide) ?_
  refine x_sld (z := a2) hx hb C.hX C.hbl C.hbA hS (x_in (by decide)) (k := 2) (by decide) x2 dL_law_1809 ?_
  refine lv_aload_n hx hb dL_law_1810 rfl (lv_at hl 6 rfl) ?_
  refine lv_iload hx hb dL_law_1811 (lv_at hl 1 rfl) ?_
  refine lv_iconst (v := 3) hx hb dL_law_1813 (by decide) ?_
  refine x_iadd (v := 3) hx hb dL_law_1814 (by decide) ?_
  refine x_sld (z := a3) hx hb C.hX C.hbl C.hbA hS (x_in (by decide)) (k := 3) (by decide) x3 dL_law_1815 ?_
  refine lv_aload_n hx hb dL_law_1816 rfl (lv_at hl 6 rfl) ?_
  refine lv_iload hx hb dL_law_1817 (lv_at hl 1 rfl) ?_
  refine lv_iconst (v := 4) hx hb dL_law_1819 (by decide) ?_
  refine x_iadd (v := 4) hx hb dL_law_1820 (by decide) ?_
  refine x_sld (z := a4) hx hb C.hX C.hbl C.hbA hS (x_in (by decide)) (k := 4) (by decide) x4 dL_law_1821 ?_
  refine lv_aload_n hx hb dL_law_1822 rfl (lv_at hl 6 rfl) ?_
  refine lv_iload hx hb dL_law_1823 (lv_at hl 1 rfl) ?_
  refine lv_iconst (v := 5) hx hb dL_law_1825 (by decide) ?_
  refine x_iadd (v := 5) hx hb dL_law_1826 (by decide) ?_
  refine x_sld (z := a5) hx hb C.hX C.hbl C.hbA hS (x_in (by decide)) (k := 5) (by decide) x5 dL_law_1827 ?_
  refine g_i (wr := [(qo, .inl (g.2 1, 1, .inr (.inl f)))]) (rV (rest := []) hx hb hml hown hE hP hD 23 rfl rfl (M2 H.size) (kV_X10_setEnvelope hE (e1641 hE) hrc2 hrs2 hR2) is2 (sub_app hi2) hn2 rfl hl.1 rfl (lv_room (Nat.le_of_ble_eq_true rfl)) dL_law_1828 ⟨by rw [rm_c]; omega, by rw [rm_s]; omega⟩) hP hD hS hA is2 [24] (sub_app hi2) rfl (by decide) (fun i hi h => absurd (hd2 i h) (by rw [List.mem_singleton.mp hi]; decide)) (fun u2 H locs hP hD hS => ?_)
  refine lv_istore (lv' := [(7, .int r2), (6, .int 0), (5, .int 0), (4, .ref qd), (3, .ref qo), (2, .ref qm), (1, .ref qx), (0, .ref b)]) hx hb dL_law_1831 hl (by decide) rfl (fun ls hl => ?_)
  refine lv_aload_n hx hb dL_law_1833 rfl (lv_at hl 5 rfl) ?_
  refine g_i (wr := [(qo, .inl (g.2 1, 1, .inr (.inl f)))]) (rV (rest := []) hx hb hml hown hE hP hD 1 rfl rfl (h_thrown l g qm fs2 T hT H.size) (kV_X10_thrown hE (e1412 hE) rfl rfl ⟨(Nat.le_of_ble_eq_true rfl), (Nat.le_of_ble_eq_true rfl)⟩) [1] rfl (by decide) rfl hl.1 rfl (lv_room (Nat.le_of_ble_eq_true rfl)) dL_law_1834 ⟨by rw [rm_c]; omega, by rw [rm_s]; omega⟩) hP hD hS hA [1] [0] rfl rfl (by decide) (by decide) (fun u3 H locs hP hD hS => ?_)
  refine lv_iload hx hb dL_law_1837 (lv_at hl 1 rfl) ?_
  refine lv_icmp_eq (tgt := 1844) hx hb dL_law_1839 (by decide) (fun _ => ?_) (fun h => absurd hTK h)
  refine lv_iload hx hb dL_law_1844 (lv_at hl 1 rfl) ?_
  refine lv_if_ne (tgt := 1861) hx hb dL_law_1846 (by decide) (fun h => absurd h (by decide)) (fun _ => ?_)
  refine lv_aload_n hx hb dL_law_1849 rfl (lv_at hl 4 rfl) ?_
  refine lv_iconst (v := 0) hx hb dL_law_1850 (by decide) ?_
  refine x_lald (v := B) hx hb hE hP 0 rfl 0 (x_in (by decide)) (by decide) hB dL_law_1851 ?_
  refine lv_iload hx hb dL_law_1852 (lv_at hl 0 rfl) ?_
  refine lv_i2l (v := B) hx hb dL_law_1854 hrB ?_
  refine x_lcmp hx hb dL_law_1855 ?_
  refine lv_if_eq (tgt := 1861) hx hb dL_law_1856 (by decide) (fun _ => ?_) (fun h => absurd rfl h)
  refine lv_goto (tgt := 2958) hx hb dL_law_1861 (by decide) ?_
  exact lw_end C hS (lv_sub hl [2, 7] rfl) (by omega) (by omega)

set_option maxHeartbeats 4000000 in
set_option maxRecDepth 100000 in
theorem lo0_setPriority (C : L0 p l s m meth c b 6 xs g) (hP : va_P g.1 vwCl (WL g qx u qm v qo qd) H) (hD : va_D (LA s) (WL g qx u qm v qo qd)) (hS : va_S (LA s) s.heap H locs) (hl : lv_has ls 9 [(5, .int 0), (4, .ref qd), (3, .ref qo), (2, .ref qm), (1, .ref qx), (0, .ref b)]) {a1 a2 : Int32} (x1 : xs 1 = a1) (x2 : xs 2 = a2) {ws1 ws2 : va_W} {rm1 rm2 : Room} {mc1 ms1 mc2 ms2 : Nat} {fs2 : List Value} {f : Nat → Int64} {r2 T : Int32} {B : Int64} (hTK : T = 0) (hB : f 0 = B) (hrB : r2.toInt64 = B) (hT : fs2[6]? = some (.int T)) (is1 : List Nat) (hi1 : is1.map (fun i => (WL g qx u qm v qo qd)[i]?) = ws1.map some) (hn1 : va_nd is1 = true) (hd1 : ∀ i ∈ [48, 49, 50, 51, 52, 53, 54, 55, 56, 57, 58, 59, 60, 61, 62, 63, 64, 65, 66, 67, 68, 69, 70, 71], i ∉ is1) (M1 : ∀ sz, Met l yL_setPriority [Cond.codeWith yL_setPriority cL_setPriority 5 (some .int) [(0, 10, 13, 13), (0, 10, 17, 15)]] rm1 (va_Pc [.ref qx, .int a1, .int a2, .ref qo] (PZ g sz ws1)) (QI g ws1 sz 0 (fun _ => [(qo, .inl (g.2 1, 1, .inr (.inl f)))])) mc1 ms1 (va_A ws1 sz)) (hrc1 : rm1.cells = mc1) (hrs1 : rm1.slots = ms1) (hR1 : rm1.frames + 1 ≤ room_1.frames ∧ 8 + (5 + 11) + rm1.locals ≤ room_1.locals) (hc1 : mc1 ≤ 100000 ∧ ms1 ≤ 1000000) (is2 : List Nat) (hi2 : is2.map (fun i => (WM g qm v)[i]?) = ws2.map some) (hn2 : va_nd is2 = true) (hd2 : ∀ i ∈ is2, i < 24) (M2 : ∀ sz, Met l yX10_setPriority [Cond.code yX10_setPriority cX10_setPriority 3 (some .int)] rm2 (va_Pc [.ref qm, .int a1, .int a2] (PX g sz ws2)) (QI g ws2 sz r2 (fun _ => [(qm, .inr (12, fs2))])) mc2 ms2 (va_A ws2 sz)) (hrc2 : rm2.cells = mc2) (hrs2 : rm2.slots = ms2) (hR2 : rm2.frames + 1 ≤ room_1.frames ∧ 8 + (3 + 11) + rm2.locals ≤ room_1.locals) (hc2 : mc2 ≤ 100000 ∧ ms2 ≤ 1000000) : W p l e room_1 s m #[Value.ref b] below meth c H locs 146 20899 (lw_Z below #[Value.ref b] s) (F0 m 1864 ls []) := by
  have hx := C.hx
  have hb := C.hb
  have hml := C.hml
  have hown := C.hown
  have hE := C.hE
  have hz := C.hz
  have hA : ∀ q, s.heap.size ≤ q → LA s q := LA_new
  refine lv_aload_n hx hb dL_law_1864 rfl (lv_at hl 4 rfl) ?_
  refine lv_aload_n hx hb dL_law_1865 rfl (lv_at hl 5 rfl) ?_
  refine lv_iload hx hb dL_law_1866 (lv_at hl 0 rfl) ?_
  refine lv_iconst (v := 1) hx hb dL_law_1868 (by decide) ?_
  refine x_iadd (v := 1) hx hb dL_law_1869 (by decide) ?_
  refine x_sld (z := a1) hx hb C.hX C.hbl C.hbA hS (x_in (by decide)) (k := 1) (by decide) x1 dL_law_1870 ?_
  refine lv_aload_n hx hb dL_law_1871 rfl (lv_at hl 5 rfl) ?_
  refine lv_iload hx hb dL_law_1872 (lv_at hl 0 rfl) ?_
  refine lv_iconst (v := 2) hx hb dL_law_1874 (by decide) ?_
  refine x_iadd (v := 2) hx hb dL_law_1875 (by decide) ?_
  refine x_sld (z := a2) hx hb C.hX C.hbl C.hbA hS (x_in (by decide)) (k := 2) (by decide) x2 dL_law_1876 ?_
  refine lv_aload_n hx hb dL_law_1877 rfl (lv_at hl 2 rfl) ?_
  refine g_i (wr := WM g qm v) (rSW (rest := []) hx hb hml hown hE hP hD hS hA hz (M1 H.size) (kSW_L_setPriority hE (e1003 hE) hrc1 hrs1 hR1) is1 hi1 hn1 rfl hl.1 rfl (lv_room (Nat.le_of_ble_eq_true rfl)) dL_law_1878 ⟨by rw [rm_c]; omega, by rw [rm_s]; omega⟩) hP hD hS hA is1 [48, 49, 50, 51, 52, 53, 54, 55, 56, 57, 58, 59, 60, 61, 62, 63, 64, 65, 66, 67, 68, 69, 70, 71] hi1 rfl (by decide) hd1 (fun u1 H locs hP hD hS => ?_)
  refine lv_istore (lv' := [(6, .int 0), (5, .int 0), (4, .ref qd), (3, .ref qo), (2, .ref qm), (1, .ref qx), (0, .ref b)]) hx hb dL_law_1881 hl (by decide) rfl (fun ls hl => ?_)
  refine lv_aload_n hx hb dL_law_1883 rfl (lv_at hl 4 rfl) ?_
  refine lv_aload_n hx hb dL_law_1884 rfl (lv_at hl 6 rfl) ?_
  refine lv_iload hx hb dL_law_1885 (lv_at hl 1 rfl) ?_
  refine lv_iconst (v := 1) hx hb dL_law_1887 (by decide) ?_
  refine x_iadd (v := 1) hx hb dL_law_1888 (by decide) ?_
  refine x_sld (z := a1) hx hb C.hX C.hbl C.hbA hS (x_in (by decide)) (k := 1) (by decide) x1 dL_law_1889 ?_
  refine lv_aload_n hx hb dL_law_1890 rfl (lv_at hl 6 rfl) ?_
  refine lv_iload hx hb dL_law_1891 (lv_at hl 1 rfl) ?_
  refine lv_iconst (v := 2) hx hb dL_law_1893 (by decide) ?_
  refine x_iadd (v := 2) hx hb dL_law_1894 (by decide) ?_
  refine x_sld (z := a2) hx hb C.hX C.hbl C.hbA hS (x_in (by decide)) (k := 2) (by decide) x2 dL_law_1895 ?_
  refine g_i (wr := [(qo, .inl (g.2 1, 1, .inr (.inl f)))]) (rV (rest := []) hx hb hml hown hE hP hD 23 rfl rfl (M2 H.size) (kV_X10_setPriority hE (e1648 hE) hrc2 hrs2 hR2) is2 (sub_app hi2) hn2 rfl hl.1 rfl (lv_room (Nat.le_of_ble_eq_true rfl)) dL_law_1896 ⟨by rw [rm_c]; omega, by rw [rm_s]; omega⟩) hP hD hS hA is2 [24] (sub_app hi2) rfl (by decide) (fun i hi h => absurd (hd2 i h) (by rw [List.mem_singleton.mp hi]; decide)) (fun u2 H locs hP hD hS => ?_)
  refine lv_istore (lv' := [(7, .int r2), (6, .int 0), (5, .int 0), (4, .ref qd), (3, .ref qo), (2, .ref qm), (1, .ref qx), (0, .ref b)]) hx hb dL_law_1899 hl (by decide) rfl (fun ls hl => ?_)
  refine lv_aload_n hx hb dL_law_1901 rfl (lv_at hl 5 rfl) ?_
  refine g_i (wr := [(qo, .inl (g.2 1, 1, .inr (.inl f)))]) (rV (rest := []) hx hb hml hown hE hP hD 1 rfl rfl (h_thrown l g qm fs2 T hT H.size) (kV_X10_thrown hE (e1412 hE) rfl rfl ⟨(Nat.le_of_ble_eq_true rfl), (Nat.le_of_ble_eq_true rfl)⟩) [1] rfl (by decide) rfl hl.1 rfl (lv_room (Nat.le_of_ble_eq_true rfl)) dL_law_1902 ⟨by rw [rm_c]; omega, by rw [rm_s]; omega⟩) hP hD hS hA [1] [0] rfl rfl (by decide) (by decide) (fun u3 H locs hP hD hS => ?_)
  refine lv_iload hx hb dL_law_1905 (lv_at hl 1 rfl) ?_
  refine lv_icmp_eq (tgt := 1912) hx hb dL_law_1907 (by decide) (fun _ => ?_) (fun h => absurd hTK h)
  refine lv_iload hx hb dL_law_1912 (lv_at hl 1 rfl) ?_
  refine lv_if_ne (tgt := 1929) hx hb dL_law_1914 (by decide) (fun h => absurd h (by decide)) (fun _ => ?_)
  refine lv_aload_n hx hb dL_law_1917 rfl (lv_at hl 4 rfl) ?_
  refine lv_iconst (v := 0) hx hb dL_law_1918 (by decide) ?_
  refine x_lald (v := B) hx hb hE hP 0 rfl 0 (x_in (by decide)) (by decide) hB dL_law_1919 ?_
  refine lv_iload hx hb dL_law_1920 (lv_at hl 0 rfl) ?_
  refine lv_i2l (v := B) hx hb dL_law_1922 hrB ?_
  refine x_lcmp hx hb dL_law_1923 ?_
  refine lv_if_eq (tgt := 1929) hx hb dL_law_1924 (by decide) (fun _ => ?_) (fun h => absurd rfl h)
  refine lv_goto (tgt := 2958) hx hb dL_law_1929 (by decide) ?_
  exact lw_end C hS (lv_sub hl [2, 7] rfl) (by omega) (by omega)

set_option maxHeartbeats 4000000 in
set_option maxRecDepth 100000 in
theorem lo0_setRule (C : L0 p l s m meth c b 6 xs g) (hP : va_P g.1 vwCl (WL g qx u qm v qo qd) H) (hD : va_D (LA s) (WL g qx u qm v qo qd)) (hS : va_S (LA s) s.heap H locs) (hl : lv_has ls 9 [(5, .int 0), (4, .ref qd), (3, .ref qo), (2, .ref qm), (1, .ref qx), (0, .ref b)]) {a1 : Int32} (x1 : xs 1 = a1) {ws1 ws2 : va_W} {rm1 rm2 : Room} {mc1 ms1 mc2 ms2 : Nat} {fs2 : List Value} {f : Nat → Int64} {r2 T : Int32} {B : Int64} (hTK : T = 0) (hB : f 0 = B) (hrB : r2.toInt64 = B) (hT : fs2[6]? = some (.int T)) (is1 : List Nat) (hi1 : is1.map (fun i => (WL g qx u qm v qo qd)[i]?) = ws1.map some) (hn1 : va_nd is1 = true) (hd1 : ∀ i ∈ [48, 49, 50, 51, 52, 53, 54, 55, 56, 57, 58, 59, 60, 61, 62, 63, 64, 65, 66, 67, 68, 69, 70, 71], i ∉ is1) (M1 : ∀ sz, Met l yL_setRule [Cond.codeWith yL_setRule cL_setRule 4 (some .int) [(0, 9, 12, 15)]] rm1 (va_Pc [.ref qx, .int a1, .ref qo] (PZ g sz ws1)) (QI g ws1 sz 0 (fun _ => [(qo, .inl (g.2 1, 1, .inr (.inl f)))])) mc1 ms1 (va_A ws1 sz)) (hrc1 : rm1.cells = mc1) (hrs1 : rm1.slots = ms1) (hR1 : rm1.frames + 1 ≤ room_1.frames ∧ 8 + (4 + 11) + rm1.locals ≤ room_1.locals) (hc1 : mc1 ≤ 100000 ∧ ms1 ≤ 1000000) (is2 : List Nat) (hi2 : is2.map (fun i => (WM g qm v)[i]?) = ws2.map some) (hn2 : va_nd is2 = true) (hd2 : ∀ i ∈ is2, i < 24) (M2 : ∀ sz, Met l yX10_setRule [Cond.code yX10_setRule cX10_setRule 2 (some .int)] rm2 (va_Pc [.ref qm, .int a1] (PX g sz ws2)) (QI g ws2 sz r2 (fun _ => [(qm, .inr (12, fs2))])) mc2 ms2 (va_A ws2 sz)) (hrc2 : rm2.cells = mc2) (hrs2 : rm2.slots = ms2) (hR2 : rm2.frames + 1 ≤ room_1.frames ∧ 8 + (2 + 11) + rm2.locals ≤ room_1.locals) (hc2 : mc2 ≤ 100000 ∧ ms2 ≤ 1000000) : W p l e room_1 s m #[Value.ref b] below meth c H locs 146 20899 (lw_Z below #[Value.ref b] s) (F0 m 2056 ls []) := by
  have hx := C.hx
  have hb := C.hb
  have hml := C.hml
  have hown := C.hown
  have hE := C.hE
  have hz := C.hz
  have hA : ∀ q, s.heap.size ≤ q → LA s q := LA_new
  refine lv_aload_n hx hb dL_law_2056 rfl (lv_at hl 4 rfl) ?_
  refine lv_aload_n hx hb dL_law_2057 rfl (lv_at hl 5 rfl) ?_
  refine lv_iload hx hb dL_law_2058 (lv_at hl 0 rfl) ?_
  refine lv_iconst (v := 1) hx hb dL_law_2060 (by decide) ?_
  refine x_iadd (v := 1) hx hb dL_law_2061 (by decide) ?_
  refine x_sld (z := a1) hx hb C.hX C.hbl C.hbA hS (x_in (by decide)) (k := 1) (by decide) x1 dL_law_2062 ?_
  refine lv_aload_n hx hb dL_law_2063 rfl (lv_at hl 2 rfl) ?_
  refine g_i (wr := WM g qm v) (rSW (rest := []) hx hb hml hown hE hP hD hS hA hz (M1 H.size) (kSW_L_setRule hE (e1030 hE) hrc1 hrs1 hR1) is1 hi1 hn1 rfl hl.1 rfl (lv_room (Nat.le_of_ble_eq_true rfl)) dL_law_2064 ⟨by rw [rm_c]; omega, by rw [rm_s]; omega⟩) hP hD hS hA is1 [48, 49, 50, 51, 52, 53, 54, 55, 56, 57, 58, 59, 60, 61, 62, 63, 64, 65, 66, 67, 68, 69, 70, 71] hi1 rfl (by decide) hd1 (fun u1 H locs hP hD hS => ?_)
  refine lv_istore (lv' := [(6, .int 0), (5, .int 0), (4, .ref qd), (3, .ref qo), (2, .ref qm), (1, .ref qx), (0, .ref b)]) hx hb dL_law_2067 hl (by decide) rfl (fun ls hl => ?_)
  refine lv_aload_n hx hb dL_law_2069 rfl (lv_at hl 4 rfl) ?_
  refine lv_aload_n hx hb dL_law_2070 rfl (lv_at hl 6 rfl) ?_
  refine lv_iload hx hb dL_law_2071 (lv_at hl 1 rfl) ?_
  refine lv_iconst (v := 1) hx hb dL_law_2073 (by decide) ?_
  refine x_iadd (v := 1) hx hb dL_law_2074 (by decide) ?_
  refine x_sld (z := a1) hx hb C.hX C.hbl C.hbA hS (x_in (by decide)) (k := 1) (by decide) x1 dL_law_2075 ?_
  refine g_i (wr := [(qo, .inl (g.2 1, 1, .inr (.inl f)))]) (rV (rest := []) hx hb hml hown hE hP hD 23 rfl rfl (M2 H.size) (kV_X10_setRule hE (e1660 hE) hrc2 hrs2 hR2) is2 (sub_app hi2) hn2 rfl hl.1 rfl (lv_room (Nat.le_of_ble_eq_true rfl)) dL_law_2076 ⟨by rw [rm_c]; omega, by rw [rm_s]; omega⟩) hP hD hS hA is2 [24] (sub_app hi2) rfl (by decide) (fun i hi h => absurd (hd2 i h) (by rw [List.mem_singleton.mp hi]; decide)) (fun u2 H locs hP hD hS => ?_)
  refine lv_istore (lv' := [(7, .int r2), (6, .int 0), (5, .int 0), (4, .ref qd), (3, .ref qo), (2, .ref qm), (1, .ref qx), (0, .ref b)]) hx hb dL_law_2079 hl (by decide) rfl (fun ls hl => ?_)
  refine lv_aload_n hx hb dL_law_2081 rfl (lv_at hl 5 rfl) ?_
  refine g_i (wr := [(qo, .inl (g.2 1, 1, .inr (.inl f)))]) (rV (rest := []) hx hb hml hown hE hP hD 1 rfl rfl (h_thrown l g qm fs2 T hT H.size) (kV_X10_thrown hE (e1412 hE) rfl rfl ⟨(Nat.le_of_ble_eq_true rfl), (Nat.le_of_ble_eq_true rfl)⟩) [1] rfl (by decide) rfl hl.1 rfl (lv_room (Nat.le_of_ble_eq_true rfl)) dL_law_2082 ⟨by rw [rm_c]; omega, by rw [rm_s]; omega⟩) hP hD hS hA [1] [0] rfl rfl (by decide) (by decide) (fun u3 H locs hP hD hS => ?_)
  refine lv_iload hx hb dL_law_2085 (lv_at hl 1 rfl) ?_
  refine lv_icmp_eq (tgt := 2092) hx hb dL_law_2087 (by decide) (fun _ => ?_) (fun h => absurd hTK h)
  refine lv_iload hx hb dL_law_2092 (lv_at hl 1 rfl) ?_
  refine lv_if_ne (tgt := 2109) hx hb dL_law_2094 (by decide) (fun h => absurd h (by decide)) (fun _ => ?_)
  refine lv_aload_n hx hb dL_law_2097 rfl (lv_at hl 4 rfl) ?_
  refine lv_iconst (v := 0) hx hb dL_law_2098 (by decide) ?_
  refine x_lald (v := B) hx hb hE hP 0 rfl 0 (x_in (by decide)) (by decide) hB dL_law_2099 ?_
  refine lv_iload hx hb dL_law_2100 (lv_at hl 0 rfl) ?_
  refine lv_i2l (v := B) hx hb dL_law_2102 hrB ?_
  refine x_lcmp hx hb dL_law_2103 ?_
  refine lv_if_eq (tgt := 2109) hx hb dL_law_2104 (by decide) (fun _ => ?_) (fun h => absurd rfl h)
  refine lv_goto (tgt := 2958) hx hb dL_law_2109 (by decide) ?_
  exact lw_end C hS (lv_sub hl [2, 7] rfl) (by omega) (by omega)

set_option maxHeartbeats 4000000 in
set_option maxRecDepth 100000 in
theorem lo0_setSwing (C : L0 p l s m meth c b 6 xs g) (hP : va_P g.1 vwCl (WL g qx u qm v qo qd) H) (hD : va_D (LA s) (WL g qx u qm v qo qd)) (hS : va_S (LA s) s.heap H locs) (hl : lv_has ls 9 [(5, .int 0), (4, .ref qd), (3, .ref qo), (2, .ref qm), (1, .ref qx), (0, .ref b)]) {a1 : Int32} (x1 : xs 1 = a1) {ws1 ws2 : va_W} {rm1 rm2 : Room} {mc1 ms1 mc2 ms2 : Nat} {fs2 : List Value} {f : Nat → Int64} {r2 T : Int32} {B : Int64} (hTK : T = 0) (hB : f 0 = B) (hrB : r2.toInt64 = B) (hT : fs2[6]? = some (.int T)) (is1 : List Nat) (hi1 : is1.map (fun i => (WL g qx u qm v qo qd)[i]?) = ws1.map some) (hn1 : va_nd is1 = true) (hd1 : ∀ i ∈ [48, 49, 50, 51, 52, 53, 54, 55, 56, 57, 58, 59, 60, 61, 62, 63, 64, 65, 66, 67, 68, 69, 70, 71], i ∉ is1) (M1 : ∀ sz, Met l yL_setSwing [Cond.codeWith yL_setSwing cL_setSwing 4 (some .int) [(0, 9, 12, 15)]] rm1 (va_Pc [.ref qx, .int a1, .ref qo] (PZ g sz ws1)) (QI g ws1 sz 0 (fun _ => [(qo, .inl (g.2 1, 1, .inr (.inl f)))])) mc1 ms1 (va_A ws1 sz)) (hrc1 : rm1.cells = mc1) (hrs1 : rm1.slots = ms1) (hR1 : rm1.frames + 1 ≤ room_1.frames ∧ 8 + (4 + 11) + rm1.locals ≤ room_1.locals) (hc1 : mc1 ≤ 100000 ∧ ms1 ≤ 1000000) (is2 : List Nat) (hi2 : is2.map (fun i => (WM g qm v)[i]?) = ws2.map some) (hn2 : va_nd is2 = true) (hd2 : ∀ i ∈ is2, i < 24) (M2 : ∀ sz, Met l yX10_setSwing [Cond.code yX10_setSwing cX10_setSwing 2 (some .int)] rm2 (va_Pc [.ref qm, .int a1] (PX g sz ws2)) (QI g ws2 sz r2 (fun _ => [(qm, .inr (12, fs2))])) mc2 ms2 (va_A ws2 sz)) (hrc2 : rm2.cells = mc2) (hrs2 : rm2.slots = ms2) (hR2 : rm2.frames + 1 ≤ room_1.frames ∧ 8 + (2 + 11) + rm2.locals ≤ room_1.locals) (hc2 : mc2 ≤ 100000 ∧ ms2 ≤ 1000000) : W p l e room_1 s m #[Value.ref b] below meth c H locs 146 20899 (lw_Z below #[Value.ref b] s) (F0 m 1564 ls []) := by
  have hx := C.hx
  have hb := C.hb
  have hml := C.hml
  have hown := C.hown
  have hE := C.hE
  have hz := C.hz
  have hA : ∀ q, s.heap.size ≤ q → LA s q := LA_new
  refine lv_aload_n hx hb dL_law_1564 rfl (lv_at hl 4 rfl) ?_
  refine lv_aload_n hx hb dL_law_1565 rfl (lv_at hl 5 rfl) ?_
  refine lv_iload hx hb dL_law_1566 (lv_at hl 0 rfl) ?_
  refine lv_iconst (v := 1) hx hb dL_law_1568 (by decide) ?_
  refine x_iadd (v := 1) hx hb dL_law_1569 (by decide) ?_
  refine x_sld (z := a1) hx hb C.hX C.hbl C.hbA hS (x_in (by decide)) (k := 1) (by decide) x1 dL_law_1570 ?_
  refine lv_aload_n hx hb dL_law_1571 rfl (lv_at hl 2 rfl) ?_
  refine g_i (wr := WM g qm v) (rSW (rest := []) hx hb hml hown hE hP hD hS hA hz (M1 H.size) (kSW_L_setSwing hE (e952 hE) hrc1 hrs1 hR1) is1 hi1 hn1 rfl hl.1 rfl (lv_room (Nat.le_of_ble_eq_true rfl)) dL_law_1572 ⟨by rw [rm_c]; omega, by rw [rm_s]; omega⟩) hP hD hS hA is1 [48, 49, 50, 51, 52, 53, 54, 55, 56, 57, 58, 59, 60, 61, 62, 63, 64, 65, 66, 67, 68, 69, 70, 71] hi1 rfl (by decide) hd1 (fun u1 H locs hP hD hS => ?_)
  refine lv_istore (lv' := [(6, .int 0), (5, .int 0), (4, .ref qd), (3, .ref qo), (2, .ref qm), (1, .ref qx), (0, .ref b)]) hx hb dL_law_1575 hl (by decide) rfl (fun ls hl => ?_)
  refine lv_aload_n hx hb dL_law_1577 rfl (lv_at hl 4 rfl) ?_
  refine lv_aload_n hx hb dL_law_1578 rfl (lv_at hl 6 rfl) ?_
  refine lv_iload hx hb dL_law_1579 (lv_at hl 1 rfl) ?_
  refine lv_iconst (v := 1) hx hb dL_law_1581 (by decide) ?_
  refine x_iadd (v := 1) hx hb dL_law_1582 (by decide) ?_
  refine x_sld (z := a1) hx hb C.hX C.hbl C.hbA hS (x_in (by decide)) (k := 1) (by decide) x1 dL_law_1583 ?_
  refine g_i (wr := [(qo, .inl (g.2 1, 1, .inr (.inl f)))]) (rV (rest := []) hx hb hml hown hE hP hD 23 rfl rfl (M2 H.size) (kV_X10_setSwing hE (e1624 hE) hrc2 hrs2 hR2) is2 (sub_app hi2) hn2 rfl hl.1 rfl (lv_room (Nat.le_of_ble_eq_true rfl)) dL_law_1584 ⟨by rw [rm_c]; omega, by rw [rm_s]; omega⟩) hP hD hS hA is2 [24] (sub_app hi2) rfl (by decide) (fun i hi h => absurd (hd2 i h) (by rw [List.mem_singleton.mp hi]; decide)) (fun u2 H locs hP hD hS => ?_)
  refine lv_istore (lv' := [(7, .int r2), (6, .int 0), (5, .int 0), (4, .ref qd), (3, .ref qo), (2, .ref qm), (1, .ref qx), (0, .ref b)]) hx hb dL_law_1587 hl (by decide) rfl (fun ls hl => ?_)
  refine lv_aload_n hx hb dL_law_1589 rfl (lv_at hl 5 rfl) ?_
  refine g_i (wr := [(qo, .inl (g.2 1, 1, .inr (.inl f)))]) (rV (rest := []) hx hb hml hown hE hP hD 1 rfl rfl (h_thrown l g qm fs2 T hT H.size) (kV_X10_thrown hE (e1412 hE) rfl rfl ⟨(Nat.le_of_ble_eq_true rfl), (Nat.le_of_ble_eq_true rfl)⟩) [1] rfl (by decide) rfl hl.1 rfl (lv_room (Nat.le_of_ble_eq_true rfl)) dL_law_1590 ⟨by rw [rm_c]; omega, by rw [rm_s]; omega⟩) hP hD hS hA [1] [0] rfl rfl (by decide) (by decide) (fun u3 H locs hP hD hS => ?_)
  refine lv_iload hx hb dL_law_1593 (lv_at hl 1 rfl) ?_
  refine lv_icmp_eq (tgt := 1600) hx hb dL_law_1595 (by decide) (fun _ => ?_) (fun h => absurd hTK h)
  refine lv_iload hx hb dL_law_1600 (lv_at hl 1 rfl) ?_
  refine lv_if_ne (tgt := 1617) hx hb dL_law_1602 (by decide) (fun h => absurd h (by decide)) (fun _ => ?_)
  refine lv_aload_n hx hb dL_law_1605 rfl (lv_at hl 4 rfl) ?_
  refine lv_iconst (v := 0) hx hb dL_law_1606 (by decide) ?_
  refine x_lald (v := B) hx hb hE hP 0 rfl 0 (x_in (by decide)) (by decide) hB dL_law_1607 ?_
  refine lv_iload hx hb dL_law_1608 (lv_at hl 0 rfl) ?_
  refine lv_i2l (v := B) hx hb dL_law_1610 hrB ?_
  refine x_lcmp hx hb dL_law_1611 ?_
  refine lv_if_eq (tgt := 1617) hx hb dL_law_1612 (by decide) (fun _ => ?_) (fun h => absurd rfl h)
  refine lv_goto (tgt := 2958) hx hb dL_law_1617 (by decide) ?_
  exact lw_end C hS (lv_sub hl [2, 7] rfl) (by omega) (by omega)

set_option maxHeartbeats 4000000 in
set_option maxRecDepth 100000 in
theorem lo0_setTempo (C : L0 p l s m meth c b 6 xs g) (hP : va_P g.1 vwCl (WL g qx u qm v qo qd) H) (hD : va_D (LA s) (WL g qx u qm v qo qd)) (hS : va_S (LA s) s.heap H locs) (hl : lv_has ls 9 [(5, .int 0), (4, .ref qd), (3, .ref qo), (2, .ref qm), (1, .ref qx), (0, .ref b)]) {a1 a2 : Int32} (x1 : xs 1 = a1) (x2 : xs 2 = a2) {ws1 ws2 : va_W} {rm1 rm2 : Room} {mc1 ms1 mc2 ms2 : Nat} {fs2 : List Value} {f : Nat → Int64} {r2 T : Int32} {B : Int64} (hTK : T = 0) (hB : f 0 = B) (hrB : r2.toInt64 = B) (hT : fs2[6]? = some (.int T)) (is1 : List Nat) (hi1 : is1.map (fun i => (WL g qx u qm v qo qd)[i]?) = ws1.map some) (hn1 : va_nd is1 = true) (hd1 : ∀ i ∈ [48, 49, 50, 51, 52, 53, 54, 55, 56, 57, 58, 59, 60, 61, 62, 63, 64, 65, 66, 67, 68, 69, 70, 71], i ∉ is1) (M1 : ∀ sz, Met l yL_setTempo [Cond.codeWith yL_setTempo cL_setTempo 5 (some .int) [(0, 10, 13, 15), (0, 10, 17, 17)]] rm1 (va_Pc [.ref qx, .int a1, .int a2, .ref qo] (PZ g sz ws1)) (QI g ws1 sz 0 (fun _ => [(qo, .inl (g.2 1, 1, .inr (.inl f)))])) mc1 ms1 (va_A ws1 sz)) (hrc1 : rm1.cells = mc1) (hrs1 : rm1.slots = ms1) (hR1 : rm1.frames + 1 ≤ room_1.frames ∧ 8 + (5 + 11) + rm1.locals ≤ room_1.locals) (hc1 : mc1 ≤ 100000 ∧ ms1 ≤ 1000000) (is2 : List Nat) (hi2 : is2.map (fun i => (WM g qm v)[i]?) = ws2.map some) (hn2 : va_nd is2 = true) (hd2 : ∀ i ∈ is2, i < 24) (M2 : ∀ sz, Met l yX10_setTempo [Cond.code yX10_setTempo cX10_setTempo 6 (some .int)] rm2 (va_Pc [.ref qm, .int a1, .int a2] (PX g sz ws2)) (QI g ws2 sz r2 (fun _ => [(qm, .inr (12, fs2))])) mc2 ms2 (va_A ws2 sz)) (hrc2 : rm2.cells = mc2) (hrs2 : rm2.slots = ms2) (hR2 : rm2.frames + 1 ≤ room_1.frames ∧ 8 + (6 + 11) + rm2.locals ≤ room_1.locals) (hc2 : mc2 ≤ 100000 ∧ ms2 ≤ 1000000) : W p l e room_1 s m #[Value.ref b] below meth c H locs 146 20899 (lw_Z below #[Value.ref b] s) (F0 m 1328 ls []) := by
  have hx := C.hx
  have hb := C.hb
  have hml := C.hml
  have hown := C.hown
  have hE := C.hE
  have hz := C.hz
  have hA : ∀ q, s.heap.size ≤ q → LA s q := LA_new
  refine lv_aload_n hx hb dL_law_1328 rfl (lv_at hl 4 rfl) ?_
  refine lv_aload_n hx hb dL_law_1329 rfl (lv_at hl 5 rfl) ?_
  refine lv_iload hx hb dL_law_1330 (lv_at hl 0 rfl) ?_
  refine lv_iconst (v := 1) hx hb dL_law_1332 (by decide) ?_
  refine x_iadd (v := 1) hx hb dL_law_1333 (by decide) ?_
  refine x_sld (z := a1) hx hb C.hX C.hbl C.hbA hS (x_in (by decide)) (k := 1) (by decide) x1 dL_law_1334 ?_
  refine lv_aload_n hx hb dL_law_1335 rfl (lv_at hl 5 rfl) ?_
  refine lv_iload hx hb dL_law_1336 (lv_at hl 0 rfl) ?_
  refine lv_iconst (v := 2) hx hb dL_law_1338 (by decide) ?_
  refine x_iadd (v := 2) hx hb dL_law_1339 (by decide) ?_
  refine x_sld (z := a2) hx hb C.hX C.hbl C.hbA hS (x_in (by decide)) (k := 2) (by decide) x2 dL_law_1340 ?_
  refine lv_aload_n hx hb dL_law_1341 rfl (lv_at hl 2 rfl) ?_
  refine g_i (wr := WM g qm v) (rSW (rest := []) hx hb hml hown hE hP hD hS hA hz (M1 H.size) (kSW_L_setTempo hE (e901 hE) hrc1 hrs1 hR1) is1 hi1 hn1 rfl hl.1 rfl (lv_room (Nat.le_of_ble_eq_true rfl)) dL_law_1342 ⟨by rw [rm_c]; omega, by rw [rm_s]; omega⟩) hP hD hS hA is1 [48, 49, 50, 51, 52, 53, 54, 55, 56, 57, 58, 59, 60, 61, 62, 63, 64, 65, 66, 67, 68, 69, 70, 71] hi1 rfl (by decide) hd1 (fun u1 H locs hP hD hS => ?_)
  refine lv_istore (lv' := [(6, .int 0), (5, .int 0), (4, .ref qd), (3, .ref qo), (2, .ref qm), (1, .ref qx), (0, .ref b)]) hx hb dL_law_1345 hl (by decide) rfl (fun ls hl => ?_)
  refine lv_aload_n hx hb dL_law_1347 rfl (lv_at hl 4 rfl) ?_
  refine lv_aload_n hx hb dL_law_1348 rfl (lv_at hl 6 rfl) ?_
  refine lv_iload hx hb dL_law_1349 (lv_at hl 1 rfl) ?_
  refine lv_iconst (v := 1) hx hb dL_law_1351 (by decide) ?_
  refine x_iadd (v := 1) hx hb dL_law_1352 (by decide) ?_
  refine x_sld (z := a1) hx hb C.hX C.hbl C.hbA hS (x_in (by decide)) (k := 1) (by decide) x1 dL_law_1353 ?_
  refine lv_aload_n hx hb dL_law_1354 rfl (lv_at hl 6 rfl) ?_
  refine lv_iload hx hb dL_law_1355 (lv_at hl 1 rfl) ?_
  refine lv_iconst (v := 2) hx hb dL_law_1357 (by decide) ?_
  refine x_iadd (v := 2) hx hb dL_law_1358 (by decide) ?_
  refine x_sld (z := a2) hx hb C.hX C.hbl C.hbA hS (x_in (by decide)) (k := 2) (by decide) x2 dL_law_1359 ?_
  refine g_i (wr := [(qo, .inl (g.2 1, 1, .inr (.inl f)))]) (rV (rest := []) hx hb hml hown hE hP hD 23 rfl rfl (M2 H.size) (kV_X10_setTempo hE (e1608 hE) hrc2 hrs2 hR2) is2 (sub_app hi2) hn2 rfl hl.1 rfl (lv_room (Nat.le_of_ble_eq_true rfl)) dL_law_1360 ⟨by rw [rm_c]; omega, by rw [rm_s]; omega⟩) hP hD hS hA is2 [24] (sub_app hi2) rfl (by decide) (fun i hi h => absurd (hd2 i h) (by rw [List.mem_singleton.mp hi]; decide)) (fun u2 H locs hP hD hS => ?_)
  refine lv_istore (lv' := [(7, .int r2), (6, .int 0), (5, .int 0), (4, .ref qd), (3, .ref qo), (2, .ref qm), (1, .ref qx), (0, .ref b)]) hx hb dL_law_1363 hl (by decide) rfl (fun ls hl => ?_)
  refine lv_aload_n hx hb dL_law_1365 rfl (lv_at hl 5 rfl) ?_
  refine g_i (wr := [(qo, .inl (g.2 1, 1, .inr (.inl f)))]) (rV (rest := []) hx hb hml hown hE hP hD 1 rfl rfl (h_thrown l g qm fs2 T hT H.size) (kV_X10_thrown hE (e1412 hE) rfl rfl ⟨(Nat.le_of_ble_eq_true rfl), (Nat.le_of_ble_eq_true rfl)⟩) [1] rfl (by decide) rfl hl.1 rfl (lv_room (Nat.le_of_ble_eq_true rfl)) dL_law_1366 ⟨by rw [rm_c]; omega, by rw [rm_s]; omega⟩) hP hD hS hA [1] [0] rfl rfl (by decide) (by decide) (fun u3 H locs hP hD hS => ?_)
  refine lv_iload hx hb dL_law_1369 (lv_at hl 1 rfl) ?_
  refine lv_icmp_eq (tgt := 1376) hx hb dL_law_1371 (by decide) (fun _ => ?_) (fun h => absurd hTK h)
  refine lv_iload hx hb dL_law_1376 (lv_at hl 1 rfl) ?_
  refine lv_if_ne (tgt := 1393) hx hb dL_law_1378 (by decide) (fun h => absurd h (by decide)) (fun _ => ?_)
  refine lv_aload_n hx hb dL_law_1381 rfl (lv_at hl 4 rfl) ?_
  refine lv_iconst (v := 0) hx hb dL_law_1382 (by decide) ?_
  refine x_lald (v := B) hx hb hE hP 0 rfl 0 (x_in (by decide)) (by decide) hB dL_law_1383 ?_
  refine lv_iload hx hb dL_law_1384 (lv_at hl 0 rfl) ?_
  refine lv_i2l (v := B) hx hb dL_law_1386 hrB ?_
  refine x_lcmp hx hb dL_law_1387 ?_
  refine lv_if_eq (tgt := 1393) hx hb dL_law_1388 (by decide) (fun _ => ?_) (fun h => absurd rfl h)
  refine lv_goto (tgt := 2958) hx hb dL_law_1393 (by decide) ?_
  exact lw_end C hS (lv_sub hl [2, 7] rfl) (by omega) (by omega)

set_option maxHeartbeats 4000000 in
set_option maxRecDepth 100000 in
theorem lo0_setVoices (C : L0 p l s m meth c b 6 xs g) (hP : va_P g.1 vwCl (WL g qx u qm v qo qd) H) (hD : va_D (LA s) (WL g qx u qm v qo qd)) (hS : va_S (LA s) s.heap H locs) (hl : lv_has ls 9 [(5, .int 0), (4, .ref qd), (3, .ref qo), (2, .ref qm), (1, .ref qx), (0, .ref b)]) {a1 : Int32} (x1 : xs 1 = a1) {ws1 ws2 : va_W} {rm1 rm2 : Room} {mc1 ms1 mc2 ms2 : Nat} {fs2 : List Value} {f : Nat → Int64} {r2 T : Int32} {B : Int64} (hTK : T = 0) (hB : f 0 = B) (hrB : r2.toInt64 = B) (hT : fs2[6]? = some (.int T)) (is1 : List Nat) (hi1 : is1.map (fun i => (WL g qx u qm v qo qd)[i]?) = ws1.map some) (hn1 : va_nd is1 = true) (hd1 : ∀ i ∈ [48, 49, 50, 51, 52, 53, 54, 55, 56, 57, 58, 59, 60, 61, 62, 63, 64, 65, 66, 67, 68, 69, 70, 71], i ∉ is1) (M1 : ∀ sz, Met l yL_setVoices [Cond.codeWith yL_setVoices cL_setVoices 4 (some .int) [(0, 9, 12, 15)]] rm1 (va_Pc [.ref qx, .int a1, .ref qo] (PZ g sz ws1)) (QI g ws1 sz 0 (fun _ => [(qo, .inl (g.2 1, 1, .inr (.inl f)))])) mc1 ms1 (va_A ws1 sz)) (hrc1 : rm1.cells = mc1) (hrs1 : rm1.slots = ms1) (hR1 : rm1.frames + 1 ≤ room_1.frames ∧ 8 + (4 + 11) + rm1.locals ≤ room_1.locals) (hc1 : mc1 ≤ 100000 ∧ ms1 ≤ 1000000) (is2 : List Nat) (hi2 : is2.map (fun i => (WM g qm v)[i]?) = ws2.map some) (hn2 : va_nd is2 = true) (hd2 : ∀ i ∈ is2, i < 24) (M2 : ∀ sz, Met l yX10_setVoices [Cond.code yX10_setVoices cX10_setVoices 2 (some .int)] rm2 (va_Pc [.ref qm, .int a1] (PX g sz ws2)) (QI g ws2 sz r2 (fun _ => [(qm, .inr (12, fs2))])) mc2 ms2 (va_A ws2 sz)) (hrc2 : rm2.cells = mc2) (hrs2 : rm2.slots = ms2) (hR2 : rm2.frames + 1 ≤ room_1.frames ∧ 8 + (2 + 11) + rm2.locals ≤ room_1.locals) (hc2 : mc2 ≤ 100000 ∧ ms2 ≤ 1000000) : W p l e room_1 s m #[Value.ref b] below meth c H locs 146 20899 (lw_Z below #[Value.ref b] s) (F0 m 2000 ls []) := by
  have hx := C.hx
  have hb := C.hb
  have hml := C.hml
  have hown := C.hown
  have hE := C.hE
  have hz := C.hz
  have hA : ∀ q, s.heap.size ≤ q → LA s q := LA_new
  refine lv_aload_n hx hb dL_law_2000 rfl (lv_at hl 4 rfl) ?_
  refine lv_aload_n hx hb dL_law_2001 rfl (lv_at hl 5 rfl) ?_
  refine lv_iload hx hb dL_law_2002 (lv_at hl 0 rfl) ?_
  refine lv_iconst (v := 1) hx hb dL_law_2004 (by decide) ?_
  refine x_iadd (v := 1) hx hb dL_law_2005 (by decide) ?_
  refine x_sld (z := a1) hx hb C.hX C.hbl C.hbA hS (x_in (by decide)) (k := 1) (by decide) x1 dL_law_2006 ?_
  refine lv_aload_n hx hb dL_law_2007 rfl (lv_at hl 2 rfl) ?_
  refine g_i (wr := WM g qm v) (rSW (rest := []) hx hb hml hown hE hP hD hS hA hz (M1 H.size) (kSW_L_setVoices hE (e1023 hE) hrc1 hrs1 hR1) is1 hi1 hn1 rfl hl.1 rfl (lv_room (Nat.le_of_ble_eq_true rfl)) dL_law_2008 ⟨by rw [rm_c]; omega, by rw [rm_s]; omega⟩) hP hD hS hA is1 [48, 49, 50, 51, 52, 53, 54, 55, 56, 57, 58, 59, 60, 61, 62, 63, 64, 65, 66, 67, 68, 69, 70, 71] hi1 rfl (by decide) hd1 (fun u1 H locs hP hD hS => ?_)
  refine lv_istore (lv' := [(6, .int 0), (5, .int 0), (4, .ref qd), (3, .ref qo), (2, .ref qm), (1, .ref qx), (0, .ref b)]) hx hb dL_law_2011 hl (by decide) rfl (fun ls hl => ?_)
  refine lv_aload_n hx hb dL_law_2013 rfl (lv_at hl 4 rfl) ?_
  refine lv_aload_n hx hb dL_law_2014 rfl (lv_at hl 6 rfl) ?_
  refine lv_iload hx hb dL_law_2015 (lv_at hl 1 rfl) ?_
  refine lv_iconst (v := 1) hx hb dL_law_2017 (by decide) ?_
  refine x_iadd (v := 1) hx hb dL_law_2018 (by decide) ?_
  refine x_sld (z := a1) hx hb C.hX C.hbl C.hbA hS (x_in (by decide)) (k := 1) (by decide) x1 dL_law_2019 ?_
  refine g_i (wr := [(qo, .inl (g.2 1, 1, .inr (.inl f)))]) (rV (rest := []) hx hb hml hown hE hP hD 23 rfl rfl (M2 H.size) (kV_X10_setVoices hE (e1656 hE) hrc2 hrs2 hR2) is2 (sub_app hi2) hn2 rfl hl.1 rfl (lv_room (Nat.le_of_ble_eq_true rfl)) dL_law_2020 ⟨by rw [rm_c]; omega, by rw [rm_s]; omega⟩) hP hD hS hA is2 [24] (sub_app hi2) rfl (by decide) (fun i hi h => absurd (hd2 i h) (by rw [List.mem_singleton.mp hi]; decide)) (fun u2 H locs hP hD hS => ?_)
  refine lv_istore (lv' := [(7, .int r2), (6, .int 0), (5, .int 0), (4, .ref qd), (3, .ref qo), (2, .ref qm), (1, .ref qx), (0, .ref b)]) hx hb dL_law_2023 hl (by decide) rfl (fun ls hl => ?_)
  refine lv_aload_n hx hb dL_law_2025 rfl (lv_at hl 5 rfl) ?_
  refine g_i (wr := [(qo, .inl (g.2 1, 1, .inr (.inl f)))]) (rV (rest := []) hx hb hml hown hE hP hD 1 rfl rfl (h_thrown l g qm fs2 T hT H.size) (kV_X10_thrown hE (e1412 hE) rfl rfl ⟨(Nat.le_of_ble_eq_true rfl), (Nat.le_of_ble_eq_true rfl)⟩) [1] rfl (by decide) rfl hl.1 rfl (lv_room (Nat.le_of_ble_eq_true rfl)) dL_law_2026 ⟨by rw [rm_c]; omega, by rw [rm_s]; omega⟩) hP hD hS hA [1] [0] rfl rfl (by decide) (by decide) (fun u3 H locs hP hD hS => ?_)
  refine lv_iload hx hb dL_law_2029 (lv_at hl 1 rfl) ?_
  refine lv_icmp_eq (tgt := 2036) hx hb dL_law_2031 (by decide) (fun _ => ?_) (fun h => absurd hTK h)
  refine lv_iload hx hb dL_law_2036 (lv_at hl 1 rfl) ?_
  refine lv_if_ne (tgt := 2053) hx hb dL_law_2038 (by decide) (fun h => absurd h (by decide)) (fun _ => ?_)
  refine lv_aload_n hx hb dL_law_2041 rfl (lv_at hl 4 rfl) ?_
  refine lv_iconst (v := 0) hx hb dL_law_2042 (by decide) ?_
  refine x_lald (v := B) hx hb hE hP 0 rfl 0 (x_in (by decide)) (by decide) hB dL_law_2043 ?_
  refine lv_iload hx hb dL_law_2044 (lv_at hl 0 rfl) ?_
  refine lv_i2l (v := B) hx hb dL_law_2046 hrB ?_
  refine x_lcmp hx hb dL_law_2047 ?_
  refine lv_if_eq (tgt := 2053) hx hb dL_law_2048 (by decide) (fun _ => ?_) (fun h => absurd rfl h)
  refine lv_goto (tgt := 2958) hx hb dL_law_2053 (by decide) ?_
  exact lw_end C hS (lv_sub hl [2, 7] rfl) (by omega) (by omega)

set_option maxHeartbeats 4000000 in
set_option maxRecDepth 100000 in
theorem lo0_sounding (C : L0 p l s m meth c b 6 xs g) (hP : va_P g.1 vwCl (WL g qx u qm v qo qd) H) (hD : va_D (LA s) (WL g qx u qm v qo qd)) (hS : va_S (LA s) s.heap H locs) (hl : lv_has ls 9 [(5, .int 0), (4, .ref qd), (3, .ref qo), (2, .ref qm), (1, .ref qx), (0, .ref b)]) {a1 : Int32} (x1 : xs 1 = a1) {ws1 ws2 : va_W} {rm1 rm2 : Room} {mc1 ms1 mc2 ms2 : Nat} {fs2 : List Value} {f : Nat → Int64} {r2 T : Int32} {B : Int64} (hTK : T = 0) (hB : f 0 = B) (hrB : r2.toInt64 = B) (hT : fs2[6]? = some (.int T)) (is1 : List Nat) (hi1 : is1.map (fun i => (WL g qx u qm v qo qd)[i]?) = ws1.map some) (hn1 : va_nd is1 = true) (hd1 : ∀ i ∈ [48, 49, 50, 51, 52, 53, 54, 55, 56, 57, 58, 59, 60, 61, 62, 63, 64, 65, 66, 67, 68, 69, 70, 71], i ∉ is1) (M1 : ∀ sz, Met l yL_sounding [Cond.codeWith yL_sounding cL_sounding 4 (some .int) [(0, 9, 12, 15)]] rm1 (va_Pc [.ref qx, .int a1, .ref qo] (PZ g sz ws1)) (QI g ws1 sz 0 (fun _ => [(qo, .inl (g.2 1, 1, .inr (.inl f)))])) mc1 ms1 (va_A ws1 sz)) (hrc1 : rm1.cells = mc1) (hrs1 : rm1.slots = ms1) (hR1 : rm1.frames + 1 ≤ room_1.frames ∧ 8 + (4 + 11) + rm1.locals ≤ room_1.locals) (hc1 : mc1 ≤ 100000 ∧ ms1 ≤ 1000000) (is2 : List Nat) (hi2 : is2.map (fun i => (WM g qm v)[i]?) = ws2.map some) (hn2 : va_nd is2 = true) (hd2 : ∀ i ∈ is2, i < 24) (M2 : ∀ sz, Met l yX10_sounding [Cond.code yX10_sounding cX10_sounding 2 (some .int)] rm2 (va_Pc [.ref qm, .int a1] (PX g sz ws2)) (QI g ws2 sz r2 (fun _ => [(qm, .inr (12, fs2))])) mc2 ms2 (va_A ws2 sz)) (hrc2 : rm2.cells = mc2) (hrs2 : rm2.slots = ms2) (hR2 : rm2.frames + 1 ≤ room_1.frames ∧ 8 + (2 + 11) + rm2.locals ≤ room_1.locals) (hc2 : mc2 ≤ 100000 ∧ ms2 ≤ 1000000) : W p l e room_1 s m #[Value.ref b] below meth c H locs 146 20899 (lw_Z below #[Value.ref b] s) (F0 m 2236 ls []) := by
  have hx := C.hx
  have hb := C.hb
  have hml := C.hml
  have hown := C.hown
  have hE := C.hE
  have hz := C.hz
  have hA : ∀ q, s.heap.size ≤ q → LA s q := LA_new
  refine lv_aload_n hx hb dL_law_2236 rfl (lv_at hl 4 rfl) ?_
  refine lv_aload_n hx hb dL_law_2237 rfl (lv_at hl 5 rfl) ?_
  refine lv_iload hx hb dL_law_2238 (lv_at hl 0 rfl) ?_
  refine lv_iconst (v := 1) hx hb dL_law_2240 (by decide) ?_
  refine x_iadd (v := 1) hx hb dL_law_2241 (by decide) ?_
  refine x_sld (z := a1) hx hb C.hX C.hbl C.hbA hS (x_in (by decide)) (k := 1) (by decide) x1 dL_law_2242 ?_
  refine lv_aload_n hx hb dL_law_2243 rfl (lv_at hl 2 rfl) ?_
  refine g_i (wr := WM g qm v) (rSW (rest := []) hx hb hml hown hE hP hD hS hA hz (M1 H.size) (kSW_L_sounding hE (e1056 hE) hrc1 hrs1 hR1) is1 hi1 hn1 rfl hl.1 rfl (lv_room (Nat.le_of_ble_eq_true rfl)) dL_law_2244 ⟨by rw [rm_c]; omega, by rw [rm_s]; omega⟩) hP hD hS hA is1 [48, 49, 50, 51, 52, 53, 54, 55, 56, 57, 58, 59, 60, 61, 62, 63, 64, 65, 66, 67, 68, 69, 70, 71] hi1 rfl (by decide) hd1 (fun u1 H locs hP hD hS => ?_)
  refine lv_istore (lv' := [(6, .int 0), (5, .int 0), (4, .ref qd), (3, .ref qo), (2, .ref qm), (1, .ref qx), (0, .ref b)]) hx hb dL_law_2247 hl (by decide) rfl (fun ls hl => ?_)
  refine lv_aload_n hx hb dL_law_2249 rfl (lv_at hl 4 rfl) ?_
  refine lv_aload_n hx hb dL_law_2250 rfl (lv_at hl 6 rfl) ?_
  refine lv_iload hx hb dL_law_2251 (lv_at hl 1 rfl) ?_
  refine lv_iconst (v := 1) hx hb dL_law_2253 (by decide) ?_
  refine x_iadd (v := 1) hx hb dL_law_2254 (by decide) ?_
  refine x_sld (z := a1) hx hb C.hX C.hbl C.hbA hS (x_in (by decide)) (k := 1) (by decide) x1 dL_law_2255 ?_
  refine g_i (wr := [(qo, .inl (g.2 1, 1, .inr (.inl f)))]) (rV (rest := []) hx hb hml hown hE hP hD 23 rfl rfl (M2 H.size) (kV_X10_sounding hE (e1672 hE) hrc2 hrs2 hR2) is2 (sub_app hi2) hn2 rfl hl.1 rfl (lv_room (Nat.le_of_ble_eq_true rfl)) dL_law_2256 ⟨by rw [rm_c]; omega, by rw [rm_s]; omega⟩) hP hD hS hA is2 [24] (sub_app hi2) rfl (by decide) (fun i hi h => absurd (hd2 i h) (by rw [List.mem_singleton.mp hi]; decide)) (fun u2 H locs hP hD hS => ?_)
  refine lv_istore (lv' := [(7, .int r2), (6, .int 0), (5, .int 0), (4, .ref qd), (3, .ref qo), (2, .ref qm), (1, .ref qx), (0, .ref b)]) hx hb dL_law_2259 hl (by decide) rfl (fun ls hl => ?_)
  refine lv_aload_n hx hb dL_law_2261 rfl (lv_at hl 5 rfl) ?_
  refine g_i (wr := [(qo, .inl (g.2 1, 1, .inr (.inl f)))]) (rV (rest := []) hx hb hml hown hE hP hD 1 rfl rfl (h_thrown l g qm fs2 T hT H.size) (kV_X10_thrown hE (e1412 hE) rfl rfl ⟨(Nat.le_of_ble_eq_true rfl), (Nat.le_of_ble_eq_true rfl)⟩) [1] rfl (by decide) rfl hl.1 rfl (lv_room (Nat.le_of_ble_eq_true rfl)) dL_law_2262 ⟨by rw [rm_c]; omega, by rw [rm_s]; omega⟩) hP hD hS hA [1] [0] rfl rfl (by decide) (by decide) (fun u3 H locs hP hD hS => ?_)
  refine lv_iload hx hb dL_law_2265 (lv_at hl 1 rfl) ?_
  refine lv_icmp_eq (tgt := 2272) hx hb dL_law_2267 (by decide) (fun _ => ?_) (fun h => absurd hTK h)
  refine lv_iload hx hb dL_law_2272 (lv_at hl 1 rfl) ?_
  refine lv_if_ne (tgt := 2289) hx hb dL_law_2274 (by decide) (fun h => absurd h (by decide)) (fun _ => ?_)
  refine lv_aload_n hx hb dL_law_2277 rfl (lv_at hl 4 rfl) ?_
  refine lv_iconst (v := 0) hx hb dL_law_2278 (by decide) ?_
  refine x_lald (v := B) hx hb hE hP 0 rfl 0 (x_in (by decide)) (by decide) hB dL_law_2279 ?_
  refine lv_iload hx hb dL_law_2280 (lv_at hl 0 rfl) ?_
  refine lv_i2l (v := B) hx hb dL_law_2282 hrB ?_
  refine x_lcmp hx hb dL_law_2283 ?_
  refine lv_if_eq (tgt := 2289) hx hb dL_law_2284 (by decide) (fun _ => ?_) (fun h => absurd rfl h)
  refine lv_goto (tgt := 2958) hx hb dL_law_2289 (by decide) ?_
  exact lw_end C hS (lv_sub hl [2, 7] rfl) (by omega) (by omega)

set_option maxHeartbeats 4000000 in
set_option maxRecDepth 100000 in
theorem lo0_tempo (C : L0 p l s m meth c b 6 xs g) (hP : va_P g.1 vwCl (WL g qx u qm v qo qd) H) (hD : va_D (LA s) (WL g qx u qm v qo qd)) (hS : va_S (LA s) s.heap H locs) (hl : lv_has ls 9 [(5, .int 0), (4, .ref qd), (3, .ref qo), (2, .ref qm), (1, .ref qx), (0, .ref b)]) {a1 : Int32} (x1 : xs 1 = a1) {ws1 ws2 : va_W} {rm1 rm2 : Room} {mc1 ms1 mc2 ms2 : Nat} {fs2 : List Value} {f : Nat → Int64} {r2 T : Int32} {B : Int64} (hTK : T = 0) (hB : f 0 = B) (hrB : r2.toInt64 = B) (hT : fs2[6]? = some (.int T)) (is1 : List Nat) (hi1 : is1.map (fun i => (WL g qx u qm v qo qd)[i]?) = ws1.map some) (hn1 : va_nd is1 = true) (hd1 : ∀ i ∈ [48, 49, 50, 51, 52, 53, 54, 55, 56, 57, 58, 59, 60, 61, 62, 63, 64, 65, 66, 67, 68, 69, 70, 71], i ∉ is1) (M1 : ∀ sz, Met l yL_tempo [Cond.codeWith yL_tempo cL_tempo 4 (some .int) [(0, 9, 12, 15)]] rm1 (va_Pc [.ref qx, .int a1, .ref qo] (PZ g sz ws1)) (QI g ws1 sz 0 (fun _ => [(qo, .inl (g.2 1, 1, .inr (.inl f)))])) mc1 ms1 (va_A ws1 sz)) (hrc1 : rm1.cells = mc1) (hrs1 : rm1.slots = ms1) (hR1 : rm1.frames + 1 ≤ room_1.frames ∧ 8 + (4 + 11) + rm1.locals ≤ room_1.locals) (hc1 : mc1 ≤ 100000 ∧ ms1 ≤ 1000000) (is2 : List Nat) (hi2 : is2.map (fun i => (WM g qm v)[i]?) = ws2.map some) (hn2 : va_nd is2 = true) (hd2 : ∀ i ∈ is2, i < 24) (M2 : ∀ sz, Met l yX10_tempo [Cond.code yX10_tempo cX10_tempo 2 (some .int)] rm2 (va_Pc [.ref qm, .int a1] (PX g sz ws2)) (QI g ws2 sz r2 (fun _ => [(qm, .inr (12, fs2))])) mc2 ms2 (va_A ws2 sz)) (hrc2 : rm2.cells = mc2) (hrs2 : rm2.slots = ms2) (hR2 : rm2.frames + 1 ≤ room_1.frames ∧ 8 + (2 + 11) + rm2.locals ≤ room_1.locals) (hc2 : mc2 ≤ 100000 ∧ ms2 ≤ 1000000) : W p l e room_1 s m #[Value.ref b] below meth c H locs 146 20899 (lw_Z below #[Value.ref b] s) (F0 m 1452 ls []) := by
  have hx := C.hx
  have hb := C.hb
  have hml := C.hml
  have hown := C.hown
  have hE := C.hE
  have hz := C.hz
  have hA : ∀ q, s.heap.size ≤ q → LA s q := LA_new
  refine lv_aload_n hx hb dL_law_1452 rfl (lv_at hl 4 rfl) ?_
  refine lv_aload_n hx hb dL_law_1453 rfl (lv_at hl 5 rfl) ?_
  refine lv_iload hx hb dL_law_1454 (lv_at hl 0 rfl) ?_
  refine lv_iconst (v := 1) hx hb dL_law_1456 (by decide) ?_
  refine x_iadd (v := 1) hx hb dL_law_1457 (by decide) ?_
  refine x_sld (z := a1) hx hb C.hX C.hbl C.hbA hS (x_in (by decide)) (k := 1) (by decide) x1 dL_law_1458 ?_
  refine lv_aload_n hx hb dL_law_1459 rfl (lv_at hl 2 rfl) ?_
  refine g_i (wr := WM g qm v) (rSW (rest := []) hx hb hml hown hE hP hD hS hA hz (M1 H.size) (kSW_L_tempo hE (e935 hE) hrc1 hrs1 hR1) is1 hi1 hn1 rfl hl.1 rfl (lv_room (Nat.le_of_ble_eq_true rfl)) dL_law_1460 ⟨by rw [rm_c]; omega, by rw [rm_s]; omega⟩) hP hD hS hA is1 [48, 49, 50, 51, 52, 53, 54, 55, 56, 57, 58, 59, 60, 61, 62, 63, 64, 65, 66, 67, 68, 69, 70, 71] hi1 rfl (by decide) hd1 (fun u1 H locs hP hD hS => ?_)
  refine lv_istore (lv' := [(6, .int 0), (5, .int 0), (4, .ref qd), (3, .ref qo), (2, .ref qm), (1, .ref qx), (0, .ref b)]) hx hb dL_law_1463 hl (by decide) rfl (fun ls hl => ?_)
  refine lv_aload_n hx hb dL_law_1465 rfl (lv_at hl 4 rfl) ?_
  refine lv_aload_n hx hb dL_law_1466 rfl (lv_at hl 6 rfl) ?_
  refine lv_iload hx hb dL_law_1467 (lv_at hl 1 rfl) ?_
  refine lv_iconst (v := 1) hx hb dL_law_1469 (by decide) ?_
  refine x_iadd (v := 1) hx hb dL_law_1470 (by decide) ?_
  refine x_sld (z := a1) hx hb C.hX C.hbl C.hbA hS (x_in (by decide)) (k := 1) (by decide) x1 dL_law_1471 ?_
  refine g_i (wr := [(qo, .inl (g.2 1, 1, .inr (.inl f)))]) (rV (rest := []) hx hb hml hown hE hP hD 23 rfl rfl (M2 H.size) (kV_X10_tempo hE (e1616 hE) hrc2 hrs2 hR2) is2 (sub_app hi2) hn2 rfl hl.1 rfl (lv_room (Nat.le_of_ble_eq_true rfl)) dL_law_1472 ⟨by rw [rm_c]; omega, by rw [rm_s]; omega⟩) hP hD hS hA is2 [24] (sub_app hi2) rfl (by decide) (fun i hi h => absurd (hd2 i h) (by rw [List.mem_singleton.mp hi]; decide)) (fun u2 H locs hP hD hS => ?_)
  refine lv_istore (lv' := [(7, .int r2), (6, .int 0), (5, .int 0), (4, .ref qd), (3, .ref qo), (2, .ref qm), (1, .ref qx), (0, .ref b)]) hx hb dL_law_1475 hl (by decide) rfl (fun ls hl => ?_)
  refine lv_aload_n hx hb dL_law_1477 rfl (lv_at hl 5 rfl) ?_
  refine g_i (wr := [(qo, .inl (g.2 1, 1, .inr (.inl f)))]) (rV (rest := []) hx hb hml hown hE hP hD 1 rfl rfl (h_thrown l g qm fs2 T hT H.size) (kV_X10_thrown hE (e1412 hE) rfl rfl ⟨(Nat.le_of_ble_eq_true rfl), (Nat.le_of_ble_eq_true rfl)⟩) [1] rfl (by decide) rfl hl.1 rfl (lv_room (Nat.le_of_ble_eq_true rfl)) dL_law_1478 ⟨by rw [rm_c]; omega, by rw [rm_s]; omega⟩) hP hD hS hA [1] [0] rfl rfl (by decide) (by decide) (fun u3 H locs hP hD hS => ?_)
  refine lv_iload hx hb dL_law_1481 (lv_at hl 1 rfl) ?_
  refine lv_icmp_eq (tgt := 1488) hx hb dL_law_1483 (by decide) (fun _ => ?_) (fun h => absurd hTK h)
  refine lv_iload hx hb dL_law_1488 (lv_at hl 1 rfl) ?_
  refine lv_if_ne (tgt := 1505) hx hb dL_law_1490 (by decide) (fun h => absurd h (by decide)) (fun _ => ?_)
  refine lv_aload_n hx hb dL_law_1493 rfl (lv_at hl 4 rfl) ?_
  refine lv_iconst (v := 0) hx hb dL_law_1494 (by decide) ?_
  refine x_lald (v := B) hx hb hE hP 0 rfl 0 (x_in (by decide)) (by decide) hB dL_law_1495 ?_
  refine lv_iload hx hb dL_law_1496 (lv_at hl 0 rfl) ?_
  refine lv_i2l (v := B) hx hb dL_law_1498 hrB ?_
  refine x_lcmp hx hb dL_law_1499 ?_
  refine lv_if_eq (tgt := 1505) hx hb dL_law_1500 (by decide) (fun _ => ?_) (fun h => absurd rfl h)
  refine lv_goto (tgt := 2958) hx hb dL_law_1505 (by decide) ?_
  exact lw_end C hS (lv_sub hl [2, 7] rfl) (by omega) (by omega)

set_option maxHeartbeats 4000000 in
set_option maxRecDepth 100000 in
theorem lo0_tickAt (C : L0 p l s m meth c b 6 xs g) (hP : va_P g.1 vwCl (WL g qx u qm v qo qd) H) (hD : va_D (LA s) (WL g qx u qm v qo qd)) (hS : va_S (LA s) s.heap H locs) (hl : lv_has ls 9 [(5, .int 0), (4, .ref qd), (3, .ref qo), (2, .ref qm), (1, .ref qx), (0, .ref b)]) {a1 : Int32} (x1 : xs 1 = a1) {ws1 ws2 : va_W} {rm1 rm2 : Room} {mc1 ms1 mc2 ms2 : Nat} {fs2 : List Value} {f : Nat → Int64} {r2 T : Int32} {B : Int64} (hTK : T = 0) (hB : f 0 = B) (hrB : r2.toInt64 = B) (hT : fs2[6]? = some (.int T)) (is1 : List Nat) (hi1 : is1.map (fun i => (WL g qx u qm v qo qd)[i]?) = ws1.map some) (hn1 : va_nd is1 = true) (hd1 : ∀ i ∈ [48, 49, 50, 51, 52, 53, 54, 55, 56, 57, 58, 59, 60, 61, 62, 63, 64, 65, 66, 67, 68, 69, 70, 71], i ∉ is1) (M1 : ∀ sz, Met l yL_tickAt [Cond.codeWith yL_tickAt cL_tickAt 4 (some .int) [(0, 9, 12, 15)]] rm1 (va_Pc [.ref qx, .int a1, .ref qo] (PZ g sz ws1)) (QI g ws1 sz 0 (fun _ => [(qo, .inl (g.2 1, 1, .inr (.inl f)))])) mc1 ms1 (va_A ws1 sz)) (hrc1 : rm1.cells = mc1) (hrs1 : rm1.slots = ms1) (hR1 : rm1.frames + 1 ≤ room_1.frames ∧ 8 + (4 + 11) + rm1.locals ≤ room_1.locals) (hc1 : mc1 ≤ 100000 ∧ ms1 ≤ 1000000) (is2 : List Nat) (hi2 : is2.map (fun i => (WM g qm v)[i]?) = ws2.map some) (hn2 : va_nd is2 = true) (hd2 : ∀ i ∈ is2, i < 24) (M2 : ∀ sz, Met l yX10_tickAt [Cond.code yX10_tickAt cX10_tickAt 5 (some .int)] rm2 (va_Pc [.ref qm, .int a1] (PX g sz ws2)) (QI g ws2 sz r2 (fun _ => [(qm, .inr (12, fs2))])) mc2 ms2 (va_A ws2 sz)) (hrc2 : rm2.cells = mc2) (hrs2 : rm2.slots = ms2) (hR2 : rm2.frames + 1 ≤ room_1.frames ∧ 8 + (5 + 11) + rm2.locals ≤ room_1.locals) (hc2 : mc2 ≤ 100000 ∧ ms2 ≤ 1000000) : W p l e room_1 s m #[Value.ref b] below meth c H locs 146 20899 (lw_Z below #[Value.ref b] s) (F0 m 1704 ls []) := by
  have hx := C.hx
  have hb := C.hb
  have hml := C.hml
  have hown := C.hown
  have hE := C.hE
  have hz := C.hz
  have hA : ∀ q, s.heap.size ≤ q → LA s q := LA_new
  refine lv_aload_n hx hb dL_law_1704 rfl (lv_at hl 4 rfl) ?_
  refine lv_aload_n hx hb dL_law_1705 rfl (lv_at hl 5 rfl) ?_
  refine lv_iload hx hb dL_law_1706 (lv_at hl 0 rfl) ?_
  refine lv_iconst (v := 1) hx hb dL_law_1708 (by decide) ?_
  refine x_iadd (v := 1) hx hb dL_law_1709 (by decide) ?_
  refine x_sld (z := a1) hx hb C.hX C.hbl C.hbA hS (x_in (by decide)) (k := 1) (by decide) x1 dL_law_1710 ?_
  refine lv_aload_n hx hb dL_law_1711 rfl (lv_at hl 2 rfl) ?_
  refine g_i (wr := WM g qm v) (rSW (rest := []) hx hb hml hown hE hP hD hS hA hz (M1 H.size) (kSW_L_tickAt hE (e968 hE) hrc1 hrs1 hR1) is1 hi1 hn1 rfl hl.1 rfl (lv_room (Nat.le_of_ble_eq_true rfl)) dL_law_1712 ⟨by rw [rm_c]; omega, by rw [rm_s]; omega⟩) hP hD hS hA is1 [48, 49, 50, 51, 52, 53, 54, 55, 56, 57, 58, 59, 60, 61, 62, 63, 64, 65, 66, 67, 68, 69, 70, 71] hi1 rfl (by decide) hd1 (fun u1 H locs hP hD hS => ?_)
  refine lv_istore (lv' := [(6, .int 0), (5, .int 0), (4, .ref qd), (3, .ref qo), (2, .ref qm), (1, .ref qx), (0, .ref b)]) hx hb dL_law_1715 hl (by decide) rfl (fun ls hl => ?_)
  refine lv_aload_n hx hb dL_law_1717 rfl (lv_at hl 4 rfl) ?_
  refine lv_aload_n hx hb dL_law_1718 rfl (lv_at hl 6 rfl) ?_
  refine lv_iload hx hb dL_law_1719 (lv_at hl 1 rfl) ?_
  refine lv_iconst (v := 1) hx hb dL_law_1721 (by decide) ?_
  refine x_iadd (v := 1) hx hb dL_law_1722 (by decide) ?_
  refine x_sld (z := a1) hx hb C.hX C.hbl C.hbA hS (x_in (by decide)) (k := 1) (by decide) x1 dL_law_1723 ?_
  refine g_i (wr := [(qo, .inl (g.2 1, 1, .inr (.inl f)))]) (rV (rest := []) hx hb hml hown hE hP hD 23 rfl rfl (M2 H.size) (kV_X10_tickAt hE (e1636 hE) hrc2 hrs2 hR2) is2 (sub_app hi2) hn2 rfl hl.1 rfl (lv_room (Nat.le_of_ble_eq_true rfl)) dL_law_1724 ⟨by rw [rm_c]; omega, by rw [rm_s]; omega⟩) hP hD hS hA is2 [24] (sub_app hi2) rfl (by decide) (fun i hi h => absurd (hd2 i h) (by rw [List.mem_singleton.mp hi]; decide)) (fun u2 H locs hP hD hS => ?_)
  refine lv_istore (lv' := [(7, .int r2), (6, .int 0), (5, .int 0), (4, .ref qd), (3, .ref qo), (2, .ref qm), (1, .ref qx), (0, .ref b)]) hx hb dL_law_1727 hl (by decide) rfl (fun ls hl => ?_)
  refine lv_aload_n hx hb dL_law_1729 rfl (lv_at hl 5 rfl) ?_
  refine g_i (wr := [(qo, .inl (g.2 1, 1, .inr (.inl f)))]) (rV (rest := []) hx hb hml hown hE hP hD 1 rfl rfl (h_thrown l g qm fs2 T hT H.size) (kV_X10_thrown hE (e1412 hE) rfl rfl ⟨(Nat.le_of_ble_eq_true rfl), (Nat.le_of_ble_eq_true rfl)⟩) [1] rfl (by decide) rfl hl.1 rfl (lv_room (Nat.le_of_ble_eq_true rfl)) dL_law_1730 ⟨by rw [rm_c]; omega, by rw [rm_s]; omega⟩) hP hD hS hA [1] [0] rfl rfl (by decide) (by decide) (fun u3 H locs hP hD hS => ?_)
  refine lv_iload hx hb dL_law_1733 (lv_at hl 1 rfl) ?_
  refine lv_icmp_eq (tgt := 1740) hx hb dL_law_1735 (by decide) (fun _ => ?_) (fun h => absurd hTK h)
  refine lv_iload hx hb dL_law_1740 (lv_at hl 1 rfl) ?_
  refine lv_if_ne (tgt := 1757) hx hb dL_law_1742 (by decide) (fun h => absurd h (by decide)) (fun _ => ?_)
  refine lv_aload_n hx hb dL_law_1745 rfl (lv_at hl 4 rfl) ?_
  refine lv_iconst (v := 0) hx hb dL_law_1746 (by decide) ?_
  refine x_lald (v := B) hx hb hE hP 0 rfl 0 (x_in (by decide)) (by decide) hB dL_law_1747 ?_
  refine lv_iload hx hb dL_law_1748 (lv_at hl 0 rfl) ?_
  refine lv_i2l (v := B) hx hb dL_law_1750 hrB ?_
  refine x_lcmp hx hb dL_law_1751 ?_
  refine lv_if_eq (tgt := 1757) hx hb dL_law_1752 (by decide) (fun _ => ?_) (fun h => absurd rfl h)
  refine lv_goto (tgt := 2958) hx hb dL_law_1757 (by decide) ?_
  exact lw_end C hS (lv_sub hl [2, 7] rfl) (by omega) (by omega)

set_option maxHeartbeats 4000000 in
set_option maxRecDepth 100000 in
theorem lo0_timeOf0 (C : L0 p l s m meth c b 6 xs g) (hP : va_P g.1 vwCl (WL g qx u qm v qo qd) H) (hD : va_D (LA s) (WL g qx u qm v qo qd)) (hS : va_S (LA s) s.heap H locs) (hl : lv_has ls 9 [(5, .int 0), (4, .ref qd), (3, .ref qo), (2, .ref qm), (1, .ref qx), (0, .ref b)]) {a1 a2 : Int32} (x1 : xs 1 = a1) (x2 : xs 2 = a2) (hz9 : a2 = 0) {ws1 ws2 : va_W} {rm1 rm2 : Room} {mc1 ms1 mc2 ms2 : Nat} {fs2 : List Value} {f : Nat → Int64} {r2 T : Int32} {B : Int64} (hTK : T = 0) (hB : f 0 = B) (hrB : r2.toInt64 = B) (hT : fs2[6]? = some (.int T)) (is1 : List Nat) (hi1 : is1.map (fun i => (WL g qx u qm v qo qd)[i]?) = ws1.map some) (hn1 : va_nd is1 = true) (hd1 : ∀ i ∈ [48, 49, 50, 51, 52, 53, 54, 55, 56, 57, 58, 59, 60, 61, 62, 63, 64, 65, 66, 67, 68, 69, 70, 71], i ∉ is1) (M1 : ∀ sz, Met l yL_timeOf [Cond.codeWith yL_timeOf cL_timeOf 5 (some .int) [(0, 10, 13, 15)]] rm1 (va_Pc [.ref qx, .int a1, .int 0, .ref qo] (PZ g sz ws1)) (QI g ws1 sz 0 (fun _ => [(qo, .inl (g.2 1, 1, .inr (.inl f)))])) mc1 ms1 (va_A ws1 sz)) (hrc1 : rm1.cells = mc1) (hrs1 : rm1.slots = ms1) (hR1 : rm1.frames + 1 ≤ room_1.frames ∧ 8 + (5 + 11) + rm1.locals ≤ room_1.locals) (hc1 : mc1 ≤ 100000 ∧ ms1 ≤ 1000000) (is2 : List Nat) (hi2 : is2.map (fun i => (WM g qm v)[i]?) = ws2.map some) (hn2 : va_nd is2 = true) (hd2 : ∀ i ∈ is2, i < 24) (M2 : ∀ sz, Met l yX10_timeOf [Cond.code yX10_timeOf cX10_timeOf 3 (some .int)] rm2 (va_Pc [.ref qm, .int a1, .int 0] (PX g sz ws2)) (QI g ws2 sz r2 (fun _ => [(qm, .inr (12, fs2))])) mc2 ms2 (va_A ws2 sz)) (hrc2 : rm2.cells = mc2) (hrs2 : rm2.slots = ms2) (hR2 : rm2.frames + 1 ≤ room_1.frames ∧ 8 + (3 + 11) + rm2.locals ≤ room_1.locals) (hc2 : mc2 ≤ 100000 ∧ ms2 ≤ 1000000) : W p l e room_1 s m #[Value.ref b] below meth c H locs 146 20899 (lw_Z below #[Value.ref b] s) (F0 m 1620 ls []) := by
  have hx := C.hx
  have hb := C.hb
  have hml := C.hml
  have hown := C.hown
  have hE := C.hE
  have hz := C.hz
  have hA : ∀ q, s.heap.size ≤ q → LA s q := LA_new
  refine lv_aload_n hx hb dL_law_1620 rfl (lv_at hl 4 rfl) ?_
  refine lv_aload_n hx hb dL_law_1621 rfl (lv_at hl 5 rfl) ?_
  refine lv_iload hx hb dL_law_1622 (lv_at hl 0 rfl) ?_
  refine lv_iconst (v := 1) hx hb dL_law_1624 (by decide) ?_
  refine x_iadd (v := 1) hx hb dL_law_1625 (by decide) ?_
  refine x_sld (z := a1) hx hb C.hX C.hbl C.hbA hS (x_in (by decide)) (k := 1) (by decide) x1 dL_law_1626 ?_
  refine lv_aload_n hx hb dL_law_1627 rfl (lv_at hl 5 rfl) ?_
  refine lv_iload hx hb dL_law_1628 (lv_at hl 0 rfl) ?_
  refine lv_iconst (v := 2) hx hb dL_law_1630 (by decide) ?_
  refine x_iadd (v := 2) hx hb dL_law_1631 (by decide) ?_
  refine x_sld (z := a2) hx hb C.hX C.hbl C.hbA hS (x_in (by decide)) (k := 2) (by decide) x2 dL_law_1632 ?_
  refine lv_if_eq (tgt := 1640) hx hb dL_law_1633 (by decide) (fun _ => ?_) (fun h => absurd hz9 h)
  refine lv_iconst (v := 0) hx hb dL_law_1640 (by decide) ?_
  refine lv_aload_n hx hb dL_law_1641 rfl (lv_at hl 2 rfl) ?_
  refine g_i (wr := WM g qm v) (rSW (rest := []) hx hb hml hown hE hP hD hS hA hz (M1 H.size) (kSW_L_timeOf hE (e959 hE) hrc1 hrs1 hR1) is1 hi1 hn1 rfl hl.1 rfl (lv_room (Nat.le_of_ble_eq_true rfl)) dL_law_1642 ⟨by rw [rm_c]; omega, by rw [rm_s]; omega⟩) hP hD hS hA is1 [48, 49, 50, 51, 52, 53, 54, 55, 56, 57, 58, 59, 60, 61, 62, 63, 64, 65, 66, 67, 68, 69, 70, 71] hi1 rfl (by decide) hd1 (fun u1 H locs hP hD hS => ?_)
  refine lv_istore (lv' := [(6, .int 0), (5, .int 0), (4, .ref qd), (3, .ref qo), (2, .ref qm), (1, .ref qx), (0, .ref b)]) hx hb dL_law_1645 hl (by decide) rfl (fun ls hl => ?_)
  refine lv_aload_n hx hb dL_law_1647 rfl (lv_at hl 4 rfl) ?_
  refine lv_aload_n hx hb dL_law_1648 rfl (lv_at hl 6 rfl) ?_
  refine lv_iload hx hb dL_law_1649 (lv_at hl 1 rfl) ?_
  refine lv_iconst (v := 1) hx hb dL_law_1651 (by decide) ?_
  refine x_iadd (v := 1) hx hb dL_law_1652 (by decide) ?_
  refine x_sld (z := a1) hx hb C.hX C.hbl C.hbA hS (x_in (by decide)) (k := 1) (by decide) x1 dL_law_1653 ?_
  refine lv_aload_n hx hb dL_law_1654 rfl (lv_at hl 6 rfl) ?_
  refine lv_iload hx hb dL_law_1655 (lv_at hl 1 rfl) ?_
  refine lv_iconst (v := 2) hx hb dL_law_1657 (by decide) ?_
  refine x_iadd (v := 2) hx hb dL_law_1658 (by decide) ?_
  refine x_sld (z := a2) hx hb C.hX C.hbl C.hbA hS (x_in (by decide)) (k := 2) (by decide) x2 dL_law_1659 ?_
  refine lv_if_eq (tgt := 1667) hx hb dL_law_1660 (by decide) (fun _ => ?_) (fun h => absurd hz9 h)
  refine lv_iconst (v := 0) hx hb dL_law_1667 (by decide) ?_
  refine g_i (wr := [(qo, .inl (g.2 1, 1, .inr (.inl f)))]) (rV (rest := []) hx hb hml hown hE hP hD 23 rfl rfl (M2 H.size) (kV_X10_timeOf hE (e1632 hE) hrc2 hrs2 hR2) is2 (sub_app hi2) hn2 rfl hl.1 rfl (lv_room (Nat.le_of_ble_eq_true rfl)) dL_law_1668 ⟨by rw [rm_c]; omega, by rw [rm_s]; omega⟩) hP hD hS hA is2 [24] (sub_app hi2) rfl (by decide) (fun i hi h => absurd (hd2 i h) (by rw [List.mem_singleton.mp hi]; decide)) (fun u2 H locs hP hD hS => ?_)
  refine lv_istore (lv' := [(7, .int r2), (6, .int 0), (5, .int 0), (4, .ref qd), (3, .ref qo), (2, .ref qm), (1, .ref qx), (0, .ref b)]) hx hb dL_law_1671 hl (by decide) rfl (fun ls hl => ?_)
  refine lv_aload_n hx hb dL_law_1673 rfl (lv_at hl 5 rfl) ?_
  refine g_i (wr := [(qo, .inl (g.2 1, 1, .inr (.inl f)))]) (rV (rest := []) hx hb hml hown hE hP hD 1 rfl rfl (h_thrown l g qm fs2 T hT H.size) (kV_X10_thrown hE (e1412 hE) rfl rfl ⟨(Nat.le_of_ble_eq_true rfl), (Nat.le_of_ble_eq_true rfl)⟩) [1] rfl (by decide) rfl hl.1 rfl (lv_room (Nat.le_of_ble_eq_true rfl)) dL_law_1674 ⟨by rw [rm_c]; omega, by rw [rm_s]; omega⟩) hP hD hS hA [1] [0] rfl rfl (by decide) (by decide) (fun u3 H locs hP hD hS => ?_)
  refine lv_iload hx hb dL_law_1677 (lv_at hl 1 rfl) ?_
  refine lv_icmp_eq (tgt := 1684) hx hb dL_law_1679 (by decide) (fun _ => ?_) (fun h => absurd hTK h)
  refine lv_iload hx hb dL_law_1684 (lv_at hl 1 rfl) ?_
  refine lv_if_ne (tgt := 1701) hx hb dL_law_1686 (by decide) (fun h => absurd h (by decide)) (fun _ => ?_)
  refine lv_aload_n hx hb dL_law_1689 rfl (lv_at hl 4 rfl) ?_
  refine lv_iconst (v := 0) hx hb dL_law_1690 (by decide) ?_
  refine x_lald (v := B) hx hb hE hP 0 rfl 0 (x_in (by decide)) (by decide) hB dL_law_1691 ?_
  refine lv_iload hx hb dL_law_1692 (lv_at hl 0 rfl) ?_
  refine lv_i2l (v := B) hx hb dL_law_1694 hrB ?_
  refine x_lcmp hx hb dL_law_1695 ?_
  refine lv_if_eq (tgt := 1701) hx hb dL_law_1696 (by decide) (fun _ => ?_) (fun h => absurd rfl h)
  refine lv_goto (tgt := 2958) hx hb dL_law_1701 (by decide) ?_
  exact lw_end C hS (lv_sub hl [2, 7] rfl) (by omega) (by omega)

set_option maxHeartbeats 4000000 in
set_option maxRecDepth 100000 in
theorem lo0_timeOf1 (C : L0 p l s m meth c b 6 xs g) (hP : va_P g.1 vwCl (WL g qx u qm v qo qd) H) (hD : va_D (LA s) (WL g qx u qm v qo qd)) (hS : va_S (LA s) s.heap H locs) (hl : lv_has ls 9 [(5, .int 0), (4, .ref qd), (3, .ref qo), (2, .ref qm), (1, .ref qx), (0, .ref b)]) {a1 a2 : Int32} (x1 : xs 1 = a1) (x2 : xs 2 = a2) (hz9 : ¬ a2 = 0) {ws1 ws2 : va_W} {rm1 rm2 : Room} {mc1 ms1 mc2 ms2 : Nat} {fs2 : List Value} {f : Nat → Int64} {r2 T : Int32} {B : Int64} (hTK : T = 0) (hB : f 0 = B) (hrB : r2.toInt64 = B) (hT : fs2[6]? = some (.int T)) (is1 : List Nat) (hi1 : is1.map (fun i => (WL g qx u qm v qo qd)[i]?) = ws1.map some) (hn1 : va_nd is1 = true) (hd1 : ∀ i ∈ [48, 49, 50, 51, 52, 53, 54, 55, 56, 57, 58, 59, 60, 61, 62, 63, 64, 65, 66, 67, 68, 69, 70, 71], i ∉ is1) (M1 : ∀ sz, Met l yL_timeOf [Cond.codeWith yL_timeOf cL_timeOf 5 (some .int) [(0, 10, 13, 15)]] rm1 (va_Pc [.ref qx, .int a1, .int 1, .ref qo] (PZ g sz ws1)) (QI g ws1 sz 0 (fun _ => [(qo, .inl (g.2 1, 1, .inr (.inl f)))])) mc1 ms1 (va_A ws1 sz)) (hrc1 : rm1.cells = mc1) (hrs1 : rm1.slots = ms1) (hR1 : rm1.frames + 1 ≤ room_1.frames ∧ 8 + (5 + 11) + rm1.locals ≤ room_1.locals) (hc1 : mc1 ≤ 100000 ∧ ms1 ≤ 1000000) (is2 : List Nat) (hi2 : is2.map (fun i => (WM g qm v)[i]?) = ws2.map some) (hn2 : va_nd is2 = true) (hd2 : ∀ i ∈ is2, i < 24) (M2 : ∀ sz, Met l yX10_timeOf [Cond.code yX10_timeOf cX10_timeOf 3 (some .int)] rm2 (va_Pc [.ref qm, .int a1, .int 1] (PX g sz ws2)) (QI g ws2 sz r2 (fun _ => [(qm, .inr (12, fs2))])) mc2 ms2 (va_A ws2 sz)) (hrc2 : rm2.cells = mc2) (hrs2 : rm2.slots = ms2) (hR2 : rm2.frames + 1 ≤ room_1.frames ∧ 8 + (3 + 11) + rm2.locals ≤ room_1.locals) (hc2 : mc2 ≤ 100000 ∧ ms2 ≤ 1000000) : W p l e room_1 s m #[Value.ref b] below meth c H locs 146 20899 (lw_Z below #[Value.ref b] s) (F0 m 1620 ls []) := by
  have hx := C.hx
  have hb := C.hb
  have hml := C.hml
  have hown := C.hown
  have hE := C.hE
  have hz := C.hz
  have hA : ∀ q, s.heap.size ≤ q → LA s q := LA_new
  refine lv_aload_n hx hb dL_law_1620 rfl (lv_at hl 4 rfl) ?_
  refine lv_aload_n hx hb dL_law_1621 rfl (lv_at hl 5 rfl) ?_
  refine lv_iload hx hb dL_law_1622 (lv_at hl 0 rfl) ?_
  refine lv_iconst (v := 1) hx hb dL_law_1624 (by decide) ?_
  refine x_iadd (v := 1) hx hb dL_law_1625 (by decide) ?_
  refine x_sld (z := a1) hx hb C.hX C.hbl C.hbA hS (x_in (by decide)) (k := 1) (by decide) x1 dL_law_1626 ?_
  refine lv_aload_n hx hb dL_law_1627 rfl (lv_at hl 5 rfl) ?_
  refine lv_iload hx hb dL_law_1628 (lv_at hl 0 rfl) ?_
  refine lv_iconst (v := 2) hx hb dL_law_1630 (by decide) ?_
  refine x_iadd (v := 2) hx hb dL_law_1631 (by decide) ?_
  refine x_sld (z := a2) hx hb C.hX C.hbl C.hbA hS (x_in (by decide)) (k := 2) (by decide) x2 dL_law_1632 ?_
  refine lv_if_eq (tgt := 1640) hx hb dL_law_1633 (by decide) (fun h => absurd h hz9) (fun _ => ?_)
  refine lv_iconst (v := 1) hx hb dL_law_1636 (by decide) ?_
  refine lv_goto (tgt := 1641) hx hb dL_law_1637 (by decide) ?_
  refine lv_aload_n hx hb dL_law_1641 rfl (lv_at hl 2 rfl) ?_
  refine g_i (wr := WM g qm v) (rSW (rest := []) hx hb hml hown hE hP hD hS hA hz (M1 H.size) (kSW_L_timeOf hE (e959 hE) hrc1 hrs1 hR1) is1 hi1 hn1 rfl hl.1 rfl (lv_room (Nat.le_of_ble_eq_true rfl)) dL_law_1642 ⟨by rw [rm_c]; omega, by rw [rm_s]; omega⟩) hP hD hS hA is1 [48, 49, 50, 51, 52, 53, 54, 55, 56, 57, 58, 59, 60, 61, 62, 63, 64, 65, 66, 67, 68, 69, 70, 71] hi1 rfl (by decide) hd1 (fun u1 H locs hP hD hS => ?_)
  refine lv_istore (lv' := [(6, .int 0), (5, .int 0), (4, .ref qd), (3, .ref qo), (2, .ref qm), (1, .ref qx), (0, .ref b)]) hx hb dL_law_1645 hl (by decide) rfl (fun ls hl => ?_)
  refine lv_aload_n hx hb dL_law_1647 rfl (lv_at hl 4 rfl) ?_
  refine lv_aload_n hx hb dL_law_1648 rfl (lv_at hl 6 rfl) ?_
  refine lv_iload hx hb dL_law_1649 (lv_at hl 1 rfl) ?_
  refine lv_iconst (v := 1) hx hb dL_law_1651 (by decide) ?_
  refine x_iadd (v := 1) hx hb dL_law_1652 (by decide) ?_
  refine x_sld (z := a1) hx hb C.hX C.hbl C.hbA hS (x_in (by decide)) (k := 1) (by decide) x1 dL_law_1653 ?_
  refine lv_aload_n hx hb dL_law_1654 rfl (lv_at hl 6 rfl) ?_
  refine lv_iload hx hb dL_law_1655 (lv_at hl 1 rfl) ?_
  refine lv_iconst (v := 2) hx hb dL_law_1657 (by decide) ?_
  refine x_iadd (v := 2) hx hb dL_law_1658 (by decide) ?_
  refine x_sld (z := a2) hx hb C.hX C.hbl C.hbA hS (x_in (by decide)) (k := 2) (by decide) x2 dL_law_1659 ?_
  refine lv_if_eq (tgt := 1667) hx hb dL_law_1660 (by decide) (fun h => absurd h hz9) (fun _ => ?_)
  refine lv_iconst (v := 1) hx hb dL_law_1663 (by decide) ?_
  refine lv_goto (tgt := 1668) hx hb dL_law_1664 (by decide) ?_
  refine g_i (wr := [(qo, .inl (g.2 1, 1, .inr (.inl f)))]) (rV (rest := []) hx hb hml hown hE hP hD 23 rfl rfl (M2 H.size) (kV_X10_timeOf hE (e1632 hE) hrc2 hrs2 hR2) is2 (sub_app hi2) hn2 rfl hl.1 rfl (lv_room (Nat.le_of_ble_eq_true rfl)) dL_law_1668 ⟨by rw [rm_c]; omega, by rw [rm_s]; omega⟩) hP hD hS hA is2 [24] (sub_app hi2) rfl (by decide) (fun i hi h => absurd (hd2 i h) (by rw [List.mem_singleton.mp hi]; decide)) (fun u2 H locs hP hD hS => ?_)
  refine lv_istore (lv' := [(7, .int r2), (6, .int 0), (5, .int 0), (4, .ref qd), (3, .ref qo), (2, .ref qm), (1, .ref qx), (0, .ref b)]) hx hb dL_law_1671 hl (by decide) rfl (fun ls hl => ?_)
  refine lv_aload_n hx hb dL_law_1673 rfl (lv_at hl 5 rfl) ?_
  refine g_i (wr := [(qo, .inl (g.2 1, 1, .inr (.inl f)))]) (rV (rest := []) hx hb hml hown hE hP hD 1 rfl rfl (h_thrown l g qm fs2 T hT H.size) (kV_X10_thrown hE (e1412 hE) rfl rfl ⟨(Nat.le_of_ble_eq_true rfl), (Nat.le_of_ble_eq_true rfl)⟩) [1] rfl (by decide) rfl hl.1 rfl (lv_room (Nat.le_of_ble_eq_true rfl)) dL_law_1674 ⟨by rw [rm_c]; omega, by rw [rm_s]; omega⟩) hP hD hS hA [1] [0] rfl rfl (by decide) (by decide) (fun u3 H locs hP hD hS => ?_)
  refine lv_iload hx hb dL_law_1677 (lv_at hl 1 rfl) ?_
  refine lv_icmp_eq (tgt := 1684) hx hb dL_law_1679 (by decide) (fun _ => ?_) (fun h => absurd hTK h)
  refine lv_iload hx hb dL_law_1684 (lv_at hl 1 rfl) ?_
  refine lv_if_ne (tgt := 1701) hx hb dL_law_1686 (by decide) (fun h => absurd h (by decide)) (fun _ => ?_)
  refine lv_aload_n hx hb dL_law_1689 rfl (lv_at hl 4 rfl) ?_
  refine lv_iconst (v := 0) hx hb dL_law_1690 (by decide) ?_
  refine x_lald (v := B) hx hb hE hP 0 rfl 0 (x_in (by decide)) (by decide) hB dL_law_1691 ?_
  refine lv_iload hx hb dL_law_1692 (lv_at hl 0 rfl) ?_
  refine lv_i2l (v := B) hx hb dL_law_1694 hrB ?_
  refine x_lcmp hx hb dL_law_1695 ?_
  refine lv_if_eq (tgt := 1701) hx hb dL_law_1696 (by decide) (fun _ => ?_) (fun h => absurd rfl h)
  refine lv_goto (tgt := 2958) hx hb dL_law_1701 (by decide) ?_
  exact lw_end C hS (lv_sub hl [2, 7] rfl) (by omega) (by omega)

set_option maxHeartbeats 4000000 in
set_option maxRecDepth 100000 in
theorem loD_clear (C : L0 p l s m meth c b 6 xs g) (hP : va_P g.1 vwCl (WL g qx u qm v qo qd) H) (hD : va_D (LA s) (WL g qx u qm v qo qd)) (hS : va_S (LA s) s.heap H locs) (hl : lv_has ls 9 [(5, .int 0), (4, .ref qd), (3, .ref qo), (2, .ref qm), (1, .ref qx), (0, .ref b)]) {ws1 ws2 : va_W} {rm1 rm2 : Room} {mc1 ms1 mc2 ms2 : Nat} {fs2 : List Value} {po1 : (Nat → Nat) → va_W} {r1 r2 : Int32} (hr12 : r1 = r2) (is1 : List Nat) (hi1 : is1.map (fun i => (WL g qx u qm v qo qd)[i]?) = ws1.map some) (hn1 : va_nd is1 = true) (hd1 : ∀ i ∈ [48, 49, 50, 51, 52, 53, 54, 55, 56, 57, 58, 59, 60, 61, 62, 63, 64, 65, 66, 67, 68, 69, 70, 71], i ∉ is1) (M1 : ∀ sz, Met l yX9_clear [Cond.code yX9_clear cX9_clear 3 (some .int)] rm1 (va_Pc [.ref qx] (PX g sz ws1)) (QI g ws1 sz r1 po1) mc1 ms1 (va_A ws1 sz)) (hrc1 : rm1.cells = mc1) (hrs1 : rm1.slots = ms1) (hR1 : rm1.frames + 1 ≤ room_1.frames ∧ 8 + (3 + 11) + rm1.locals ≤ room_1.locals) (hc1 : mc1 ≤ 100000 ∧ ms1 ≤ 1000000) (is2 : List Nat) (hi2 : is2.map (fun i => (WM g qm v)[i]?) = ws2.map some) (hn2 : va_nd is2 = true) (hd2 : ∀ i ∈ is2, i < 24) (M2 : ∀ sz, Met l yX10_clear [Cond.code yX10_clear cX10_clear 2 (some .int)] rm2 (va_Pc [.ref qm] (PX g sz ws2)) (QI g ws2 sz r2 (fun _ => [(qm, .inr (12, fs2))])) mc2 ms2 (va_A ws2 sz)) (hrc2 : rm2.cells = mc2) (hrs2 : rm2.slots = ms2) (hR2 : rm2.frames + 1 ≤ room_1.frames ∧ 8 + (2 + 11) + rm2.locals ≤ room_1.locals) (hc2 : mc2 ≤ 100000 ∧ ms2 ≤ 1000000) : W p l e room_1 s m #[Value.ref b] below meth c H locs 146 20899 (lw_Z below #[Value.ref b] s) (F0 m 240 ls []) := by
  have hx := C.hx
  have hb := C.hb
  have hml := C.hml
  have hown := C.hown
  have hE := C.hE
  have hz := C.hz
  have hA : ∀ q, s.heap.size ≤ q → LA s q := LA_new
  refine lv_aload_n hx hb dL_law_240 rfl (lv_at hl 4 rfl) ?_
  refine g_i (wr := WM g qm v) (rV (rest := []) hx hb hml hown hE hP hD 0 rfl rfl (M1 H.size) (kV_X9_clear hE (e286 hE) hrc1 hrs1 hR1) is1 hi1 hn1 rfl hl.1 rfl (lv_room (Nat.le_of_ble_eq_true rfl)) dL_law_241 ⟨by rw [rm_c]; omega, by rw [rm_s]; omega⟩) hP hD hS hA is1 [48, 49, 50, 51, 52, 53, 54, 55, 56, 57, 58, 59, 60, 61, 62, 63, 64, 65, 66, 67, 68, 69, 70, 71] hi1 rfl (by decide) hd1 (fun u1 H locs hP hD hS => ?_)
  refine lv_aload_n hx hb dL_law_244 rfl (lv_at hl 3 rfl) ?_
  refine g_i (wr := []) (rV (rest := [.int r1]) hx hb hml hown hE hP hD 23 rfl rfl (M2 H.size) (kV_X10_clear hE (e1416 hE) hrc2 hrs2 hR2) is2 (sub_app hi2) hn2 rfl hl.1 rfl (lv_room (Nat.le_of_ble_eq_true rfl)) dL_law_245 ⟨by rw [rm_c]; omega, by rw [rm_s]; omega⟩) hP hD hS hA is2 [] (sub_app hi2) rfl (by decide) (fun i hi => absurd hi List.not_mem_nil) (fun u2 H locs hP hD hS => ?_)
  refine lv_icmp_eq (tgt := 2958) hx hb dL_law_248 (by decide) (fun _ => ?_) (fun h => absurd hr12 h)
  exact lw_end C hS (lv_sub hl [0, 5] rfl) (by omega) (by omega)

set_option maxHeartbeats 4000000 in
set_option maxRecDepth 100000 in
theorem loD_eventCount (C : L0 p l s m meth c b 6 xs g) (hP : va_P g.1 vwCl (WL g qx u qm v qo qd) H) (hD : va_D (LA s) (WL g qx u qm v qo qd)) (hS : va_S (LA s) s.heap H locs) (hl : lv_has ls 9 [(5, .int 0), (4, .ref qd), (3, .ref qo), (2, .ref qm), (1, .ref qx), (0, .ref b)]) {ws1 ws2 : va_W} {rm1 rm2 : Room} {mc1 ms1 mc2 ms2 : Nat} {fs2 : List Value} {po1 : (Nat → Nat) → va_W} {r1 r2 : Int32} (hr12 : r1 = r2) (is1 : List Nat) (hi1 : is1.map (fun i => (WL g qx u qm v qo qd)[i]?) = ws1.map some) (hn1 : va_nd is1 = true) (hd1 : ∀ i ∈ [48, 49, 50, 51, 52, 53, 54, 55, 56, 57, 58, 59, 60, 61, 62, 63, 64, 65, 66, 67, 68, 69, 70, 71], i ∉ is1) (M1 : ∀ sz, Met l yX9_eventCount [Cond.code yX9_eventCount cX9_eventCount 1 (some .int)] rm1 (va_Pc [.ref qx] (PX g sz ws1)) (QI g ws1 sz r1 po1) mc1 ms1 (va_A ws1 sz)) (hrc1 : rm1.cells = mc1) (hrs1 : rm1.slots = ms1) (hR1 : rm1.frames + 1 ≤ room_1.frames ∧ 8 + (1 + 11) + rm1.locals ≤ room_1.locals) (hc1 : mc1 ≤ 100000 ∧ ms1 ≤ 1000000) (is2 : List Nat) (hi2 : is2.map (fun i => (WM g qm v)[i]?) = ws2.map some) (hn2 : va_nd is2 = true) (hd2 : ∀ i ∈ is2, i < 24) (M2 : ∀ sz, Met l yX10_eventCount [Cond.code yX10_eventCount cX10_eventCount 1 (some .int)] rm2 (va_Pc [.ref qm] (PX g sz ws2)) (QI g ws2 sz r2 (fun _ => [(qm, .inr (12, fs2))])) mc2 ms2 (va_A ws2 sz)) (hrc2 : rm2.cells = mc2) (hrs2 : rm2.slots = ms2) (hR2 : rm2.frames + 1 ≤ room_1.frames ∧ 8 + (1 + 11) + rm2.locals ≤ room_1.locals) (hc2 : mc2 ≤ 100000 ∧ ms2 ≤ 1000000) : W p l e room_1 s m #[Value.ref b] below meth c H locs 146 20899 (lw_Z below #[Value.ref b] s) (F0 m 2494 ls []) := by
  have hx := C.hx
  have hb := C.hb
  have hml := C.hml
  have hown := C.hown
  have hE := C.hE
  have hz := C.hz
  have hA : ∀ q, s.heap.size ≤ q → LA s q := LA_new
  refine lv_aload_n hx hb dL_law_2494 rfl (lv_at hl 4 rfl) ?_
  refine g_i (wr := WM g qm v) (rV (rest := []) hx hb hml hown hE hP hD 0 rfl rfl (M1 H.size) (kV_X9_eventCount hE (e498 hE) hrc1 hrs1 hR1) is1 hi1 hn1 rfl hl.1 rfl (lv_room (Nat.le_of_ble_eq_true rfl)) dL_law_2495 ⟨by rw [rm_c]; omega, by rw [rm_s]; omega⟩) hP hD hS hA is1 [48, 49, 50, 51, 52, 53, 54, 55, 56, 57, 58, 59, 60, 61, 62, 63, 64, 65, 66, 67, 68, 69, 70, 71] hi1 rfl (by decide) hd1 (fun u1 H locs hP hD hS => ?_)
  refine lv_aload_n hx hb dL_law_2498 rfl (lv_at hl 3 rfl) ?_
  refine g_i (wr := []) (rV (rest := [.int r1]) hx hb hml hown hE hP hD 23 rfl rfl (M2 H.size) (kV_X10_eventCount hE (e1700 hE) hrc2 hrs2 hR2) is2 (sub_app hi2) hn2 rfl hl.1 rfl (lv_room (Nat.le_of_ble_eq_true rfl)) dL_law_2499 ⟨by rw [rm_c]; omega, by rw [rm_s]; omega⟩) hP hD hS hA is2 [] (sub_app hi2) rfl (by decide) (fun i hi => absurd hi List.not_mem_nil) (fun u2 H locs hP hD hS => ?_)
  refine lv_icmp_eq (tgt := 2958) hx hb dL_law_2502 (by decide) (fun _ => ?_) (fun h => absurd hr12 h)
  exact lw_end C hS (lv_sub hl [0, 5] rfl) (by omega) (by omega)

set_option maxHeartbeats 4000000 in
set_option maxRecDepth 100000 in
theorem loD_polyphony (C : L0 p l s m meth c b 6 xs g) (hP : va_P g.1 vwCl (WL g qx u qm v qo qd) H) (hD : va_D (LA s) (WL g qx u qm v qo qd)) (hS : va_S (LA s) s.heap H locs) (hl : lv_has ls 9 [(5, .int 0), (4, .ref qd), (3, .ref qo), (2, .ref qm), (1, .ref qx), (0, .ref b)]) {ws1 ws2 : va_W} {rm1 rm2 : Room} {mc1 ms1 mc2 ms2 : Nat} {fs2 : List Value} {po1 : (Nat → Nat) → va_W} {r1 r2 : Int32} (hr12 : r1 = r2) (is1 : List Nat) (hi1 : is1.map (fun i => (WL g qx u qm v qo qd)[i]?) = ws1.map some) (hn1 : va_nd is1 = true) (hd1 : ∀ i ∈ [48, 49, 50, 51, 52, 53, 54, 55, 56, 57, 58, 59, 60, 61, 62, 63, 64, 65, 66, 67, 68, 69, 70, 71], i ∉ is1) (M1 : ∀ sz, Met l yX9_polyphony [Cond.code yX9_polyphony cX9_polyphony 1 (some .int)] rm1 (va_Pc [.ref qx] (PX g sz ws1)) (QI g ws1 sz r1 po1) mc1 ms1 (va_A ws1 sz)) (hrc1 : rm1.cells = mc1) (hrs1 : rm1.slots = ms1) (hR1 : rm1.frames + 1 ≤ room_1.frames ∧ 8 + (1 + 11) + rm1.locals ≤ room_1.locals) (hc1 : mc1 ≤ 100000 ∧ ms1 ≤ 1000000) (is2 : List Nat) (hi2 : is2.map (fun i => (WM g qm v)[i]?) = ws2.map some) (hn2 : va_nd is2 = true) (hd2 : ∀ i ∈ is2, i < 24) (M2 : ∀ sz, Met l yX10_polyphony [Cond.code yX10_polyphony cX10_polyphony 5 (some .int)] rm2 (va_Pc [.ref qm] (PX g sz ws2)) (QI g ws2 sz r2 (fun _ => [(qm, .inr (12, fs2))])) mc2 ms2 (va_A ws2 sz)) (hrc2 : rm2.cells = mc2) (hrs2 : rm2.slots = ms2) (hR2 : rm2.frames + 1 ≤ room_1.frames ∧ 8 + (5 + 11) + rm2.locals ≤ room_1.locals) (hc2 : mc2 ≤ 100000 ∧ ms2 ≤ 1000000) : W p l e room_1 s m #[Value.ref b] below meth c H locs 146 20899 (lw_Z below #[Value.ref b] s) (F0 m 2360 ls []) := by
  have hx := C.hx
  have hb := C.hb
  have hml := C.hml
  have hown := C.hown
  have hE := C.hE
  have hz := C.hz
  have hA : ∀ q, s.heap.size ≤ q → LA s q := LA_new
  refine lv_aload_n hx hb dL_law_2360 rfl (lv_at hl 4 rfl) ?_
  refine g_i (wr := WM g qm v) (rV (rest := []) hx hb hml hown hE hP hD 0 rfl rfl (M1 H.size) (kV_X9_polyphony hE (e314 hE) hrc1 hrs1 hR1) is1 hi1 hn1 rfl hl.1 rfl (lv_room (Nat.le_of_ble_eq_true rfl)) dL_law_2361 ⟨by rw [rm_c]; omega, by rw [rm_s]; omega⟩) hP hD hS hA is1 [48, 49, 50, 51, 52, 53, 54, 55, 56, 57, 58, 59, 60, 61, 62, 63, 64, 65, 66, 67, 68, 69, 70, 71] hi1 rfl (by decide) hd1 (fun u1 H locs hP hD hS => ?_)
  refine lv_aload_n hx hb dL_law_2364 rfl (lv_at hl 3 rfl) ?_
  refine g_i (wr := []) (rV (rest := [.int r1]) hx hb hml hown hE hP hD 23 rfl rfl (M2 H.size) (kV_X10_polyphony hE (e1688 hE) hrc2 hrs2 hR2) is2 (sub_app hi2) hn2 rfl hl.1 rfl (lv_room (Nat.le_of_ble_eq_true rfl)) dL_law_2365 ⟨by rw [rm_c]; omega, by rw [rm_s]; omega⟩) hP hD hS hA is2 [] (sub_app hi2) rfl (by decide) (fun i hi => absurd hi List.not_mem_nil) (fun u2 H locs hP hD hS => ?_)
  refine lv_icmp_eq (tgt := 2958) hx hb dL_law_2368 (by decide) (fun _ => ?_) (fun h => absurd hr12 h)
  exact lw_end C hS (lv_sub hl [0, 5] rfl) (by omega) (by omega)

set_option maxHeartbeats 4000000 in
set_option maxRecDepth 100000 in
theorem loD_save (C : L0 p l s m meth c b 6 xs g) (hP : va_P g.1 vwCl (WL g qx u qm v qo qd) H) (hD : va_D (LA s) (WL g qx u qm v qo qd)) (hS : va_S (LA s) s.heap H locs) (hl : lv_has ls 9 [(5, .int 0), (4, .ref qd), (3, .ref qo), (2, .ref qm), (1, .ref qx), (0, .ref b)]) {ws1 ws2 : va_W} {rm1 rm2 : Room} {mc1 ms1 mc2 ms2 : Nat} {fs2 : List Value} {po1 : (Nat → Nat) → va_W} {r1 r2 : Int32} (hr12 : r1 = r2) (is1 : List Nat) (hi1 : is1.map (fun i => (WL g qx u qm v qo qd)[i]?) = ws1.map some) (hn1 : va_nd is1 = true) (hd1 : ∀ i ∈ [48, 49, 50, 51, 52, 53, 54, 55, 56, 57, 58, 59, 60, 61, 62, 63, 64, 65, 66, 67, 68, 69, 70, 71], i ∉ is1) (M1 : ∀ sz, Met l yX9_save [Cond.code yX9_save cX9_save 1 (some .int)] rm1 (va_Pc [.ref qx] (PX g sz ws1)) (QI g ws1 sz r1 po1) mc1 ms1 (va_A ws1 sz)) (hrc1 : rm1.cells = mc1) (hrs1 : rm1.slots = ms1) (hR1 : rm1.frames + 1 ≤ room_1.frames ∧ 8 + (1 + 11) + rm1.locals ≤ room_1.locals) (hc1 : mc1 ≤ 100000 ∧ ms1 ≤ 1000000) (is2 : List Nat) (hi2 : is2.map (fun i => (WM g qm v)[i]?) = ws2.map some) (hn2 : va_nd is2 = true) (hd2 : ∀ i ∈ is2, i < 24) (M2 : ∀ sz, Met l yX10_save [Cond.code yX10_save cX10_save 2 (some .int)] rm2 (va_Pc [.ref qm] (PX g sz ws2)) (QI g ws2 sz r2 (fun _ => [(qm, .inr (12, fs2))])) mc2 ms2 (va_A ws2 sz)) (hrc2 : rm2.cells = mc2) (hrs2 : rm2.slots = ms2) (hR2 : rm2.frames + 1 ≤ room_1.frames ∧ 8 + (2 + 11) + rm2.locals ≤ room_1.locals) (hc2 : mc2 ≤ 100000 ∧ ms2 ≤ 1000000) : W p l e room_1 s m #[Value.ref b] below meth c H locs 146 20899 (lw_Z below #[Value.ref b] s) (F0 m 2901 ls []) := by
  have hx := C.hx
  have hb := C.hb
  have hml := C.hml
  have hown := C.hown
  have hE := C.hE
  have hz := C.hz
  have hA : ∀ q, s.heap.size ≤ q → LA s q := LA_new
  refine lv_aload_n hx hb dL_law_2901 rfl (lv_at hl 4 rfl) ?_
  refine g_i (wr := WM g qm v) (rV (rest := []) hx hb hml hown hE hP hD 0 rfl rfl (M1 H.size) (kV_X9_save hE (e506 hE) hrc1 hrs1 hR1) is1 hi1 hn1 rfl hl.1 rfl (lv_room (Nat.le_of_ble_eq_true rfl)) dL_law_2902 ⟨by rw [rm_c]; omega, by rw [rm_s]; omega⟩) hP hD hS hA is1 [48, 49, 50, 51, 52, 53, 54, 55, 56, 57, 58, 59, 60, 61, 62, 63, 64, 65, 66, 67, 68, 69, 70, 71] hi1 rfl (by decide) hd1 (fun u1 H locs hP hD hS => ?_)
  refine lv_aload_n hx hb dL_law_2905 rfl (lv_at hl 3 rfl) ?_
  refine g_i (wr := []) (rV (rest := [.int r1]) hx hb hml hown hE hP hD 23 rfl rfl (M2 H.size) (kV_X10_save hE (e1776 hE) hrc2 hrs2 hR2) is2 (sub_app hi2) hn2 rfl hl.1 rfl (lv_room (Nat.le_of_ble_eq_true rfl)) dL_law_2906 ⟨by rw [rm_c]; omega, by rw [rm_s]; omega⟩) hP hD hS hA is2 [] (sub_app hi2) rfl (by decide) (fun i hi => absurd hi List.not_mem_nil) (fun u2 H locs hP hD hS => ?_)
  refine lv_icmp_eq (tgt := 2958) hx hb dL_law_2909 (by decide) (fun _ => ?_) (fun h => absurd hr12 h)
  exact lw_end C hS (lv_sub hl [0, 5] rfl) (by omega) (by omega)

set_option maxHeartbeats 4000000 in
set_option maxRecDepth 100000 in
theorem loK_addCall (C : L0 p l s m meth c b 6 xs g) (hP : va_P g.1 vwCl (WL g qx u qm v qo qd) H) (hD : va_D (LA s) (WL g qx u qm v qo qd)) (hS : va_S (LA s) s.heap H locs) (hl : lv_has ls 9 [(5, .int 0), (4, .ref qd), (3, .ref qo), (2, .ref qm), (1, .ref qx), (0, .ref b)]) {a1 a2 a3 : Int32} (x1 : xs 1 = a1) (x2 : xs 2 = a2) (x3 : xs 3 = a3) {ws1 ws2 : va_W} {rm1 rm2 : Room} {mc1 ms1 mc2 ms2 : Nat} {fs2 : List Value} {po1 : (Nat → Nat) → va_W} {K T : Int32} (hK : ¬ K = 0) (hTK : T = K) {r2 : Int32} (hT : fs2[6]? = some (.int T)) (is1 : List Nat) (hi1 : is1.map (fun i => (WL g qx u qm v qo qd)[i]?) = ws1.map some) (hn1 : va_nd is1 = true) (hd1 : ∀ i ∈ [48, 49, 50, 51, 52, 53, 54, 55, 56, 57, 58, 59, 60, 61, 62, 63, 64, 65, 66, 67, 68, 69, 70, 71], i ∉ is1) (M1 : ∀ sz, Met l yL_addCall [Cond.codeWith yL_addCall cL_addCall 6 (some .int) [(0, 12, 15, 13), (0, 12, 19, 15), (0, 12, 23, 17)]] rm1 (va_Pc [.ref qx, .int a1, .int a2, .int a3, .ref qo] (PZ g sz ws1)) (QI g ws1 sz K po1) mc1 ms1 (va_A ws1 sz)) (hrc1 : rm1.cells = mc1) (hrs1 : rm1.slots = ms1) (hR1 : rm1.frames + 1 ≤ room_1.frames ∧ 8 + (6 + 11) + rm1.locals ≤ room_1.locals) (hc1 : mc1 ≤ 100000 ∧ ms1 ≤ 1000000) (is2 : List Nat) (hi2 : is2.map (fun i => (WM g qm v)[i]?) = ws2.map some) (hn2 : va_nd is2 = true) (hd2 : ∀ i ∈ is2, i < 24) (M2 : ∀ sz, Met l yX10_addCall [Cond.code yX10_addCall cX10_addCall 4 (some .int)] rm2 (va_Pc [.ref qm, .int a1, .int a2, .int a3] (PX g sz ws2)) (QI g ws2 sz r2 (fun _ => [(qm, .inr (12, fs2))])) mc2 ms2 (va_A ws2 sz)) (hrc2 : rm2.cells = mc2) (hrs2 : rm2.slots = ms2) (hR2 : rm2.frames + 1 ≤ room_1.frames ∧ 8 + (4 + 11) + rm2.locals ≤ room_1.locals) (hc2 : mc2 ≤ 100000 ∧ ms2 ≤ 1000000) : W p l e room_1 s m #[Value.ref b] below meth c H locs 146 20899 (lw_Z below #[Value.ref b] s) (F0 m 413 ls []) := by
  have hx := C.hx
  have hb := C.hb
  have hml := C.hml
  have hown := C.hown
  have hE := C.hE
  have hz := C.hz
  have hA : ∀ q, s.heap.size ≤ q → LA s q := LA_new
  refine lv_aload_n hx hb dL_law_413 rfl (lv_at hl 4 rfl) ?_
  refine lv_aload_n hx hb dL_law_414 rfl (lv_at hl 5 rfl) ?_
  refine lv_iload hx hb dL_law_415 (lv_at hl 0 rfl) ?_
  refine lv_iconst (v := 1) hx hb dL_law_417 (by decide) ?_
  refine x_iadd (v := 1) hx hb dL_law_418 (by decide) ?_
  refine x_sld (z := a1) hx hb C.hX C.hbl C.hbA hS (x_in (by decide)) (k := 1) (by decide) x1 dL_law_419 ?_
  refine lv_aload_n hx hb dL_law_420 rfl (lv_at hl 5 rfl) ?_
  refine lv_iload hx hb dL_law_421 (lv_at hl 0 rfl) ?_
  refine lv_iconst (v := 2) hx hb dL_law_423 (by decide) ?_
  refine x_iadd (v := 2) hx hb dL_law_424 (by decide) ?_
  refine x_sld (z := a2) hx hb C.hX C.hbl C.hbA hS (x_in (by decide)) (k := 2) (by decide) x2 dL_law_425 ?_
  refine lv_aload_n hx hb dL_law_426 rfl (lv_at hl 5 rfl) ?_
  refine lv_iload hx hb dL_law_427 (lv_at hl 0 rfl) ?_
  refine lv_iconst (v := 3) hx hb dL_law_429 (by decide) ?_
  refine x_iadd (v := 3) hx hb dL_law_430 (by decide) ?_
  refine x_sld (z := a3) hx hb C.hX C.hbl C.hbA hS (x_in (by decide)) (k := 3) (by decide) x3 dL_law_431 ?_
  refine lv_aload_n hx hb dL_law_432 rfl (lv_at hl 2 rfl) ?_
  refine g_i (wr := WM g qm v) (rSW (rest := []) hx hb hml hown hE hP hD hS hA hz (M1 H.size) (kSW_L_addCall hE (e734 hE) hrc1 hrs1 hR1) is1 hi1 hn1 rfl hl.1 rfl (lv_room (Nat.le_of_ble_eq_true rfl)) dL_law_433 ⟨by rw [rm_c]; omega, by rw [rm_s]; omega⟩) hP hD hS hA is1 [48, 49, 50, 51, 52, 53, 54, 55, 56, 57, 58, 59, 60, 61, 62, 63, 64, 65, 66, 67, 68, 69, 70, 71] hi1 rfl (by decide) hd1 (fun u1 H locs hP hD hS => ?_)
  refine lv_istore (lv' := [(6, .int K), (5, .int 0), (4, .ref qd), (3, .ref qo), (2, .ref qm), (1, .ref qx), (0, .ref b)]) hx hb dL_law_436 hl (by decide) rfl (fun ls hl => ?_)
  refine lv_aload_n hx hb dL_law_438 rfl (lv_at hl 4 rfl) ?_
  refine lv_aload_n hx hb dL_law_439 rfl (lv_at hl 6 rfl) ?_
  refine lv_iload hx hb dL_law_440 (lv_at hl 1 rfl) ?_
  refine lv_iconst (v := 1) hx hb dL_law_442 (by decide) ?_
  refine x_iadd (v := 1) hx hb dL_law_443 (by decide) ?_
  refine x_sld (z := a1) hx hb C.hX C.hbl C.hbA hS (x_in (by decide)) (k := 1) (by decide) x1 dL_law_444 ?_
  refine lv_aload_n hx hb dL_law_445 rfl (lv_at hl 6 rfl) ?_
  refine lv_iload hx hb dL_law_446 (lv_at hl 1 rfl) ?_
  refine lv_iconst (v := 2) hx hb dL_law_448 (by decide) ?_
  refine x_iadd (v := 2) hx hb dL_law_449 (by decide) ?_
  refine x_sld (z := a2) hx hb C.hX C.hbl C.hbA hS (x_in (by decide)) (k := 2) (by decide) x2 dL_law_450 ?_
  refine lv_aload_n hx hb dL_law_451 rfl (lv_at hl 6 rfl) ?_
  refine lv_iload hx hb dL_law_452 (lv_at hl 1 rfl) ?_
  refine lv_iconst (v := 3) hx hb dL_law_454 (by decide) ?_
  refine x_iadd (v := 3) hx hb dL_law_455 (by decide) ?_
  refine x_sld (z := a3) hx hb C.hX C.hbl C.hbA hS (x_in (by decide)) (k := 3) (by decide) x3 dL_law_456 ?_
  refine g_i (wr := []) (rV (rest := []) hx hb hml hown hE hP hD 23 rfl rfl (M2 H.size) (kV_X10_addCall hE (e1486 hE) hrc2 hrs2 hR2) is2 (sub_app hi2) hn2 rfl hl.1 rfl (lv_room (Nat.le_of_ble_eq_true rfl)) dL_law_457 ⟨by rw [rm_c]; omega, by rw [rm_s]; omega⟩) hP hD hS hA is2 [] (sub_app hi2) rfl (by decide) (fun i hi => absurd hi List.not_mem_nil) (fun u2 H locs hP hD hS => ?_)
  refine lv_istore (lv' := [(7, .int r2), (6, .int K), (5, .int 0), (4, .ref qd), (3, .ref qo), (2, .ref qm), (1, .ref qx), (0, .ref b)]) hx hb dL_law_460 hl (by decide) rfl (fun ls hl => ?_)
  refine lv_aload_n hx hb dL_law_462 rfl (lv_at hl 5 rfl) ?_
  refine g_i (wr := []) (rV (rest := []) hx hb hml hown hE hP hD 0 rfl rfl (h_thrown l g qm fs2 T hT H.size) (kV_X10_thrown hE (e1412 hE) rfl rfl ⟨(Nat.le_of_ble_eq_true rfl), (Nat.le_of_ble_eq_true rfl)⟩) [0] rfl (by decide) rfl hl.1 rfl (lv_room (Nat.le_of_ble_eq_true rfl)) dL_law_463 ⟨by rw [rm_c]; omega, by rw [rm_s]; omega⟩) hP hD hS hA [0] [] rfl rfl (by decide) (by decide) (fun u3 H locs hP hD hS => ?_)
  refine lv_iload hx hb dL_law_466 (lv_at hl 1 rfl) ?_
  refine lv_icmp_eq (tgt := 473) hx hb dL_law_468 (by decide) (fun _ => ?_) (fun h => absurd hTK h)
  refine lv_iload hx hb dL_law_473 (lv_at hl 1 rfl) ?_
  refine lv_if_ne (tgt := 490) hx hb dL_law_475 (by decide) (fun _ => ?_) (fun h => absurd h hK)
  refine lv_goto (tgt := 2958) hx hb dL_law_490 (by decide) ?_
  exact lw_end C hS (lv_sub hl [2, 7] rfl) (by omega) (by omega)

set_option maxHeartbeats 4000000 in
set_option maxRecDepth 100000 in
theorem loK_addClip (C : L0 p l s m meth c b 6 xs g) (hP : va_P g.1 vwCl (WL g qx u qm v qo qd) H) (hD : va_D (LA s) (WL g qx u qm v qo qd)) (hS : va_S (LA s) s.heap H locs) (hl : lv_has ls 9 [(5, .int 0), (4, .ref qd), (3, .ref qo), (2, .ref qm), (1, .ref qx), (0, .ref b)]) {a1 a2 a3 a4 a5 : Int32} (x1 : xs 1 = a1) (x2 : xs 2 = a2) (x3 : xs 3 = a3) (x4 : xs 4 = a4) (x5 : xs 5 = a5) {ws1 ws2 : va_W} {rm1 rm2 : Room} {mc1 ms1 mc2 ms2 : Nat} {fs2 : List Value} {po1 : (Nat → Nat) → va_W} {K T : Int32} (hK : ¬ K = 0) (hTK : T = K) {r2 : Int32} (hT : fs2[6]? = some (.int T)) (is1 : List Nat) (hi1 : is1.map (fun i => (WL g qx u qm v qo qd)[i]?) = ws1.map some) (hn1 : va_nd is1 = true) (hd1 : ∀ i ∈ [48, 49, 50, 51, 52, 53, 54, 55, 56, 57, 58, 59, 60, 61, 62, 63, 64, 65, 66, 67, 68, 69, 70, 71], i ∉ is1) (M1 : ∀ sz, Met l yL_addClip [Cond.codeWith yL_addClip cL_addClip 8 (some .int) [(0, 16, 19, 15), (0, 16, 23, 17)]] rm1 (va_Pc [.ref qx, .int a1, .int a2, .int a3, .int a4, .int a5, .ref qo] (PZ g sz ws1)) (QI g ws1 sz K po1) mc1 ms1 (va_A ws1 sz)) (hrc1 : rm1.cells = mc1) (hrs1 : rm1.slots = ms1) (hR1 : rm1.frames + 1 ≤ room_1.frames ∧ 8 + (8 + 11) + rm1.locals ≤ room_1.locals) (hc1 : mc1 ≤ 100000 ∧ ms1 ≤ 1000000) (is2 : List Nat) (hi2 : is2.map (fun i => (WM g qm v)[i]?) = ws2.map some) (hn2 : va_nd is2 = true) (hd2 : ∀ i ∈ is2, i < 24) (M2 : ∀ sz, Met l yX10_addClip [Cond.code yX10_addClip cX10_addClip 8 (some .int)] rm2 (va_Pc [.ref qm, .int a1, .int a2, .int a3, .int a4, .int a5] (PX g sz ws2)) (QI g ws2 sz r2 (fun _ => [(qm, .inr (12, fs2))])) mc2 ms2 (va_A ws2 sz)) (hrc2 : rm2.cells = mc2) (hrs2 : rm2.slots = ms2) (hR2 : rm2.frames + 1 ≤ room_1.frames ∧ 8 + (8 + 11) + rm2.locals ≤ room_1.locals) (hc2 : mc2 ≤ 100000 ∧ ms2 ≤ 1000000) : W p l e room_1 s m #[Value.ref b] below meth c H locs 146 20899 (lw_Z below #[Value.ref b] s) (F0 m 789 ls []) := by
  have hx := C.hx
  have hb := C.hb
  have hml := C.hml
  have hown := C.hown
  have hE := C.hE
  have hz := C.hz
  have hA : ∀ q, s.heap.size ≤ q → LA s q := LA_new
  refine lv_aload_n hx hb dL_law_789 rfl (lv_at hl 4 rfl) ?_
  refine lv_aload_n hx hb dL_law_790 rfl (lv_at hl 5 rfl) ?_
  refine lv_iload hx hb dL_law_791 (lv_at hl 0 rfl) ?_
  refine lv_iconst (v := 1) hx hb dL_law_793 (by decide) ?_
  refine x_iadd (v := 1) hx hb dL_law_794 (by decide) ?_
  refine x_sld (z := a1) hx hb C.hX C.hbl C.hbA hS (x_in (by decide)) (k := 1) (by decide) x1 dL_law_795 ?_
  refine lv_aload_n hx hb dL_law_796 rfl (lv_at hl 5 rfl) ?_
  refine lv_iload hx hb dL_law_797 (lv_at hl 0 rfl) ?_
  refine lv_iconst (v := 2) hx hb dL_law_799 (by decide) ?_
  refine x_iadd (v := 2) hx hb dL_law_800 (by decide) ?_
  refine x_sld (z := a2) hx hb C.hX C.hbl C.hbA hS (x_in (by decide)) (k := 2) (by decide) x2 dL_law_801 ?_
  refine lv_aload_n hx hb dL_law_802 rfl (lv_at hl 5 rfl) ?_
  refine lv_iload hx hb dL_law_803 (lv_at hl 0 rfl) ?_
  refine lv_iconst (v := 3) hx hb dL_law_805 (by decide) ?_
  refine x_iadd (v := 3) hx hb dL_law_806 (by decide) ?_
  refine x_sld (z := a3) hx hb C.hX C.hbl C.hbA hS (x_in (by decide)) (k := 3) (by decide) x3 dL_law_807 ?_
  refine lv_aload_n hx hb dL_law_808 rfl (lv_at hl 5 rfl) ?_
  refine lv_iload hx hb dL_law_809 (lv_at hl 0 rfl) ?_
  refine lv_iconst (v := 4) hx hb dL_law_811 (by decide) ?_
  refine x_iadd (v := 4) hx hb dL_law_812 (by decide) ?_
  refine x_sld (z := a4) hx hb C.hX C.hbl C.hbA hS (x_in (by decide)) (k := 4) (by decide) x4 dL_law_813 ?_
  refine lv_aload_n hx hb dL_law_814 rfl (lv_at hl 5 rfl) ?_
  refine lv_iload hx hb dL_law_815 (lv_at hl 0 rfl) ?_
  refine lv_iconst (v := 5) hx hb dL_law_817 (by decide) ?_
  refine x_iadd (v := 5) hx hb dL_law_818 (by decide) ?_
  refine x_sld (z := a5) hx hb C.hX C.hbl C.hbA hS (x_in (by decide)) (k := 5) (by decide) x5 dL_law_819 ?_
  refine lv_aload_n hx hb dL_law_820 rfl (lv_at hl 2 rfl) ?_
  refine g_i (wr := WM g qm v) (rSW (rest := []) hx hb hml hown hE hP hD hS hA hz (M1 H.size) (kSW_L_addClip hE (e800 hE) hrc1 hrs1 hR1) is1 hi1 hn1 rfl hl.1 rfl (lv_room (Nat.le_of_ble_eq_true rfl)) dL_law_821 ⟨by rw [rm_c]; omega, by rw [rm_s]; omega⟩) hP hD hS hA is1 [48, 49, 50, 51, 52, 53, 54, 55, 56, 57, 58, 59, 60, 61, 62, 63, 64, 65, 66, 67, 68, 69, 70, 71] hi1 rfl (by decide) hd1 (fun u1 H locs hP hD hS => ?_)
  refine lv_istore (lv' := [(6, .int K), (5, .int 0), (4, .ref qd), (3, .ref qo), (2, .ref qm), (1, .ref qx), (0, .ref b)]) hx hb dL_law_824 hl (by decide) rfl (fun ls hl => ?_)
  refine lv_aload_n hx hb dL_law_826 rfl (lv_at hl 4 rfl) ?_
  refine lv_aload_n hx hb dL_law_827 rfl (lv_at hl 6 rfl) ?_
  refine lv_iload hx hb dL_law_828 (lv_at hl 1 rfl) ?_
  refine lv_iconst (v := 1) hx hb dL_law_830 (by decide) ?_
  refine x_iadd (v := 1) hx hb dL_law_831 (by decide) ?_
  refine x_sld (z := a1) hx hb C.hX C.hbl C.hbA hS (x_in (by decide)) (k := 1) (by decide) x1 dL_law_832 ?_
  refine lv_aload_n hx hb dL_law_833 rfl (lv_at hl 6 rfl) ?_
  refine lv_iload hx hb dL_law_834 (lv_at hl 1 rfl) ?_
  refine lv_iconst (v := 2) hx hb dL_law_836 (by decide) ?_
  refine x_iadd (v := 2) hx hb dL_law_837 (by decide) ?_
  refine x_sld (z := a2) hx hb C.hX C.hbl C.hbA hS (x_in (by decide)) (k := 2) (by decide) x2 dL_law_838 ?_
  refine lv_aload_n hx hb dL_law_839 rfl (lv_at hl 6 rfl) ?_
  refine lv_iload hx hb dL_law_840 (lv_at hl 1 rfl) ?_
  refine lv_iconst (v := 3) hx hb dL_law_842 (by decide) ?_
  refine x_iadd (v := 3) hx hb dL_law_843 (by decide) ?_
  refine x_sld (z := a3) hx hb C.hX C.hbl C.hbA hS (x_in (by decide)) (k := 3) (by decide) x3 dL_law_844 ?_
  refine lv_aload_n hx hb dL_law_845 rfl (lv_at hl 6 rfl) ?_
  refine lv_iload hx hb dL_law_846 (lv_at hl 1 rfl) ?_
  refine lv_iconst (v := 4) hx hb dL_law_848 (by decide) ?_
  refine x_iadd (v := 4) hx hb dL_law_849 (by decide) ?_
  refine x_sld (z := a4) hx hb C.hX C.hbl C.hbA hS (x_in (by decide)) (k := 4) (by decide) x4 dL_law_850 ?_
  refine lv_aload_n hx hb dL_law_851 rfl (lv_at hl 6 rfl) ?_
  refine lv_iload hx hb dL_law_852 (lv_at hl 1 rfl) ?_
  refine lv_iconst (v := 5) hx hb dL_law_854 (by decide) ?_
  refine x_iadd (v := 5) hx hb dL_law_855 (by decide) ?_
  refine x_sld (z := a5) hx hb C.hX C.hbl C.hbA hS (x_in (by decide)) (k := 5) (by decide) x5 dL_law_856 ?_
  refine g_i (wr := []) (rV (rest := []) hx hb hml hown hE hP hD 23 rfl rfl (M2 H.size) (kV_X10_addClip hE (e1519 hE) hrc2 hrs2 hR2) is2 (sub_app hi2) hn2 rfl hl.1 rfl (lv_room (Nat.le_of_ble_eq_true rfl)) dL_law_857 ⟨by rw [rm_c]; omega, by rw [rm_s]; omega⟩) hP hD hS hA is2 [] (sub_app hi2) rfl (by decide) (fun i hi => absurd hi List.not_mem_nil) (fun u2 H locs hP hD hS => ?_)
  refine lv_istore (lv' := [(7, .int r2), (6, .int K), (5, .int 0), (4, .ref qd), (3, .ref qo), (2, .ref qm), (1, .ref qx), (0, .ref b)]) hx hb dL_law_860 hl (by decide) rfl (fun ls hl => ?_)
  refine lv_aload_n hx hb dL_law_862 rfl (lv_at hl 5 rfl) ?_
  refine g_i (wr := []) (rV (rest := []) hx hb hml hown hE hP hD 0 rfl rfl (h_thrown l g qm fs2 T hT H.size) (kV_X10_thrown hE (e1412 hE) rfl rfl ⟨(Nat.le_of_ble_eq_true rfl), (Nat.le_of_ble_eq_true rfl)⟩) [0] rfl (by decide) rfl hl.1 rfl (lv_room (Nat.le_of_ble_eq_true rfl)) dL_law_863 ⟨by rw [rm_c]; omega, by rw [rm_s]; omega⟩) hP hD hS hA [0] [] rfl rfl (by decide) (by decide) (fun u3 H locs hP hD hS => ?_)
  refine lv_iload hx hb dL_law_866 (lv_at hl 1 rfl) ?_
  refine lv_icmp_eq (tgt := 873) hx hb dL_law_868 (by decide) (fun _ => ?_) (fun h => absurd hTK h)
  refine lv_iload hx hb dL_law_873 (lv_at hl 1 rfl) ?_
  refine lv_if_ne (tgt := 890) hx hb dL_law_875 (by decide) (fun _ => ?_) (fun h => absurd h hK)
  refine lv_goto (tgt := 2958) hx hb dL_law_890 (by decide) ?_
  exact lw_end C hS (lv_sub hl [2, 7] rfl) (by omega) (by omega)

set_option maxHeartbeats 4000000 in
set_option maxRecDepth 100000 in
theorem loK_addNote (C : L0 p l s m meth c b 6 xs g) (hP : va_P g.1 vwCl (WL g qx u qm v qo qd) H) (hD : va_D (LA s) (WL g qx u qm v qo qd)) (hS : va_S (LA s) s.heap H locs) (hl : lv_has ls 9 [(5, .int 0), (4, .ref qd), (3, .ref qo), (2, .ref qm), (1, .ref qx), (0, .ref b)]) {a1 a2 a3 a4 : Int32} (x1 : xs 1 = a1) (x2 : xs 2 = a2) (x3 : xs 3 = a3) (x4 : xs 4 = a4) {ws1 ws2 : va_W} {rm1 rm2 : Room} {mc1 ms1 mc2 ms2 : Nat} {fs2 : List Value} {po1 : (Nat → Nat) → va_W} {K T : Int32} (hK : ¬ K = 0) (hTK : T = K) {r2 : Int32} (hT : fs2[6]? = some (.int T)) (is1 : List Nat) (hi1 : is1.map (fun i => (WL g qx u qm v qo qd)[i]?) = ws1.map some) (hn1 : va_nd is1 = true) (hd1 : ∀ i ∈ [48, 49, 50, 51, 52, 53, 54, 55, 56, 57, 58, 59, 60, 61, 62, 63, 64, 65, 66, 67, 68, 69, 70, 71], i ∉ is1) (M1 : ∀ sz, Met l yL_addNote [Cond.codeWith yL_addNote cL_addNote 7 (some .int) [(0, 14, 17, 13), (0, 14, 21, 15), (0, 14, 25, 17)]] rm1 (va_Pc [.ref qx, .int a1, .int a2, .int a3, .int a4, .ref qo] (PZ g sz ws1)) (QI g ws1 sz K po1) mc1 ms1 (va_A ws1 sz)) (hrc1 : rm1.cells = mc1) (hrs1 : rm1.slots = ms1) (hR1 : rm1.frames + 1 ≤ room_1.frames ∧ 8 + (7 + 11) + rm1.locals ≤ room_1.locals) (hc1 : mc1 ≤ 100000 ∧ ms1 ≤ 1000000) (is2 : List Nat) (hi2 : is2.map (fun i => (WM g qm v)[i]?) = ws2.map some) (hn2 : va_nd is2 = true) (hd2 : ∀ i ∈ is2, i < 24) (M2 : ∀ sz, Met l yX10_addNote [Cond.code yX10_addNote cX10_addNote 5 (some .int)] rm2 (va_Pc [.ref qm, .int a1, .int a2, .int a3, .int a4] (PX g sz ws2)) (QI g ws2 sz r2 (fun _ => [(qm, .inr (12, fs2))])) mc2 ms2 (va_A ws2 sz)) (hrc2 : rm2.cells = mc2) (hrs2 : rm2.slots = ms2) (hR2 : rm2.frames + 1 ≤ room_1.frames ∧ 8 + (5 + 11) + rm2.locals ≤ room_1.locals) (hc2 : mc2 ≤ 100000 ∧ ms2 ≤ 1000000) : W p l e room_1 s m #[Value.ref b] below meth c H locs 146 20899 (lw_Z below #[Value.ref b] s) (F0 m 253 ls []) := by
  have hx := C.hx
  have hb := C.hb
  have hml := C.hml
  have hown := C.hown
  have hE := C.hE
  have hz := C.hz
  have hA : ∀ q, s.heap.size ≤ q → LA s q := LA_new
  refine lv_aload_n hx hb dL_law_253 rfl (lv_at hl 4 rfl) ?_
  refine lv_aload_n hx hb dL_law_254 rfl (lv_at hl 5 rfl) ?_
  refine lv_iload hx hb dL_law_255 (lv_at hl 0 rfl) ?_
  refine lv_iconst (v := 1) hx hb dL_law_257 (by decide) ?_
  refine x_iadd (v := 1) hx hb dL_law_258 (by decide) ?_
  refine x_sld (z := a1) hx hb C.hX C.hbl C.hbA hS (x_in (by decide)) (k := 1) (by decide) x1 dL_law_259 ?_
  refine lv_aload_n hx hb dL_law_260 rfl (lv_at hl 5 rfl) ?_
  refine lv_iload hx hb dL_law_261 (lv_at hl 0 rfl) ?_
  refine lv_iconst (v := 2) hx hb dL_law_263 (by decide) ?_
  refine x_iadd (v := 2) hx hb dL_law_264 (by decide) ?_
  refine x_sld (z := a2) hx hb C.hX C.hbl C.hbA hS (x_in (by decide)) (k := 2) (by decide) x2 dL_law_265 ?_
  refine lv_aload_n hx hb dL_law_266 rfl (lv_at hl 5 rfl) ?_
  refine lv_iload hx hb dL_law_267 (lv_at hl 0 rfl) ?_
  refine lv_iconst (v := 3) hx hb dL_law_269 (by decide) ?_
  refine x_iadd (v := 3) hx hb dL_law_270 (by decide) ?_
  refine x_sld (z := a3) hx hb C.hX C.hbl C.hbA hS (x_in (by decide)) (k := 3) (by decide) x3 dL_law_271 ?_
  refine lv_aload_n hx hb dL_law_272 rfl (lv_at hl 5 rfl) ?_
  refine lv_iload hx hb dL_law_273 (lv_at hl 0 rfl) ?_
  refine lv_iconst (v := 4) hx hb dL_law_275 (by decide) ?_
  refine x_iadd (v := 4) hx hb dL_law_276 (by decide) ?_
  refine x_sld (z := a4) hx hb C.hX C.hbl C.hbA hS (x_in (by decide)) (k := 4) (by decide) x4 dL_law_277 ?_
  refine lv_aload_n hx hb dL_law_278 rfl (lv_at hl 2 rfl) ?_
  refine g_i (wr := WM g qm v) (rSW (rest := []) hx hb hml hown hE hP hD hS hA hz (M1 H.size) (kSW_L_addNote hE (e529 hE) hrc1 hrs1 hR1) is1 hi1 hn1 rfl hl.1 rfl (lv_room (Nat.le_of_ble_eq_true rfl)) dL_law_279 ⟨by rw [rm_c]; omega, by rw [rm_s]; omega⟩) hP hD hS hA is1 [48, 49, 50, 51, 52, 53, 54, 55, 56, 57, 58, 59, 60, 61, 62, 63, 64, 65, 66, 67, 68, 69, 70, 71] hi1 rfl (by decide) hd1 (fun u1 H locs hP hD hS => ?_)
  refine lv_istore (lv' := [(6, .int K), (5, .int 0), (4, .ref qd), (3, .ref qo), (2, .ref qm), (1, .ref qx), (0, .ref b)]) hx hb dL_law_282 hl (by decide) rfl (fun ls hl => ?_)
  refine lv_aload_n hx hb dL_law_284 rfl (lv_at hl 4 rfl) ?_
  refine lv_aload_n hx hb dL_law_285 rfl (lv_at hl 6 rfl) ?_
  refine lv_iload hx hb dL_law_286 (lv_at hl 1 rfl) ?_
  refine lv_iconst (v := 1) hx hb dL_law_288 (by decide) ?_
  refine x_iadd (v := 1) hx hb dL_law_289 (by decide) ?_
  refine x_sld (z := a1) hx hb C.hX C.hbl C.hbA hS (x_in (by decide)) (k := 1) (by decide) x1 dL_law_290 ?_
  refine lv_aload_n hx hb dL_law_291 rfl (lv_at hl 6 rfl) ?_
  refine lv_iload hx hb dL_law_292 (lv_at hl 1 rfl) ?_
  refine lv_iconst (v := 2) hx hb dL_law_294 (by decide) ?_
  refine x_iadd (v := 2) hx hb dL_law_295 (by decide) ?_
  refine x_sld (z := a2) hx hb C.hX C.hbl C.hbA hS (x_in (by decide)) (k := 2) (by decide) x2 dL_law_296 ?_
  refine lv_aload_n hx hb dL_law_297 rfl (lv_at hl 6 rfl) ?_
  refine lv_iload hx hb dL_law_298 (lv_at hl 1 rfl) ?_
  refine lv_iconst (v := 3) hx hb dL_law_300 (by decide) ?_
  refine x_iadd (v := 3) hx hb dL_law_301 (by decide) ?_
  refine x_sld (z := a3) hx hb C.hX C.hbl C.hbA hS (x_in (by decide)) (k := 3) (by decide) x3 dL_law_302 ?_
  refine lv_aload_n hx hb dL_law_303 rfl (lv_at hl 6 rfl) ?_
  refine lv_iload hx hb dL_law_304 (lv_at hl 1 rfl) ?_
  refine lv_iconst (v := 4) hx hb dL_law_306 (by decide) ?_
  refine x_iadd (v := 4) hx hb dL_law_307 (by decide) ?_
  refine x_sld (z := a4) hx hb C.hX C.hbl C.hbA hS (x_in (by decide)) (k := 4) (by decide) x4 dL_law_308 ?_
  refine g_i (wr := []) (rV (rest := []) hx hb hml hown hE hP hD 23 rfl rfl (M2 H.size) (kV_X10_addNote hE (e1420 hE) hrc2 hrs2 hR2) is2 (sub_app hi2) hn2 rfl hl.1 rfl (lv_room (Nat.le_of_ble_eq_true rfl)) dL_law_309 ⟨by rw [rm_c]; omega, by rw [rm_s]; omega⟩) hP hD hS hA is2 [] (sub_app hi2) rfl (by decide) (fun i hi => absurd hi List.not_mem_nil) (fun u2 H locs hP hD hS => ?_)
  refine lv_istore (lv' := [(7, .int r2), (6, .int K), (5, .int 0), (4, .ref qd), (3, .ref qo), (2, .ref qm), (1, .ref qx), (0, .ref b)]) hx hb dL_law_312 hl (by decide) rfl (fun ls hl => ?_)
  refine lv_aload_n hx hb dL_law_314 rfl (lv_at hl 5 rfl) ?_
  refine g_i (wr := []) (rV (rest := []) hx hb hml hown hE hP hD 0 rfl rfl (h_thrown l g qm fs2 T hT H.size) (kV_X10_thrown hE (e1412 hE) rfl rfl ⟨(Nat.le_of_ble_eq_true rfl), (Nat.le_of_ble_eq_true rfl)⟩) [0] rfl (by decide) rfl hl.1 rfl (lv_room (Nat.le_of_ble_eq_true rfl)) dL_law_315 ⟨by rw [rm_c]; omega, by rw [rm_s]; omega⟩) hP hD hS hA [0] [] rfl rfl (by decide) (by decide) (fun u3 H locs hP hD hS => ?_)
  refine lv_iload hx hb dL_law_318 (lv_at hl 1 rfl) ?_
  refine lv_icmp_eq (tgt := 325) hx hb dL_law_320 (by decide) (fun _ => ?_) (fun h => absurd hTK h)
  refine lv_iload hx hb dL_law_325 (lv_at hl 1 rfl) ?_
  refine lv_if_ne (tgt := 342) hx hb dL_law_327 (by decide) (fun _ => ?_) (fun h => absurd h hK)
  refine lv_goto (tgt := 2958) hx hb dL_law_342 (by decide) ?_
  exact lw_end C hS (lv_sub hl [2, 7] rfl) (by omega) (by omega)

set_option maxHeartbeats 4000000 in
set_option maxRecDepth 100000 in
theorem loK_addRest (C : L0 p l s m meth c b 6 xs g) (hP : va_P g.1 vwCl (WL g qx u qm v qo qd) H) (hD : va_D (LA s) (WL g qx u qm v qo qd)) (hS : va_S (LA s) s.heap H locs) (hl : lv_has ls 9 [(5, .int 0), (4, .ref qd), (3, .ref qo), (2, .ref qm), (1, .ref qx), (0, .ref b)]) {a1 a2 : Int32} (x1 : xs 1 = a1) (x2 : xs 2 = a2) {ws1 ws2 : va_W} {rm1 rm2 : Room} {mc1 ms1 mc2 ms2 : Nat} {fs2 : List Value} {po1 : (Nat → Nat) → va_W} {K T : Int32} (hK : ¬ K = 0) (hTK : T = K) {r2 : Int32} (hT : fs2[6]? = some (.int T)) (is1 : List Nat) (hi1 : is1.map (fun i => (WL g qx u qm v qo qd)[i]?) = ws1.map some) (hn1 : va_nd is1 = true) (hd1 : ∀ i ∈ [48, 49, 50, 51, 52, 53, 54, 55, 56, 57, 58, 59, 60, 61, 62, 63, 64, 65, 66, 67, 68, 69, 70, 71], i ∉ is1) (M1 : ∀ sz, Met l yL_addRest [Cond.codeWith yL_addRest cL_addRest 5 (some .int) [(0, 10, 13, 13), (0, 10, 17, 15), (0, 10, 21, 17)]] rm1 (va_Pc [.ref qx, .int a1, .int a2, .ref qo] (PZ g sz ws1)) (QI g ws1 sz K po1) mc1 ms1 (va_A ws1 sz)) (hrc1 : rm1.cells = mc1) (hrs1 : rm1.slots = ms1) (hR1 : rm1.frames + 1 ≤ room_1.frames ∧ 8 + (5 + 11) + rm1.locals ≤ room_1.locals) (hc1 : mc1 ≤ 100000 ∧ ms1 ≤ 1000000) (is2 : List Nat) (hi2 : is2.map (fun i => (WM g qm v)[i]?) = ws2.map some) (hn2 : va_nd is2 = true) (hd2 : ∀ i ∈ is2, i < 24) (M2 : ∀ sz, Met l yX10_addRest [Cond.code yX10_addRest cX10_addRest 3 (some .int)] rm2 (va_Pc [.ref qm, .int a1, .int a2] (PX g sz ws2)) (QI g ws2 sz r2 (fun _ => [(qm, .inr (12, fs2))])) mc2 ms2 (va_A ws2 sz)) (hrc2 : rm2.cells = mc2) (hrs2 : rm2.slots = ms2) (hR2 : rm2.frames + 1 ≤ room_1.frames ∧ 8 + (3 + 11) + rm2.locals ≤ room_1.locals) (hc2 : mc2 ≤ 100000 ∧ ms2 ≤ 1000000) : W p l e room_1 s m #[Value.ref b] below meth c H locs 146 20899 (lw_Z below #[Value.ref b] s) (F0 m 345 ls []) := by
  have hx := C.hx
  have hb := C.hb
  have hml := C.hml
  have hown := C.hown
  have hE := C.hE
  have hz := C.hz
  have hA : ∀ q, s.heap.size ≤ q → LA s q := LA_new
  refine lv_aload_n hx hb dL_law_345 rfl (lv_at hl 4 rfl) ?_
  refine lv_aload_n hx hb dL_law_346 rfl (lv_at hl 5 rfl) ?_
  refine lv_iload hx hb dL_law_347 (lv_at hl 0 rfl) ?_
  refine lv_iconst (v := 1) hx hb dL_law_349 (by decide) ?_
  refine x_iadd (v := 1) hx hb dL_law_350 (by decide) ?_
  refine x_sld (z := a1) hx hb C.hX C.hbl C.hbA hS (x_in (by decide)) (k := 1) (by decide) x1 dL_law_351 ?_
  refine lv_aload_n hx hb dL_law_352 rfl (lv_at hl 5 rfl) ?_
  refine lv_iload hx hb dL_law_353 (lv_at hl 0 rfl) ?_
  refine lv_iconst (v := 2) hx hb dL_law_355 (by decide) ?_
  refine x_iadd (v := 2) hx hb dL_law_356 (by decide) ?_
  refine x_sld (z := a2) hx hb C.hX C.hbl C.hbA hS (x_in (by decide)) (k := 2) (by decide) x2 dL_law_357 ?_
  refine lv_aload_n hx hb dL_law_358 rfl (lv_at hl 2 rfl) ?_
  refine g_i (wr := WM g qm v) (rSW (rest := []) hx hb hml hown hE hP hD hS hA hz (M1 H.size) (kSW_L_addRest hE (e727 hE) hrc1 hrs1 hR1) is1 hi1 hn1 rfl hl.1 rfl (lv_room (Nat.le_of_ble_eq_true rfl)) dL_law_359 ⟨by rw [rm_c]; omega, by rw [rm_s]; omega⟩) hP hD hS hA is1 [48, 49, 50, 51, 52, 53, 54, 55, 56, 57, 58, 59, 60, 61, 62, 63, 64, 65, 66, 67, 68, 69, 70, 71] hi1 rfl (by decide) hd1 (fun u1 H locs hP hD hS => ?_)
  refine lv_istore (lv' := [(6, .int K), (5, .int 0), (4, .ref qd), (3, .ref qo), (2, .ref qm), (1, .ref qx), (0, .ref b)]) hx hb dL_law_362 hl (by decide) rfl (fun ls hl => ?_)
  refine lv_aload_n hx hb dL_law_364 rfl (lv_at hl 4 rfl) ?_
  refine lv_aload_n hx hb dL_law_365 rfl (lv_at hl 6 rfl) ?_
  refine lv_iload hx hb dL_law_366 (lv_at hl 1 rfl) ?_
  refine lv_iconst (v := 1) hx hb dL_law_368 (by decide) ?_
  refine x_iadd (v := 1) hx hb dL_law_369 (by decide) ?_
  refine x_sld (z := a1) hx hb C.hX C.hbl C.hbA hS (x_in (by decide)) (k := 1) (by decide) x1 dL_law_370 ?_
  refine lv_aload_n hx hb dL_law_371 rfl (lv_at hl 6 rfl) ?_
  refine lv_iload hx hb dL_law_372 (lv_at hl 1 rfl) ?_
  refine lv_iconst (v := 2) hx hb dL_law_374 (by decide) ?_
  refine x_iadd (v := 2) hx hb dL_law_375 (by decide) ?_
  refine x_sld (z := a2) hx hb C.hX C.hbl C.hbA hS (x_in (by decide)) (k := 2) (by decide) x2 dL_law_376 ?_
  refine g_i (wr := []) (rV (rest := []) hx hb hml hown hE hP hD 23 rfl rfl (M2 H.size) (kV_X10_addRest hE (e1482 hE) hrc2 hrs2 hR2) is2 (sub_app hi2) hn2 rfl hl.1 rfl (lv_room (Nat.le_of_ble_eq_true rfl)) dL_law_377 ⟨by rw [rm_c]; omega, by rw [rm_s]; omega⟩) hP hD hS hA is2 [] (sub_app hi2) rfl (by decide) (fun i hi => absurd hi List.not_mem_nil) (fun u2 H locs hP hD hS => ?_)
  refine lv_istore (lv' := [(7, .int r2), (6, .int K), (5, .int 0), (4, .ref qd), (3, .ref qo), (2, .ref qm), (1, .ref qx), (0, .ref b)]) hx hb dL_law_380 hl (by decide) rfl (fun ls hl => ?_)
  refine lv_aload_n hx hb dL_law_382 rfl (lv_at hl 5 rfl) ?_
  refine g_i (wr := []) (rV (rest := []) hx hb hml hown hE hP hD 0 rfl rfl (h_thrown l g qm fs2 T hT H.size) (kV_X10_thrown hE (e1412 hE) rfl rfl ⟨(Nat.le_of_ble_eq_true rfl), (Nat.le_of_ble_eq_true rfl)⟩) [0] rfl (by decide) rfl hl.1 rfl (lv_room (Nat.le_of_ble_eq_true rfl)) dL_law_383 ⟨by rw [rm_c]; omega, by rw [rm_s]; omega⟩) hP hD hS hA [0] [] rfl rfl (by decide) (by decide) (fun u3 H locs hP hD hS => ?_)
  refine lv_iload hx hb dL_law_386 (lv_at hl 1 rfl) ?_
  refine lv_icmp_eq (tgt := 393) hx hb dL_law_388 (by decide) (fun _ => ?_) (fun h => absurd hTK h)
  refine lv_iload hx hb dL_law_393 (lv_at hl 1 rfl) ?_
  refine lv_if_ne (tgt := 410) hx hb dL_law_395 (by decide) (fun _ => ?_) (fun h => absurd h hK)
  refine lv_goto (tgt := 2958) hx hb dL_law_410 (by decide) ?_
  exact lw_end C hS (lv_sub hl [2, 7] rfl) (by omega) (by omega)

set_option maxHeartbeats 4000000 in
set_option maxRecDepth 100000 in
theorem loK_append (C : L0 p l s m meth c b 6 xs g) (hP : va_P g.1 vwCl (WL g qx u qm v qo qd) H) (hD : va_D (LA s) (WL g qx u qm v qo qd)) (hS : va_S (LA s) s.heap H locs) (hl : lv_has ls 9 [(5, .int 0), (4, .ref qd), (3, .ref qo), (2, .ref qm), (1, .ref qx), (0, .ref b)]) {a1 : Int32} {ch : Int32} (x1 : xs 1 = a1) (hch : i_chr a1 = ch) {ws1 ws2 : va_W} {rm1 rm2 : Room} {mc1 ms1 mc2 ms2 : Nat} {fs2 : List Value} {po1 : (Nat → Nat) → va_W} {K T : Int32} (hK : ¬ K = 0) (hTK : T = K) {r2 : Int32} (hT : fs2[6]? = some (.int T)) (is1 : List Nat) (hi1 : is1.map (fun i => (WL g qx u qm v qo qd)[i]?) = ws1.map some) (hn1 : va_nd is1 = true) (hd1 : ∀ i ∈ [48, 49, 50, 51, 52, 53, 54, 55, 56, 57, 58, 59, 60, 61, 62, 63, 64, 65, 66, 67, 68, 69, 70, 71], i ∉ is1) (M1 : ∀ sz, Met l yL_append [Cond.codeWith yL_append cL_append 4 (some .int) [(0, 9, 12, 15), (0, 9, 15, 17)]] rm1 (va_Pc [.ref qx, .int ch, .ref qo] (PZ g sz ws1)) (QI g ws1 sz K po1) mc1 ms1 (va_A ws1 sz)) (hrc1 : rm1.cells = mc1) (hrs1 : rm1.slots = ms1) (hR1 : rm1.frames + 1 ≤ room_1.frames ∧ 8 + (4 + 11) + rm1.locals ≤ room_1.locals) (hc1 : mc1 ≤ 100000 ∧ ms1 ≤ 1000000) (is2 : List Nat) (hi2 : is2.map (fun i => (WM g qm v)[i]?) = ws2.map some) (hn2 : va_nd is2 = true) (hd2 : ∀ i ∈ is2, i < 24) (M2 : ∀ sz, Met l yX10_append [Cond.code yX10_append cX10_append 2 (some .int)] rm2 (va_Pc [.ref qm, .int ch] (PX g sz ws2)) (QI g ws2 sz r2 (fun _ => [(qm, .inr (12, fs2))])) mc2 ms2 (va_A ws2 sz)) (hrc2 : rm2.cells = mc2) (hrs2 : rm2.slots = ms2) (hR2 : rm2.frames + 1 ≤ room_1.frames ∧ 8 + (2 + 11) + rm2.locals ≤ room_1.locals) (hc2 : mc2 ≤ 100000 ∧ ms2 ≤ 1000000) : W p l e room_1 s m #[Value.ref b] below meth c H locs 146 20899 (lw_Z below #[Value.ref b] s) (F0 m 2631 ls []) := by
  have hx := C.hx
  have hb := C.hb
  have hml := C.hml
  have hown := C.hown
  have hE := C.hE
  have hz := C.hz
  have hA : ∀ q, s.heap.size ≤ q → LA s q := LA_new
  refine lv_aload_n hx hb dL_law_2631 rfl (lv_at hl 4 rfl) ?_
  refine lv_aload_n hx hb dL_law_2632 rfl (lv_at hl 5 rfl) ?_
  refine lv_iload hx hb dL_law_2633 (lv_at hl 0 rfl) ?_
  refine lv_iconst (v := 1) hx hb dL_law_2635 (by decide) ?_
  refine x_iadd (v := 1) hx hb dL_law_2636 (by decide) ?_
  refine x_sld (z := a1) hx hb C.hX C.hbl C.hbA hS (x_in (by decide)) (k := 1) (by decide) x1 dL_law_2637 ?_
  refine lv_i2c (v := i_chr a1) hx hb dL_law_2638 rfl ?_
  refine x_top (v := ch) hch ?_
  refine lv_aload_n hx hb dL_law_2639 rfl (lv_at hl 2 rfl) ?_
  refine g_i (wr := WM g qm v) (rSW (rest := []) hx hb hml hown hE hP hD hS hA hz (M1 H.size) (kSW_L_append hE (e1150 hE) hrc1 hrs1 hR1) is1 hi1 hn1 rfl hl.1 rfl (lv_room (Nat.le_of_ble_eq_true rfl)) dL_law_2640 ⟨by rw [rm_c]; omega, by rw [rm_s]; omega⟩) hP hD hS hA is1 [48, 49, 50, 51, 52, 53, 54, 55, 56, 57, 58, 59, 60, 61, 62, 63, 64, 65, 66, 67, 68, 69, 70, 71] hi1 rfl (by decide) hd1 (fun u1 H locs hP hD hS => ?_)
  refine lv_istore (lv' := [(6, .int K), (5, .int 0), (4, .ref qd), (3, .ref qo), (2, .ref qm), (1, .ref qx), (0, .ref b)]) hx hb dL_law_2643 hl (by decide) rfl (fun ls hl => ?_)
  refine lv_aload_n hx hb dL_law_2645 rfl (lv_at hl 4 rfl) ?_
  refine lv_aload_n hx hb dL_law_2646 rfl (lv_at hl 6 rfl) ?_
  refine lv_iload hx hb dL_law_2647 (lv_at hl 1 rfl) ?_
  refine lv_iconst (v := 1) hx hb dL_law_2649 (by decide) ?_
  refine x_iadd (v := 1) hx hb dL_law_2650 (by decide) ?_
  refine x_sld (z := a1) hx hb C.hX C.hbl C.hbA hS (x_in (by decide)) (k := 1) (by decide) x1 dL_law_2651 ?_
  refine lv_i2c (v := i_chr a1) hx hb dL_law_2652 rfl ?_
  refine x_top (v := ch) hch ?_
  refine g_i (wr := []) (rV (rest := []) hx hb hml hown hE hP hD 23 rfl rfl (M2 H.size) (kV_X10_append hE (e1724 hE) hrc2 hrs2 hR2) is2 (sub_app hi2) hn2 rfl hl.1 rfl (lv_room (Nat.le_of_ble_eq_true rfl)) dL_law_2653 ⟨by rw [rm_c]; omega, by rw [rm_s]; omega⟩) hP hD hS hA is2 [] (sub_app hi2) rfl (by decide) (fun i hi => absurd hi List.not_mem_nil) (fun u2 H locs hP hD hS => ?_)
  refine lv_istore (lv' := [(7, .int r2), (6, .int K), (5, .int 0), (4, .ref qd), (3, .ref qo), (2, .ref qm), (1, .ref qx), (0, .ref b)]) hx hb dL_law_2656 hl (by decide) rfl (fun ls hl => ?_)
  refine lv_aload_n hx hb dL_law_2658 rfl (lv_at hl 5 rfl) ?_
  refine g_i (wr := []) (rV (rest := []) hx hb hml hown hE hP hD 0 rfl rfl (h_thrown l g qm fs2 T hT H.size) (kV_X10_thrown hE (e1412 hE) rfl rfl ⟨(Nat.le_of_ble_eq_true rfl), (Nat.le_of_ble_eq_true rfl)⟩) [0] rfl (by decide) rfl hl.1 rfl (lv_room (Nat.le_of_ble_eq_true rfl)) dL_law_2659 ⟨by rw [rm_c]; omega, by rw [rm_s]; omega⟩) hP hD hS hA [0] [] rfl rfl (by decide) (by decide) (fun u3 H locs hP hD hS => ?_)
  refine lv_iload hx hb dL_law_2662 (lv_at hl 1 rfl) ?_
  refine lv_icmp_eq (tgt := 2669) hx hb dL_law_2664 (by decide) (fun _ => ?_) (fun h => absurd hTK h)
  refine lv_iload hx hb dL_law_2669 (lv_at hl 1 rfl) ?_
  refine lv_if_ne (tgt := 2686) hx hb dL_law_2671 (by decide) (fun _ => ?_) (fun h => absurd h hK)
  refine lv_goto (tgt := 2958) hx hb dL_law_2686 (by decide) ?_
  exact lw_end C hS (lv_sub hl [2, 7] rfl) (by omega) (by omega)

set_option maxHeartbeats 4000000 in
set_option maxRecDepth 100000 in
theorem loK_busy (C : L0 p l s m meth c b 6 xs g) (hP : va_P g.1 vwCl (WL g qx u qm v qo qd) H) (hD : va_D (LA s) (WL g qx u qm v qo qd)) (hS : va_S (LA s) s.heap H locs) (hl : lv_has ls 9 [(5, .int 0), (4, .ref qd), (3, .ref qo), (2, .ref qm), (1, .ref qx), (0, .ref b)]) {a1 : Int32} (x1 : xs 1 = a1) {ws1 ws2 : va_W} {rm1 rm2 : Room} {mc1 ms1 mc2 ms2 : Nat} {fs2 : List Value} {po1 : (Nat → Nat) → va_W} {K T : Int32} (hK : ¬ K = 0) (hTK : T = K) {r2 : Int32} (hT : fs2[6]? = some (.int T)) (is1 : List Nat) (hi1 : is1.map (fun i => (WL g qx u qm v qo qd)[i]?) = ws1.map some) (hn1 : va_nd is1 = true) (hd1 : ∀ i ∈ [48, 49, 50, 51, 52, 53, 54, 55, 56, 57, 58, 59, 60, 61, 62, 63, 64, 65, 66, 67, 68, 69, 70, 71], i ∉ is1) (M1 : ∀ sz, Met l yL_busy [Cond.codeWith yL_busy cL_busy 4 (some .int) [(0, 9, 12, 13)]] rm1 (va_Pc [.ref qx, .int a1, .ref qo] (PZ g sz ws1)) (QI g ws1 sz K po1) mc1 ms1 (va_A ws1 sz)) (hrc1 : rm1.cells = mc1) (hrs1 : rm1.slots = ms1) (hR1 : rm1.frames + 1 ≤ room_1.frames ∧ 8 + (4 + 11) + rm1.locals ≤ room_1.locals) (hc1 : mc1 ≤ 100000 ∧ ms1 ≤ 1000000) (is2 : List Nat) (hi2 : is2.map (fun i => (WM g qm v)[i]?) = ws2.map some) (hn2 : va_nd is2 = true) (hd2 : ∀ i ∈ is2, i < 24) (M2 : ∀ sz, Met l yX10_busy [Cond.code yX10_busy cX10_busy 4 (some .int)] rm2 (va_Pc [.ref qm, .int a1] (PX g sz ws2)) (QI g ws2 sz r2 (fun _ => [(qm, .inr (12, fs2))])) mc2 ms2 (va_A ws2 sz)) (hrc2 : rm2.cells = mc2) (hrs2 : rm2.slots = ms2) (hR2 : rm2.frames + 1 ≤ room_1.frames ∧ 8 + (4 + 11) + rm2.locals ≤ room_1.locals) (hc2 : mc2 ≤ 100000 ∧ ms2 ≤ 1000000) : W p l e room_1 s m #[Value.ref b] below meth c H locs 146 20899 (lw_Z below #[Value.ref b] s) (F0 m 2373 ls []) := by
  have hx := C.hx
  have hb := C.hb
  have hml := C.hml
  have hown := C.hown
  have hE := C.hE
  have hz := C.hz
  have hA : ∀ q, s.heap.size ≤ q → LA s q := LA_new
  refine lv_aload_n hx hb dL_law_2373 rfl (lv_at hl 4 rfl) ?_
  refine lv_aload_n hx hb dL_law_2374 rfl (lv_at hl 5 rfl) ?_
  refine lv_iload hx hb dL_law_2375 (lv_at hl 0 rfl) ?_
  refine lv_iconst (v := 1) hx hb dL_law_2377 (by decide) ?_
  refine x_iadd (v := 1) hx hb dL_law_2378 (by decide) ?_
  refine x_sld (z := a1) hx hb C.hX C.hbl C.hbA hS (x_in (by decide)) (k := 1) (by decide) x1 dL_law_2379 ?_
  refine lv_aload_n hx hb dL_law_2380 rfl (lv_at hl 2 rfl) ?_
  refine g_i (wr := WM g qm v) (rSW (rest := []) hx hb hml hown hE hP hD hS hA hz (M1 H.size) (kSW_L_busy hE (e1083 hE) hrc1 hrs1 hR1) is1 hi1 hn1 rfl hl.1 rfl (lv_room (Nat.le_of_ble_eq_true rfl)) dL_law_2381 ⟨by rw [rm_c]; omega, by rw [rm_s]; omega⟩) hP hD hS hA is1 [48, 49, 50, 51, 52, 53, 54, 55, 56, 57, 58, 59, 60, 61, 62, 63, 64, 65, 66, 67, 68, 69, 70, 71] hi1 rfl (by decide) hd1 (fun u1 H locs hP hD hS => ?_)
  refine lv_istore (lv' := [(6, .int K), (5, .int 0), (4, .ref qd), (3, .ref qo), (2, .ref qm), (1, .ref qx), (0, .ref b)]) hx hb dL_law_2384 hl (by decide) rfl (fun ls hl => ?_)
  refine lv_aload_n hx hb dL_law_2386 rfl (lv_at hl 4 rfl) ?_
  refine lv_aload_n hx hb dL_law_2387 rfl (lv_at hl 6 rfl) ?_
  refine lv_iload hx hb dL_law_2388 (lv_at hl 1 rfl) ?_
  refine lv_iconst (v := 1) hx hb dL_law_2390 (by decide) ?_
  refine x_iadd (v := 1) hx hb dL_law_2391 (by decide) ?_
  refine x_sld (z := a1) hx hb C.hX C.hbl C.hbA hS (x_in (by decide)) (k := 1) (by decide) x1 dL_law_2392 ?_
  refine g_i (wr := []) (rV (rest := []) hx hb hml hown hE hP hD 23 rfl rfl (M2 H.size) (kV_X10_busy hE (e1692 hE) hrc2 hrs2 hR2) is2 (sub_app hi2) hn2 rfl hl.1 rfl (lv_room (Nat.le_of_ble_eq_true rfl)) dL_law_2393 ⟨by rw [rm_c]; omega, by rw [rm_s]; omega⟩) hP hD hS hA is2 [] (sub_app hi2) rfl (by decide) (fun i hi => absurd hi List.not_mem_nil) (fun u2 H locs hP hD hS => ?_)
  refine lv_istore (lv' := [(7, .int r2), (6, .int K), (5, .int 0), (4, .ref qd), (3, .ref qo), (2, .ref qm), (1, .ref qx), (0, .ref b)]) hx hb dL_law_2396 hl (by decide) rfl (fun ls hl => ?_)
  refine lv_aload_n hx hb dL_law_2398 rfl (lv_at hl 5 rfl) ?_
  refine g_i (wr := []) (rV (rest := []) hx hb hml hown hE hP hD 0 rfl rfl (h_thrown l g qm fs2 T hT H.size) (kV_X10_thrown hE (e1412 hE) rfl rfl ⟨(Nat.le_of_ble_eq_true rfl), (Nat.le_of_ble_eq_true rfl)⟩) [0] rfl (by decide) rfl hl.1 rfl (lv_room (Nat.le_of_ble_eq_true rfl)) dL_law_2399 ⟨by rw [rm_c]; omega, by rw [rm_s]; omega⟩) hP hD hS hA [0] [] rfl rfl (by decide) (by decide) (fun u3 H locs hP hD hS => ?_)
  refine lv_iload hx hb dL_law_2402 (lv_at hl 1 rfl) ?_
  refine lv_icmp_eq (tgt := 2409) hx hb dL_law_2404 (by decide) (fun _ => ?_) (fun h => absurd hTK h)
  refine lv_iload hx hb dL_law_2409 (lv_at hl 1 rfl) ?_
  refine lv_if_ne (tgt := 2426) hx hb dL_law_2411 (by decide) (fun _ => ?_) (fun h => absurd h hK)
  refine lv_goto (tgt := 2958) hx hb dL_law_2426 (by decide) ?_
  exact lw_end C hS (lv_sub hl [2, 7] rfl) (by omega) (by omega)

set_option maxHeartbeats 4000000 in
set_option maxRecDepth 100000 in
theorem loK_clip (C : L0 p l s m meth c b 6 xs g) (hP : va_P g.1 vwCl (WL g qx u qm v qo qd) H) (hD : va_D (LA s) (WL g qx u qm v qo qd)) (hS : va_S (LA s) s.heap H locs) (hl : lv_has ls 9 [(5, .int 0), (4, .ref qd), (3, .ref qo), (2, .ref qm), (1, .ref qx), (0, .ref b)]) {a1 a2 : Int32} (x1 : xs 1 = a1) (x2 : xs 2 = a2) {ws1 ws2 : va_W} {rm1 rm2 : Room} {mc1 ms1 mc2 ms2 : Nat} {fs2 : List Value} {po1 : (Nat → Nat) → va_W} {K T : Int32} (hK : ¬ K = 0) (hTK : T = K) {r2 : Int32} (hT : fs2[6]? = some (.int T)) (is1 : List Nat) (hi1 : is1.map (fun i => (WL g qx u qm v qo qd)[i]?) = ws1.map some) (hn1 : va_nd is1 = true) (hd1 : ∀ i ∈ [48, 49, 50, 51, 52, 53, 54, 55, 56, 57, 58, 59, 60, 61, 62, 63, 64, 65, 66, 67, 68, 69, 70, 71], i ∉ is1) (M1 : ∀ sz, Met l yL_clip [Cond.codeWith yL_clip cL_clip 5 (some .int) [(0, 10, 13, 13), (0, 10, 17, 15)]] rm1 (va_Pc [.ref qx, .int a1, .int a2, .ref qo] (PZ g sz ws1)) (QI g ws1 sz K po1) mc1 ms1 (va_A ws1 sz)) (hrc1 : rm1.cells = mc1) (hrs1 : rm1.slots = ms1) (hR1 : rm1.frames + 1 ≤ room_1.frames ∧ 8 + (5 + 11) + rm1.locals ≤ room_1.locals) (hc1 : mc1 ≤ 100000 ∧ ms1 ≤ 1000000) (is2 : List Nat) (hi2 : is2.map (fun i => (WM g qm v)[i]?) = ws2.map some) (hn2 : va_nd is2 = true) (hd2 : ∀ i ∈ is2, i < 24) (M2 : ∀ sz, Met l yX10_clip [Cond.code yX10_clip cX10_clip 5 (some .int)] rm2 (va_Pc [.ref qm, .int a1, .int a2] (PX g sz ws2)) (QI g ws2 sz r2 (fun _ => [(qm, .inr (12, fs2))])) mc2 ms2 (va_A ws2 sz)) (hrc2 : rm2.cells = mc2) (hrs2 : rm2.slots = ms2) (hR2 : rm2.frames + 1 ≤ room_1.frames ∧ 8 + (5 + 11) + rm2.locals ≤ room_1.locals) (hc2 : mc2 ≤ 100000 ∧ ms2 ≤ 1000000) : W p l e room_1 s m #[Value.ref b] below meth c H locs 146 20899 (lw_Z below #[Value.ref b] s) (F0 m 1017 ls []) := by
  have hx := C.hx
  have hb := C.hb
  have hml := C.hml
  have hown := C.hown
  have hE := C.hE
  have hz := C.hz
  have hA : ∀ q, s.heap.size ≤ q → LA s q := LA_new
  refine lv_aload_n hx hb dL_law_1017 rfl (lv_at hl 4 rfl) ?_
  refine lv_aload_n hx hb dL_law_1018 rfl (lv_at hl 5 rfl) ?_
  refine lv_iload hx hb dL_law_1019 (lv_at hl 0 rfl) ?_
  refine lv_iconst (v := 1) hx hb dL_law_1021 (by decide) ?_
  refine x_iadd (v := 1) hx hb dL_law_1022 (by decide) ?_
  refine x_sld (z := a1) hx hb C.hX C.hbl C.hbA hS (x_in (by decide)) (k := 1) (by decide) x1 dL_law_1023 ?_
  refine lv_aload_n hx hb dL_law_1024 rfl (lv_at hl 5 rfl) ?_
  refine lv_iload hx hb dL_law_1025 (lv_at hl 0 rfl) ?_
  refine lv_iconst (v := 2) hx hb dL_law_1027 (by decide) ?_
  refine x_iadd (v := 2) hx hb dL_law_1028 (by decide) ?_
  refine x_sld (z := a2) hx hb C.hX C.hbl C.hbA hS (x_in (by decide)) (k := 2) (by decide) x2 dL_law_1029 ?_
  refine lv_aload_n hx hb dL_law_1030 rfl (lv_at hl 2 rfl) ?_
  refine g_i (wr := WM g qm v) (rSW (rest := []) hx hb hml hown hE hP hD hS hA hz (M1 H.size) (kSW_L_clip hE (e840 hE) hrc1 hrs1 hR1) is1 hi1 hn1 rfl hl.1 rfl (lv_room (Nat.le_of_ble_eq_true rfl)) dL_law_1031 ⟨by rw [rm_c]; omega, by rw [rm_s]; omega⟩) hP hD hS hA is1 [48, 49, 50, 51, 52, 53, 54, 55, 56, 57, 58, 59, 60, 61, 62, 63, 64, 65, 66, 67, 68, 69, 70, 71] hi1 rfl (by decide) hd1 (fun u1 H locs hP hD hS => ?_)
  refine lv_istore (lv' := [(6, .int K), (5, .int 0), (4, .ref qd), (3, .ref qo), (2, .ref qm), (1, .ref qx), (0, .ref b)]) hx hb dL_law_1034 hl (by decide) rfl (fun ls hl => ?_)
  refine lv_aload_n hx hb dL_law_1036 rfl (lv_at hl 4 rfl) ?_
  refine lv_aload_n hx hb dL_law_1037 rfl (lv_at hl 6 rfl) ?_
  refine lv_iload hx hb dL_law_1038 (lv_at hl 1 rfl) ?_
  refine lv_iconst (v := 1) hx hb dL_law_1040 (by decide) ?_
  refine x_iadd (v := 1) hx hb dL_law_1041 (by decide) ?_
  refine x_sld (z := a1) hx hb C.hX C.hbl C.hbA hS (x_in (by decide)) (k := 1) (by decide) x1 dL_law_1042 ?_
  refine lv_aload_n hx hb dL_law_1043 rfl (lv_at hl 6 rfl) ?_
  refine lv_iload hx hb dL_law_1044 (lv_at hl 1 rfl) ?_
  refine lv_iconst (v := 2) hx hb dL_law_1046 (by decide) ?_
  refine x_iadd (v := 2) hx hb dL_law_1047 (by decide) ?_
  refine x_sld (z := a2) hx hb C.hX C.hbl C.hbA hS (x_in (by decide)) (k := 2) (by decide) x2 dL_law_1048 ?_
  refine g_i (wr := []) (rV (rest := []) hx hb hml hown hE hP hD 23 rfl rfl (M2 H.size) (kV_X10_clip hE (e1535 hE) hrc2 hrs2 hR2) is2 (sub_app hi2) hn2 rfl hl.1 rfl (lv_room (Nat.le_of_ble_eq_true rfl)) dL_law_1049 ⟨by rw [rm_c]; omega, by rw [rm_s]; omega⟩) hP hD hS hA is2 [] (sub_app hi2) rfl (by decide) (fun i hi => absurd hi List.not_mem_nil) (fun u2 H locs hP hD hS => ?_)
  refine lv_istore (lv' := [(7, .int r2), (6, .int K), (5, .int 0), (4, .ref qd), (3, .ref qo), (2, .ref qm), (1, .ref qx), (0, .ref b)]) hx hb dL_law_1052 hl (by decide) rfl (fun ls hl => ?_)
  refine lv_aload_n hx hb dL_law_1054 rfl (lv_at hl 5 rfl) ?_
  refine g_i (wr := []) (rV (rest := []) hx hb hml hown hE hP hD 0 rfl rfl (h_thrown l g qm fs2 T hT H.size) (kV_X10_thrown hE (e1412 hE) rfl rfl ⟨(Nat.le_of_ble_eq_true rfl), (Nat.le_of_ble_eq_true rfl)⟩) [0] rfl (by decide) rfl hl.1 rfl (lv_room (Nat.le_of_ble_eq_true rfl)) dL_law_1055 ⟨by rw [rm_c]; omega, by rw [rm_s]; omega⟩) hP hD hS hA [0] [] rfl rfl (by decide) (by decide) (fun u3 H locs hP hD hS => ?_)
  refine lv_iload hx hb dL_law_1058 (lv_at hl 1 rfl) ?_
  refine lv_icmp_eq (tgt := 1065) hx hb dL_law_1060 (by decide) (fun _ => ?_) (fun h => absurd hTK h)
  refine lv_iload hx hb dL_law_1065 (lv_at hl 1 rfl) ?_
  refine lv_if_ne (tgt := 1082) hx hb dL_law_1067 (by decide) (fun _ => ?_) (fun h => absurd h hK)
  refine lv_goto (tgt := 2958) hx hb dL_law_1082 (by decide) ?_
  exact lw_end C hS (lv_sub hl [2, 7] rfl) (by omega) (by omega)

set_option maxHeartbeats 4000000 in
set_option maxRecDepth 100000 in
theorem loK_count (C : L0 p l s m meth c b 6 xs g) (hP : va_P g.1 vwCl (WL g qx u qm v qo qd) H) (hD : va_D (LA s) (WL g qx u qm v qo qd)) (hS : va_S (LA s) s.heap H locs) (hl : lv_has ls 9 [(5, .int 0), (4, .ref qd), (3, .ref qo), (2, .ref qm), (1, .ref qx), (0, .ref b)]) {a1 : Int32} (x1 : xs 1 = a1) {ws1 ws2 : va_W} {rm1 rm2 : Room} {mc1 ms1 mc2 ms2 : Nat} {fs2 : List Value} {po1 : (Nat → Nat) → va_W} {K T : Int32} (hK : ¬ K = 0) (hTK : T = K) {r2 : Int32} (hT : fs2[6]? = some (.int T)) (is1 : List Nat) (hi1 : is1.map (fun i => (WL g qx u qm v qo qd)[i]?) = ws1.map some) (hn1 : va_nd is1 = true) (hd1 : ∀ i ∈ [48, 49, 50, 51, 52, 53, 54, 55, 56, 57, 58, 59, 60, 61, 62, 63, 64, 65, 66, 67, 68, 69, 70, 71], i ∉ is1) (M1 : ∀ sz, Met l yL_count [Cond.codeWith yL_count cL_count 4 (some .int) [(0, 9, 12, 15)]] rm1 (va_Pc [.ref qx, .int a1, .ref qo] (PZ g sz ws1)) (QI g ws1 sz K po1) mc1 ms1 (va_A ws1 sz)) (hrc1 : rm1.cells = mc1) (hrs1 : rm1.slots = ms1) (hR1 : rm1.frames + 1 ≤ room_1.frames ∧ 8 + (4 + 11) + rm1.locals ≤ room_1.locals) (hc1 : mc1 ≤ 100000 ∧ ms1 ≤ 1000000) (is2 : List Nat) (hi2 : is2.map (fun i => (WM g qm v)[i]?) = ws2.map some) (hn2 : va_nd is2 = true) (hd2 : ∀ i ∈ is2, i < 24) (M2 : ∀ sz, Met l yX10_count [Cond.code yX10_count cX10_count 6 (some .int)] rm2 (va_Pc [.ref qm, .int a1] (PX g sz ws2)) (QI g ws2 sz r2 (fun _ => [(qm, .inr (12, fs2))])) mc2 ms2 (va_A ws2 sz)) (hrc2 : rm2.cells = mc2) (hrs2 : rm2.slots = ms2) (hR2 : rm2.frames + 1 ≤ room_1.frames ∧ 8 + (6 + 11) + rm2.locals ≤ room_1.locals) (hc2 : mc2 ≤ 100000 ∧ ms2 ≤ 1000000) : W p l e room_1 s m #[Value.ref b] below meth c H locs 146 20899 (lw_Z below #[Value.ref b] s) (F0 m 1085 ls []) := by
  have hx := C.hx
  have hb := C.hb
  have hml := C.hml
  have hown := C.hown
  have hE := C.hE
  have hz := C.hz
  have hA : ∀ q, s.heap.size ≤ q → LA s q := LA_new
  refine lv_aload_n hx hb dL_law_1085 rfl (lv_at hl 4 rfl) ?_
  refine lv_aload_n hx hb dL_law_1086 rfl (lv_at hl 5 rfl) ?_
  refine lv_iload hx hb dL_law_1087 (lv_at hl 0 rfl) ?_
  refine lv_iconst (v := 1) hx hb dL_law_1089 (by decide) ?_
  refine x_iadd (v := 1) hx hb dL_law_1090 (by decide) ?_
  refine x_sld (z := a1) hx hb C.hX C.hbl C.hbA hS (x_in (by decide)) (k := 1) (by decide) x1 dL_law_1091 ?_
  refine lv_aload_n hx hb dL_law_1092 rfl (lv_at hl 2 rfl) ?_
  refine g_i (wr := WM g qm v) (rSW (rest := []) hx hb hml hown hE hP hD hS hA hz (M1 H.size) (kSW_L_count hE (e849 hE) hrc1 hrs1 hR1) is1 hi1 hn1 rfl hl.1 rfl (lv_room (Nat.le_of_ble_eq_true rfl)) dL_law_1093 ⟨by rw [rm_c]; omega, by rw [rm_s]; omega⟩) hP hD hS hA is1 [48, 49, 50, 51, 52, 53, 54, 55, 56, 57, 58, 59, 60, 61, 62, 63, 64, 65, 66, 67, 68, 69, 70, 71] hi1 rfl (by decide) hd1 (fun u1 H locs hP hD hS => ?_)
  refine lv_istore (lv' := [(6, .int K), (5, .int 0), (4, .ref qd), (3, .ref qo), (2, .ref qm), (1, .ref qx), (0, .ref b)]) hx hb dL_law_1096 hl (by decide) rfl (fun ls hl => ?_)
  refine lv_aload_n hx hb dL_law_1098 rfl (lv_at hl 4 rfl) ?_
  refine lv_aload_n hx hb dL_law_1099 rfl (lv_at hl 6 rfl) ?_
  refine lv_iload hx hb dL_law_1100 (lv_at hl 1 rfl) ?_
  refine lv_iconst (v := 1) hx hb dL_law_1102 (by decide) ?_
  refine x_iadd (v := 1) hx hb dL_law_1103 (by decide) ?_
  refine x_sld (z := a1) hx hb C.hX C.hbl C.hbA hS (x_in (by decide)) (k := 1) (by decide) x1 dL_law_1104 ?_
  refine g_i (wr := []) (rV (rest := []) hx hb hml hown hE hP hD 23 rfl rfl (M2 H.size) (kV_X10_count hE (e1539 hE) hrc2 hrs2 hR2) is2 (sub_app hi2) hn2 rfl hl.1 rfl (lv_room (Nat.le_of_ble_eq_true rfl)) dL_law_1105 ⟨by rw [rm_c]; omega, by rw [rm_s]; omega⟩) hP hD hS hA is2 [] (sub_app hi2) rfl (by decide) (fun i hi => absurd hi List.not_mem_nil) (fun u2 H locs hP hD hS => ?_)
  refine lv_istore (lv' := [(7, .int r2), (6, .int K), (5, .int 0), (4, .ref qd), (3, .ref qo), (2, .ref qm), (1, .ref qx), (0, .ref b)]) hx hb dL_law_1108 hl (by decide) rfl (fun ls hl => ?_)
  refine lv_aload_n hx hb dL_law_1110 rfl (lv_at hl 5 rfl) ?_
  refine g_i (wr := []) (rV (rest := []) hx hb hml hown hE hP hD 0 rfl rfl (h_thrown l g qm fs2 T hT H.size) (kV_X10_thrown hE (e1412 hE) rfl rfl ⟨(Nat.le_of_ble_eq_true rfl), (Nat.le_of_ble_eq_true rfl)⟩) [0] rfl (by decide) rfl hl.1 rfl (lv_room (Nat.le_of_ble_eq_true rfl)) dL_law_1111 ⟨by rw [rm_c]; omega, by rw [rm_s]; omega⟩) hP hD hS hA [0] [] rfl rfl (by decide) (by decide) (fun u3 H locs hP hD hS => ?_)
  refine lv_iload hx hb dL_law_1114 (lv_at hl 1 rfl) ?_
  refine lv_icmp_eq (tgt := 1121) hx hb dL_law_1116 (by decide) (fun _ => ?_) (fun h => absurd hTK h)
  refine lv_iload hx hb dL_law_1121 (lv_at hl 1 rfl) ?_
  refine lv_if_ne (tgt := 1138) hx hb dL_law_1123 (by decide) (fun _ => ?_) (fun h => absurd h hK)
  refine lv_goto (tgt := 2958) hx hb dL_law_1138 (by decide) ?_
  exact lw_end C hS (lv_sub hl [2, 7] rfl) (by omega) (by omega)

set_option maxHeartbeats 4000000 in
set_option maxRecDepth 100000 in
theorem loK_cutBy (C : L0 p l s m meth c b 6 xs g) (hP : va_P g.1 vwCl (WL g qx u qm v qo qd) H) (hD : va_D (LA s) (WL g qx u qm v qo qd)) (hS : va_S (LA s) s.heap H locs) (hl : lv_has ls 9 [(5, .int 0), (4, .ref qd), (3, .ref qo), (2, .ref qm), (1, .ref qx), (0, .ref b)]) {a1 : Int32} (x1 : xs 1 = a1) {ws1 ws2 : va_W} {rm1 rm2 : Room} {mc1 ms1 mc2 ms2 : Nat} {fs2 : List Value} {po1 : (Nat → Nat) → va_W} {K T : Int32} (hK : ¬ K = 0) (hTK : T = K) {r2 : Int32} (hT : fs2[6]? = some (.int T)) (is1 : List Nat) (hi1 : is1.map (fun i => (WL g qx u qm v qo qd)[i]?) = ws1.map some) (hn1 : va_nd is1 = true) (hd1 : ∀ i ∈ [48, 49, 50, 51, 52, 53, 54, 55, 56, 57, 58, 59, 60, 61, 62, 63, 64, 65, 66, 67, 68, 69, 70, 71], i ∉ is1) (M1 : ∀ sz, Met l yL_cutBy [Cond.codeWith yL_cutBy cL_cutBy 4 (some .int) [(0, 9, 12, 13), (0, 9, 15, 39)]] rm1 (va_Pc [.ref qx, .int a1, .ref qo] (PZ g sz ws1)) (QI g ws1 sz K po1) mc1 ms1 (va_A ws1 sz)) (hrc1 : rm1.cells = mc1) (hrs1 : rm1.slots = ms1) (hR1 : rm1.frames + 1 ≤ room_1.frames ∧ 8 + (4 + 11) + rm1.locals ≤ room_1.locals) (hc1 : mc1 ≤ 100000 ∧ ms1 ≤ 1000000) (is2 : List Nat) (hi2 : is2.map (fun i => (WM g qm v)[i]?) = ws2.map some) (hn2 : va_nd is2 = true) (hd2 : ∀ i ∈ is2, i < 24) (M2 : ∀ sz, Met l yX10_cutBy [Cond.code yX10_cutBy cX10_cutBy 2 (some .int)] rm2 (va_Pc [.ref qm, .int a1] (PX g sz ws2)) (QI g ws2 sz r2 (fun _ => [(qm, .inr (12, fs2))])) mc2 ms2 (va_A ws2 sz)) (hrc2 : rm2.cells = mc2) (hrs2 : rm2.slots = ms2) (hR2 : rm2.frames + 1 ≤ room_1.frames ∧ 8 + (2 + 11) + rm2.locals ≤ room_1.locals) (hc2 : mc2 ≤ 100000 ∧ ms2 ≤ 1000000) : W p l e room_1 s m #[Value.ref b] below meth c H locs 146 20899 (lw_Z below #[Value.ref b] s) (F0 m 1272 ls []) := by
  have hx := C.hx
  have hb := C.hb
  have hml := C.hml
  have hown := C.hown
  have hE := C.hE
  have hz := C.hz
  have hA : ∀ q, s.heap.size ≤ q → LA s q := LA_new
  refine lv_aload_n hx hb dL_law_1272 rfl (lv_at hl 4 rfl) ?_
  refine lv_aload_n hx hb dL_law_1273 rfl (lv_at hl 5 rfl) ?_
  refine lv_iload hx hb dL_law_1274 (lv_at hl 0 rfl) ?_
  refine lv_iconst (v := 1) hx hb dL_law_1276 (by decide) ?_
  refine x_iadd (v := 1) hx hb dL_law_1277 (by decide) ?_
  refine x_sld (z := a1) hx hb C.hX C.hbl C.hbA hS (x_in (by decide)) (k := 1) (by decide) x1 dL_law_1278 ?_
  refine lv_aload_n hx hb dL_law_1279 rfl (lv_at hl 2 rfl) ?_
  refine g_i (wr := WM g qm v) (rSW (rest := []) hx hb hml hown hE hP hD hS hA hz (M1 H.size) (kSW_L_cutBy hE (e893 hE) hrc1 hrs1 hR1) is1 hi1 hn1 rfl hl.1 rfl (lv_room (Nat.le_of_ble_eq_true rfl)) dL_law_1280 ⟨by rw [rm_c]; omega, by rw [rm_s]; omega⟩) hP hD hS hA is1 [48, 49, 50, 51, 52, 53, 54, 55, 56, 57, 58, 59, 60, 61, 62, 63, 64, 65, 66, 67, 68, 69, 70, 71] hi1 rfl (by decide) hd1 (fun u1 H locs hP hD hS => ?_)
  refine lv_istore (lv' := [(6, .int K), (5, .int 0), (4, .ref qd), (3, .ref qo), (2, .ref qm), (1, .ref qx), (0, .ref b)]) hx hb dL_law_1283 hl (by decide) rfl (fun ls hl => ?_)
  refine lv_aload_n hx hb dL_law_1285 rfl (lv_at hl 4 rfl) ?_
  refine lv_aload_n hx hb dL_law_1286 rfl (lv_at hl 6 rfl) ?_
  refine lv_iload hx hb dL_law_1287 (lv_at hl 1 rfl) ?_
  refine lv_iconst (v := 1) hx hb dL_law_1289 (by decide) ?_
  refine x_iadd (v := 1) hx hb dL_law_1290 (by decide) ?_
  refine x_sld (z := a1) hx hb C.hX C.hbl C.hbA hS (x_in (by decide)) (k := 1) (by decide) x1 dL_law_1291 ?_
  refine g_i (wr := []) (rV (rest := []) hx hb hml hown hE hP hD 23 rfl rfl (M2 H.size) (kV_X10_cutBy hE (e1604 hE) hrc2 hrs2 hR2) is2 (sub_app hi2) hn2 rfl hl.1 rfl (lv_room (Nat.le_of_ble_eq_true rfl)) dL_law_1292 ⟨by rw [rm_c]; omega, by rw [rm_s]; omega⟩) hP hD hS hA is2 [] (sub_app hi2) rfl (by decide) (fun i hi => absurd hi List.not_mem_nil) (fun u2 H locs hP hD hS => ?_)
  refine lv_istore (lv' := [(7, .int r2), (6, .int K), (5, .int 0), (4, .ref qd), (3, .ref qo), (2, .ref qm), (1, .ref qx), (0, .ref b)]) hx hb dL_law_1295 hl (by decide) rfl (fun ls hl => ?_)
  refine lv_aload_n hx hb dL_law_1297 rfl (lv_at hl 5 rfl) ?_
  refine g_i (wr := []) (rV (rest := []) hx hb hml hown hE hP hD 0 rfl rfl (h_thrown l g qm fs2 T hT H.size) (kV_X10_thrown hE (e1412 hE) rfl rfl ⟨(Nat.le_of_ble_eq_true rfl), (Nat.le_of_ble_eq_true rfl)⟩) [0] rfl (by decide) rfl hl.1 rfl (lv_room (Nat.le_of_ble_eq_true rfl)) dL_law_1298 ⟨by rw [rm_c]; omega, by rw [rm_s]; omega⟩) hP hD hS hA [0] [] rfl rfl (by decide) (by decide) (fun u3 H locs hP hD hS => ?_)
  refine lv_iload hx hb dL_law_1301 (lv_at hl 1 rfl) ?_
  refine lv_icmp_eq (tgt := 1308) hx hb dL_law_1303 (by decide) (fun _ => ?_) (fun h => absurd hTK h)
  refine lv_iload hx hb dL_law_1308 (lv_at hl 1 rfl) ?_
  refine lv_if_ne (tgt := 1325) hx hb dL_law_1310 (by decide) (fun _ => ?_) (fun h => absurd h hK)
  refine lv_goto (tgt := 2958) hx hb dL_law_1325 (by decide) ?_
  exact lw_end C hS (lv_sub hl [2, 7] rfl) (by omega) (by omega)

set_option maxHeartbeats 4000000 in
set_option maxRecDepth 100000 in
theorem loK_describe (C : L0 p l s m meth c b 6 xs g) (hP : va_P g.1 vwCl (WL g qx u qm v qo qd) H) (hD : va_D (LA s) (WL g qx u qm v qo qd)) (hS : va_S (LA s) s.heap H locs) (hl : lv_has ls 9 [(5, .int 0), (4, .ref qd), (3, .ref qo), (2, .ref qm), (1, .ref qx), (0, .ref b)]) {a1 a2 : Int32} (x1 : xs 1 = a1) (x2 : xs 2 = a2) {ws1 ws2 : va_W} {rm1 rm2 : Room} {mc1 ms1 mc2 ms2 : Nat} {fs2 : List Value} {po1 : (Nat → Nat) → va_W} {K T : Int32} (hK : ¬ K = 0) (hTK : T = K) {r2 : Int32} (hT : fs2[6]? = some (.int T)) (is1 : List Nat) (hi1 : is1.map (fun i => (WL g qx u qm v qo qd)[i]?) = ws1.map some) (hn1 : va_nd is1 = true) (hd1 : ∀ i ∈ [48, 49, 50, 51, 52, 53, 54, 55, 56, 57, 58, 59, 60, 61, 62, 63, 64, 65, 66, 67, 68, 69, 70, 71], i ∉ is1) (M1 : ∀ sz, Met l yL_describe [Cond.codeWith yL_describe cL_describe 5 (some .int) [(0, 10, 13, 13), (0, 10, 17, 39)]] rm1 (va_Pc [.ref qx, .int a1, .int a2, .ref qo] (PZ g sz ws1)) (QI g ws1 sz K po1) mc1 ms1 (va_A ws1 sz)) (hrc1 : rm1.cells = mc1) (hrs1 : rm1.slots = ms1) (hR1 : rm1.frames + 1 ≤ room_1.frames ∧ 8 + (5 + 11) + rm1.locals ≤ room_1.locals) (hc1 : mc1 ≤ 100000 ∧ ms1 ≤ 1000000) (is2 : List Nat) (hi2 : is2.map (fun i => (WM g qm v)[i]?) = ws2.map some) (hn2 : va_nd is2 = true) (hd2 : ∀ i ∈ is2, i < 24) (M2 : ∀ sz, Met l yX10_describe [Cond.code yX10_describe cX10_describe 4 (some .int)] rm2 (va_Pc [.ref qm, .int a1, .int a2] (PX g sz ws2)) (QI g ws2 sz r2 (fun _ => [(qm, .inr (12, fs2))])) mc2 ms2 (va_A ws2 sz)) (hrc2 : rm2.cells = mc2) (hrs2 : rm2.slots = ms2) (hR2 : rm2.frames + 1 ≤ room_1.frames ∧ 8 + (4 + 11) + rm2.locals ≤ room_1.locals) (hc2 : mc2 ≤ 100000 ∧ ms2 ≤ 1000000) : W p l e room_1 s m #[Value.ref b] below meth c H locs 146 20899 (lw_Z below #[Value.ref b] s) (F0 m 2789 ls []) := by
  have hx := C.hx
  have hb := C.hb
  have hml := C.hml
  have hown := C.hown
  have hE := C.hE
  have hz := C.hz
  have hA : ∀ q, s.heap.size ≤ q → LA s q := LA_new
  refine lv_aload_n hx hb dL_law_2789 rfl (lv_at hl 4 rfl) ?_
  refine lv_aload_n hx hb dL_law_2790 rfl (lv_at hl 5 rfl) ?_
  refine lv_iload hx hb dL_law_2791 (lv_at hl 0 rfl) ?_
  refine lv_iconst (v := 1) hx hb dL_law_2793 (by decide) ?_
  refine x_iadd (v := 1) hx hb dL_law_2794 (by decide) ?_
  refine x_sld (z := a1) hx hb C.hX C.hbl C.hbA hS (x_in (by decide)) (k := 1) (by decide) x1 dL_law_2795 ?_
  refine lv_aload_n hx hb dL_law_2796 rfl (lv_at hl 5 rfl) ?_
  refine lv_iload hx hb dL_law_2797 (lv_at hl 0 rfl) ?_
  refine lv_iconst (v := 2) hx hb dL_law_2799 (by decide) ?_
  refine x_iadd (v := 2) hx hb dL_law_2800 (by decide) ?_
  refine x_sld (z := a2) hx hb C.hX C.hbl C.hbA hS (x_in (by decide)) (k := 2) (by decide) x2 dL_law_2801 ?_
  refine lv_aload_n hx hb dL_law_2802 rfl (lv_at hl 2 rfl) ?_
  refine g_i (wr := WM g qm v) (rSW (rest := []) hx hb hml hown hE hP hD hS hA hz (M1 H.size) (kSW_L_describe hE (e1242 hE) hrc1 hrs1 hR1) is1 hi1 hn1 rfl hl.1 rfl (lv_room (Nat.le_of_ble_eq_true rfl)) dL_law_2803 ⟨by rw [rm_c]; omega, by rw [rm_s]; omega⟩) hP hD hS hA is1 [48, 49, 50, 51, 52, 53, 54, 55, 56, 57, 58, 59, 60, 61, 62, 63, 64, 65, 66, 67, 68, 69, 70, 71] hi1 rfl (by decide) hd1 (fun u1 H locs hP hD hS => ?_)
  refine lv_istore (lv' := [(6, .int K), (5, .int 0), (4, .ref qd), (3, .ref qo), (2, .ref qm), (1, .ref qx), (0, .ref b)]) hx hb dL_law_2806 hl (by decide) rfl (fun ls hl => ?_)
  refine lv_aload_n hx hb dL_law_2808 rfl (lv_at hl 4 rfl) ?_
  refine lv_aload_n hx hb dL_law_2809 rfl (lv_at hl 6 rfl) ?_
  refine lv_iload hx hb dL_law_2810 (lv_at hl 1 rfl) ?_
  refine lv_iconst (v := 1) hx hb dL_law_2812 (by decide) ?_
  refine x_iadd (v := 1) hx hb dL_law_2813 (by decide) ?_
  refine x_sld (z := a1) hx hb C.hX C.hbl C.hbA hS (x_in (by decide)) (k := 1) (by decide) x1 dL_law_2814 ?_
  refine lv_aload_n hx hb dL_law_2815 rfl (lv_at hl 6 rfl) ?_
  refine lv_iload hx hb dL_law_2816 (lv_at hl 1 rfl) ?_
  refine lv_iconst (v := 2) hx hb dL_law_2818 (by decide) ?_
  refine x_iadd (v := 2) hx hb dL_law_2819 (by decide) ?_
  refine x_sld (z := a2) hx hb C.hX C.hbl C.hbA hS (x_in (by decide)) (k := 2) (by decide) x2 dL_law_2820 ?_
  refine g_i (wr := []) (rV (rest := []) hx hb hml hown hE hP hD 23 rfl rfl (M2 H.size) (kV_X10_describe hE (e1756 hE) hrc2 hrs2 hR2) is2 (sub_app hi2) hn2 rfl hl.1 rfl (lv_room (Nat.le_of_ble_eq_true rfl)) dL_law_2821 ⟨by rw [rm_c]; omega, by rw [rm_s]; omega⟩) hP hD hS hA is2 [] (sub_app hi2) rfl (by decide) (fun i hi => absurd hi List.not_mem_nil) (fun u2 H locs hP hD hS => ?_)
  refine lv_istore (lv' := [(7, .int r2), (6, .int K), (5, .int 0), (4, .ref qd), (3, .ref qo), (2, .ref qm), (1, .ref qx), (0, .ref b)]) hx hb dL_law_2824 hl (by decide) rfl (fun ls hl => ?_)
  refine lv_aload_n hx hb dL_law_2826 rfl (lv_at hl 5 rfl) ?_
  refine g_i (wr := []) (rV (rest := []) hx hb hml hown hE hP hD 0 rfl rfl (h_thrown l g qm fs2 T hT H.size) (kV_X10_thrown hE (e1412 hE) rfl rfl ⟨(Nat.le_of_ble_eq_true rfl), (Nat.le_of_ble_eq_true rfl)⟩) [0] rfl (by decide) rfl hl.1 rfl (lv_room (Nat.le_of_ble_eq_true rfl)) dL_law_2827 ⟨by rw [rm_c]; omega, by rw [rm_s]; omega⟩) hP hD hS hA [0] [] rfl rfl (by decide) (by decide) (fun u3 H locs hP hD hS => ?_)
  refine lv_iload hx hb dL_law_2830 (lv_at hl 1 rfl) ?_
  refine lv_icmp_eq (tgt := 2837) hx hb dL_law_2832 (by decide) (fun _ => ?_) (fun h => absurd hTK h)
  refine lv_iload hx hb dL_law_2837 (lv_at hl 1 rfl) ?_
  refine lv_if_ne (tgt := 2854) hx hb dL_law_2839 (by decide) (fun _ => ?_) (fun h => absurd h hK)
  refine lv_goto (tgt := 2958) hx hb dL_law_2854 (by decide) ?_
  exact lw_end C hS (lv_sub hl [2, 7] rfl) (by omega) (by omega)

set_option maxHeartbeats 4000000 in
set_option maxRecDepth 100000 in
theorem loK_errorPosition (C : L0 p l s m meth c b 6 xs g) (hP : va_P g.1 vwCl (WL g qx u qm v qo qd) H) (hD : va_D (LA s) (WL g qx u qm v qo qd)) (hS : va_S (LA s) s.heap H locs) (hl : lv_has ls 9 [(5, .int 0), (4, .ref qd), (3, .ref qo), (2, .ref qm), (1, .ref qx), (0, .ref b)]) {ws1 ws2 : va_W} {rm1 rm2 : Room} {mc1 ms1 mc2 ms2 : Nat} {fs2 : List Value} {po1 : (Nat → Nat) → va_W} {K T : Int32} (hK : ¬ K = 0) (hTK : T = K) {r2 : Int32} (hT : fs2[6]? = some (.int T)) (is1 : List Nat) (hi1 : is1.map (fun i => (WL g qx u qm v qo qd)[i]?) = ws1.map some) (hn1 : va_nd is1 = true) (hd1 : ∀ i ∈ [48, 49, 50, 51, 52, 53, 54, 55, 56, 57, 58, 59, 60, 61, 62, 63, 64, 65, 66, 67, 68, 69, 70, 71], i ∉ is1) (M1 : ∀ sz, Met l yL_errorPosition [Cond.codeWith yL_errorPosition cL_errorPosition 3 (some .int) [(0, 8, 11, 39)]] rm1 (va_Pc [.ref qx, .ref qo] (PZ g sz ws1)) (QI g ws1 sz K po1) mc1 ms1 (va_A ws1 sz)) (hrc1 : rm1.cells = mc1) (hrs1 : rm1.slots = ms1) (hR1 : rm1.frames + 1 ≤ room_1.frames ∧ 8 + (3 + 11) + rm1.locals ≤ room_1.locals) (hc1 : mc1 ≤ 100000 ∧ ms1 ≤ 1000000) (is2 : List Nat) (hi2 : is2.map (fun i => (WM g qm v)[i]?) = ws2.map some) (hn2 : va_nd is2 = true) (hd2 : ∀ i ∈ is2, i < 24) (M2 : ∀ sz, Met l yX10_errorPosition [Cond.code yX10_errorPosition cX10_errorPosition 1 (some .int)] rm2 (va_Pc [.ref qm] (PX g sz ws2)) (QI g ws2 sz r2 (fun _ => [(qm, .inr (12, fs2))])) mc2 ms2 (va_A ws2 sz)) (hrc2 : rm2.cells = mc2) (hrs2 : rm2.slots = ms2) (hR2 : rm2.frames + 1 ≤ room_1.frames ∧ 8 + (1 + 11) + rm2.locals ≤ room_1.locals) (hc2 : mc2 ≤ 100000 ∧ ms2 ≤ 1000000) : W p l e room_1 s m #[Value.ref b] below meth c H locs 146 20899 (lw_Z below #[Value.ref b] s) (F0 m 2745 ls []) := by
  have hx := C.hx
  have hb := C.hb
  have hml := C.hml
  have hown := C.hown
  have hE := C.hE
  have hz := C.hz
  have hA : ∀ q, s.heap.size ≤ q → LA s q := LA_new
  refine lv_aload_n hx hb dL_law_2745 rfl (lv_at hl 4 rfl) ?_
  refine lv_aload_n hx hb dL_law_2746 rfl (lv_at hl 2 rfl) ?_
  refine g_i (wr := WM g qm v) (rSW (rest := []) hx hb hml hown hE hP hD hS hA hz (M1 H.size) (kSW_L_errorPosition hE (e1234 hE) hrc1 hrs1 hR1) is1 hi1 hn1 rfl hl.1 rfl (lv_room (Nat.le_of_ble_eq_true rfl)) dL_law_2747 ⟨by rw [rm_c]; omega, by rw [rm_s]; omega⟩) hP hD hS hA is1 [48, 49, 50, 51, 52, 53, 54, 55, 56, 57, 58, 59, 60, 61, 62, 63, 64, 65, 66, 67, 68, 69, 70, 71] hi1 rfl (by decide) hd1 (fun u1 H locs hP hD hS => ?_)
  refine lv_istore (lv' := [(6, .int K), (5, .int 0), (4, .ref qd), (3, .ref qo), (2, .ref qm), (1, .ref qx), (0, .ref b)]) hx hb dL_law_2750 hl (by decide) rfl (fun ls hl => ?_)
  refine lv_aload_n hx hb dL_law_2752 rfl (lv_at hl 4 rfl) ?_
  refine g_i (wr := []) (rV (rest := []) hx hb hml hown hE hP hD 23 rfl rfl (M2 H.size) (kV_X10_errorPosition hE (e1752 hE) hrc2 hrs2 hR2) is2 (sub_app hi2) hn2 rfl hl.1 rfl (lv_room (Nat.le_of_ble_eq_true rfl)) dL_law_2753 ⟨by rw [rm_c]; omega, by rw [rm_s]; omega⟩) hP hD hS hA is2 [] (sub_app hi2) rfl (by decide) (fun i hi => absurd hi List.not_mem_nil) (fun u2 H locs hP hD hS => ?_)
  refine lv_istore (lv' := [(7, .int r2), (6, .int K), (5, .int 0), (4, .ref qd), (3, .ref qo), (2, .ref qm), (1, .ref qx), (0, .ref b)]) hx hb dL_law_2756 hl (by decide) rfl (fun ls hl => ?_)
  refine lv_aload_n hx hb dL_law_2758 rfl (lv_at hl 5 rfl) ?_
  refine g_i (wr := []) (rV (rest := []) hx hb hml hown hE hP hD 0 rfl rfl (h_thrown l g qm fs2 T hT H.size) (kV_X10_thrown hE (e1412 hE) rfl rfl ⟨(Nat.le_of_ble_eq_true rfl), (Nat.le_of_ble_eq_true rfl)⟩) [0] rfl (by decide) rfl hl.1 rfl (lv_room (Nat.le_of_ble_eq_true rfl)) dL_law_2759 ⟨by rw [rm_c]; omega, by rw [rm_s]; omega⟩) hP hD hS hA [0] [] rfl rfl (by decide) (by decide) (fun u3 H locs hP hD hS => ?_)
  refine lv_iload hx hb dL_law_2762 (lv_at hl 1 rfl) ?_
  refine lv_icmp_eq (tgt := 2769) hx hb dL_law_2764 (by decide) (fun _ => ?_) (fun h => absurd hTK h)
  refine lv_iload hx hb dL_law_2769 (lv_at hl 1 rfl) ?_
  refine lv_if_ne (tgt := 2786) hx hb dL_law_2771 (by decide) (fun _ => ?_) (fun h => absurd h hK)
  refine lv_goto (tgt := 2958) hx hb dL_law_2786 (by decide) ?_
  exact lw_end C hS (lv_sub hl [2, 7] rfl) (by omega) (by omega)

set_option maxHeartbeats 4000000 in
set_option maxRecDepth 100000 in
theorem loK_event (C : L0 p l s m meth c b 6 xs g) (hP : va_P g.1 vwCl (WL g qx u qm v qo qd) H) (hD : va_D (LA s) (WL g qx u qm v qo qd)) (hS : va_S (LA s) s.heap H locs) (hl : lv_has ls 9 [(5, .int 0), (4, .ref qd), (3, .ref qo), (2, .ref qm), (1, .ref qx), (0, .ref b)]) {a1 a2 : Int32} (x1 : xs 1 = a1) (x2 : xs 2 = a2) {ws1 ws2 : va_W} {rm1 rm2 : Room} {mc1 ms1 mc2 ms2 : Nat} {fs2 : List Value} {po1 : (Nat → Nat) → va_W} {K T : Int32} (hK : ¬ K = 0) (hTK : T = K) {r2 : Int32} (hT : fs2[6]? = some (.int T)) (is1 : List Nat) (hi1 : is1.map (fun i => (WL g qx u qm v qo qd)[i]?) = ws1.map some) (hn1 : va_nd is1 = true) (hd1 : ∀ i ∈ [48, 49, 50, 51, 52, 53, 54, 55, 56, 57, 58, 59, 60, 61, 62, 63, 64, 65, 66, 67, 68, 69, 70, 71], i ∉ is1) (M1 : ∀ sz, Met l yL_event [Cond.codeWith yL_event cL_event 5 (some .int) [(0, 10, 13, 13), (0, 10, 17, 15)]] rm1 (va_Pc [.ref qx, .int a1, .int a2, .ref qo] (PZ g sz ws1)) (QI g ws1 sz K po1) mc1 ms1 (va_A ws1 sz)) (hrc1 : rm1.cells = mc1) (hrs1 : rm1.slots = ms1) (hR1 : rm1.frames + 1 ≤ room_1.frames ∧ 8 + (5 + 11) + rm1.locals ≤ room_1.locals) (hc1 : mc1 ≤ 100000 ∧ ms1 ≤ 1000000) (is2 : List Nat) (hi2 : is2.map (fun i => (WM g qm v)[i]?) = ws2.map some) (hn2 : va_nd is2 = true) (hd2 : ∀ i ∈ is2, i < 24) (M2 : ∀ sz, Met l yX10_event [Cond.code yX10_event cX10_event 4 (some .int)] rm2 (va_Pc [.ref qm, .int a1, .int a2] (PX g sz ws2)) (QI g ws2 sz r2 (fun _ => [(qm, .inr (12, fs2))])) mc2 ms2 (va_A ws2 sz)) (hrc2 : rm2.cells = mc2) (hrs2 : rm2.slots = ms2) (hR2 : rm2.frames + 1 ≤ room_1.frames ∧ 8 + (4 + 11) + rm2.locals ≤ room_1.locals) (hc2 : mc2 ≤ 100000 ∧ ms2 ≤ 1000000) : W p l e room_1 s m #[Value.ref b] below meth c H locs 146 20899 (lw_Z below #[Value.ref b] s) (F0 m 2507 ls []) := by
  have hx := C.hx
  have hb := C.hb
  have hml := C.hml
  have hown := C.hown
  have hE := C.hE
  have hz := C.hz
  have hA : ∀ q, s.heap.size ≤ q → LA s q := LA_new
  refine lv_aload_n hx hb dL_law_2507 rfl (lv_at hl 4 rfl) ?_
  refine lv_aload_n hx hb dL_law_2508 rfl (lv_at hl 5 rfl) ?_
  refine lv_iload hx hb dL_law_2509 (lv_at hl 0 rfl) ?_
  refine lv_iconst (v := 1) hx hb dL_law_2511 (by decide) ?_
  refine x_iadd (v := 1) hx hb dL_law_2512 (by decide) ?_
  refine x_sld (z := a1) hx hb C.hX C.hbl C.hbA hS (x_in (by decide)) (k := 1) (by decide) x1 dL_law_2513 ?_
  refine lv_aload_n hx hb dL_law_2514 rfl (lv_at hl 5 rfl) ?_
  refine lv_iload hx hb dL_law_2515 (lv_at hl 0 rfl) ?_
  refine lv_iconst (v := 2) hx hb dL_law_2517 (by decide) ?_
  refine x_iadd (v := 2) hx hb dL_law_2518 (by decide) ?_
  refine x_sld (z := a2) hx hb C.hX C.hbl C.hbA hS (x_in (by decide)) (k := 2) (by decide) x2 dL_law_2519 ?_
  refine lv_aload_n hx hb dL_law_2520 rfl (lv_at hl 2 rfl) ?_
  refine g_i (wr := WM g qm v) (rSW (rest := []) hx hb hml hown hE hP hD hS hA hz (M1 H.size) (kSW_L_event hE (e1118 hE) hrc1 hrs1 hR1) is1 hi1 hn1 rfl hl.1 rfl (lv_room (Nat.le_of_ble_eq_true rfl)) dL_law_2521 ⟨by rw [rm_c]; omega, by rw [rm_s]; omega⟩) hP hD hS hA is1 [48, 49, 50, 51, 52, 53, 54, 55, 56, 57, 58, 59, 60, 61, 62, 63, 64, 65, 66, 67, 68, 69, 70, 71] hi1 rfl (by decide) hd1 (fun u1 H locs hP hD hS => ?_)
  refine lv_istore (lv' := [(6, .int K), (5, .int 0), (4, .ref qd), (3, .ref qo), (2, .ref qm), (1, .ref qx), (0, .ref b)]) hx hb dL_law_2524 hl (by decide) rfl (fun ls hl => ?_)
  refine lv_aload_n hx hb dL_law_2526 rfl (lv_at hl 4 rfl) ?_
  refine lv_aload_n hx hb dL_law_2527 rfl (lv_at hl 6 rfl) ?_
  refine lv_iload hx hb dL_law_2528 (lv_at hl 1 rfl) ?_
  refine lv_iconst (v := 1) hx hb dL_law_2530 (by decide) ?_
  refine x_iadd (v := 1) hx hb dL_law_2531 (by decide) ?_
  refine x_sld (z := a1) hx hb C.hX C.hbl C.hbA hS (x_in (by decide)) (k := 1) (by decide) x1 dL_law_2532 ?_
  refine lv_aload_n hx hb dL_law_2533 rfl (lv_at hl 6 rfl) ?_
  refine lv_iload hx hb dL_law_2534 (lv_at hl 1 rfl) ?_
  refine lv_iconst (v := 2) hx hb dL_law_2536 (by decide) ?_
  refine x_iadd (v := 2) hx hb dL_law_2537 (by decide) ?_
  refine x_sld (z := a2) hx hb C.hX C.hbl C.hbA hS (x_in (by decide)) (k := 2) (by decide) x2 dL_law_2538 ?_
  refine g_i (wr := []) (rV (rest := []) hx hb hml hown hE hP hD 23 rfl rfl (M2 H.size) (kV_X10_event hE (e1716 hE) hrc2 hrs2 hR2) is2 (sub_app hi2) hn2 rfl hl.1 rfl (lv_room (Nat.le_of_ble_eq_true rfl)) dL_law_2539 ⟨by rw [rm_c]; omega, by rw [rm_s]; omega⟩) hP hD hS hA is2 [] (sub_app hi2) rfl (by decide) (fun i hi => absurd hi List.not_mem_nil) (fun u2 H locs hP hD hS => ?_)
  refine lv_istore (lv' := [(7, .int r2), (6, .int K), (5, .int 0), (4, .ref qd), (3, .ref qo), (2, .ref qm), (1, .ref qx), (0, .ref b)]) hx hb dL_law_2542 hl (by decide) rfl (fun ls hl => ?_)
  refine lv_aload_n hx hb dL_law_2544 rfl (lv_at hl 5 rfl) ?_
  refine g_i (wr := []) (rV (rest := []) hx hb hml hown hE hP hD 0 rfl rfl (h_thrown l g qm fs2 T hT H.size) (kV_X10_thrown hE (e1412 hE) rfl rfl ⟨(Nat.le_of_ble_eq_true rfl), (Nat.le_of_ble_eq_true rfl)⟩) [0] rfl (by decide) rfl hl.1 rfl (lv_room (Nat.le_of_ble_eq_true rfl)) dL_law_2545 ⟨by rw [rm_c]; omega, by rw [rm_s]; omega⟩) hP hD hS hA [0] [] rfl rfl (by decide) (by decide) (fun u3 H locs hP hD hS => ?_)
  refine lv_iload hx hb dL_law_2548 (lv_at hl 1 rfl) ?_
  refine lv_icmp_eq (tgt := 2555) hx hb dL_law_2550 (by decide) (fun _ => ?_) (fun h => absurd hTK h)
  refine lv_iload hx hb dL_law_2555 (lv_at hl 1 rfl) ?_
  refine lv_if_ne (tgt := 2572) hx hb dL_law_2557 (by decide) (fun _ => ?_) (fun h => absurd h hK)
  refine lv_goto (tgt := 2958) hx hb dL_law_2572 (by decide) ?_
  exact lw_end C hS (lv_sub hl [2, 7] rfl) (by omega) (by omega)

set_option maxHeartbeats 4000000 in
set_option maxRecDepth 100000 in
theorem loK_eventFrom (C : L0 p l s m meth c b 6 xs g) (hP : va_P g.1 vwCl (WL g qx u qm v qo qd) H) (hD : va_D (LA s) (WL g qx u qm v qo qd)) (hS : va_S (LA s) s.heap H locs) (hl : lv_has ls 9 [(5, .int 0), (4, .ref qd), (3, .ref qo), (2, .ref qm), (1, .ref qx), (0, .ref b)]) {a1 : Int32} (x1 : xs 1 = a1) {ws1 ws2 : va_W} {rm1 rm2 : Room} {mc1 ms1 mc2 ms2 : Nat} {fs2 : List Value} {po1 : (Nat → Nat) → va_W} {K T : Int32} (hK : ¬ K = 0) (hTK : T = K) {r2 : Int32} (hT : fs2[6]? = some (.int T)) (is1 : List Nat) (hi1 : is1.map (fun i => (WL g qx u qm v qo qd)[i]?) = ws1.map some) (hn1 : va_nd is1 = true) (hd1 : ∀ i ∈ [48, 49, 50, 51, 52, 53, 54, 55, 56, 57, 58, 59, 60, 61, 62, 63, 64, 65, 66, 67, 68, 69, 70, 71], i ∉ is1) (M1 : ∀ sz, Met l yL_eventFrom [Cond.codeWith yL_eventFrom cL_eventFrom 4 (some .int) [(0, 9, 12, 15), (0, 9, 15, 39)]] rm1 (va_Pc [.ref qx, .int a1, .ref qo] (PZ g sz ws1)) (QI g ws1 sz K po1) mc1 ms1 (va_A ws1 sz)) (hrc1 : rm1.cells = mc1) (hrs1 : rm1.slots = ms1) (hR1 : rm1.frames + 1 ≤ room_1.frames ∧ 8 + (4 + 11) + rm1.locals ≤ room_1.locals) (hc1 : mc1 ≤ 100000 ∧ ms1 ≤ 1000000) (is2 : List Nat) (hi2 : is2.map (fun i => (WM g qm v)[i]?) = ws2.map some) (hn2 : va_nd is2 = true) (hd2 : ∀ i ∈ is2, i < 24) (M2 : ∀ sz, Met l yX10_eventFrom [Cond.code yX10_eventFrom cX10_eventFrom 3 (some .int)] rm2 (va_Pc [.ref qm, .int a1] (PX g sz ws2)) (QI g ws2 sz r2 (fun _ => [(qm, .inr (12, fs2))])) mc2 ms2 (va_A ws2 sz)) (hrc2 : rm2.cells = mc2) (hrs2 : rm2.slots = ms2) (hR2 : rm2.frames + 1 ≤ room_1.frames ∧ 8 + (3 + 11) + rm2.locals ≤ room_1.locals) (hc2 : mc2 ≤ 100000 ∧ ms2 ≤ 1000000) : W p l e room_1 s m #[Value.ref b] below meth c H locs 146 20899 (lw_Z below #[Value.ref b] s) (F0 m 2575 ls []) := by
  have hx := C.hx
  have hb := C.hb
  have hml := C.hml
  have hown := C.hown
  have hE := C.hE
  have hz := C.hz
  have hA : ∀ q, s.heap.size ≤ q → LA s q := LA_new
  refine lv_aload_n hx hb dL_law_2575 rfl (lv_at hl 4 rfl) ?_
  refine lv_aload_n hx hb dL_law_2576 rfl (lv_at hl 5 rfl) ?_
  refine lv_iload hx hb dL_law_2577 (lv_at hl 0 rfl) ?_
  refine lv_iconst (v := 1) hx hb dL_law_2579 (by decide) ?_
  refine x_iadd (v := 1) hx hb dL_law_2580 (by decide) ?_
  refine x_sld (z := a1) hx hb C.hX C.hbl C.hbA hS (x_in (by decide)) (k := 1) (by decide) x1 dL_law_2581 ?_
  refine lv_aload_n hx hb dL_law_2582 rfl (lv_at hl 2 rfl) ?_
  refine g_i (wr := WM g qm v) (rSW (rest := []) hx hb hml hown hE hP hD hS hA hz (M1 H.size) (kSW_L_eventFrom hE (e1137 hE) hrc1 hrs1 hR1) is1 hi1 hn1 rfl hl.1 rfl (lv_room (Nat.le_of_ble_eq_true rfl)) dL_law_2583 ⟨by rw [rm_c]; omega, by rw [rm_s]; omega⟩) hP hD hS hA is1 [48, 49, 50, 51, 52, 53, 54, 55, 56, 57, 58, 59, 60, 61, 62, 63, 64, 65, 66, 67, 68, 69, 70, 71] hi1 rfl (by decide) hd1 (fun u1 H locs hP hD hS => ?_)
  refine lv_istore (lv' := [(6, .int K), (5, .int 0), (4, .ref qd), (3, .ref qo), (2, .ref qm), (1, .ref qx), (0, .ref b)]) hx hb dL_law_2586 hl (by decide) rfl (fun ls hl => ?_)
  refine lv_aload_n hx hb dL_law_2588 rfl (lv_at hl 4 rfl) ?_
  refine lv_aload_n hx hb dL_law_2589 rfl (lv_at hl 6 rfl) ?_
  refine lv_iload hx hb dL_law_2590 (lv_at hl 1 rfl) ?_
  refine lv_iconst (v := 1) hx hb dL_law_2592 (by decide) ?_
  refine x_iadd (v := 1) hx hb dL_law_2593 (by decide) ?_
  refine x_sld (z := a1) hx hb C.hX C.hbl C.hbA hS (x_in (by decide)) (k := 1) (by decide) x1 dL_law_2594 ?_
  refine g_i (wr := []) (rV (rest := []) hx hb hml hown hE hP hD 23 rfl rfl (M2 H.size) (kV_X10_eventFrom hE (e1720 hE) hrc2 hrs2 hR2) is2 (sub_app hi2) hn2 rfl hl.1 rfl (lv_room (Nat.le_of_ble_eq_true rfl)) dL_law_2595 ⟨by rw [rm_c]; omega, by rw [rm_s]; omega⟩) hP hD hS hA is2 [] (sub_app hi2) rfl (by decide) (fun i hi => absurd hi List.not_mem_nil) (fun u2 H locs hP hD hS => ?_)
  refine lv_istore (lv' := [(7, .int r2), (6, .int K), (5, .int 0), (4, .ref qd), (3, .ref qo), (2, .ref qm), (1, .ref qx), (0, .ref b)]) hx hb dL_law_2598 hl (by decide) rfl (fun ls hl => ?_)
  refine lv_aload_n hx hb dL_law_2600 rfl (lv_at hl 5 rfl) ?_
  refine g_i (wr := []) (rV (rest := []) hx hb hml hown hE hP hD 0 rfl rfl (h_thrown l g qm fs2 T hT H.size) (kV_X10_thrown hE (e1412 hE) rfl rfl ⟨(Nat.le_of_ble_eq_true rfl), (Nat.le_of_ble_eq_true rfl)⟩) [0] rfl (by decide) rfl hl.1 rfl (lv_room (Nat.le_of_ble_eq_true rfl)) dL_law_2601 ⟨by rw [rm_c]; omega, by rw [rm_s]; omega⟩) hP hD hS hA [0] [] rfl rfl (by decide) (by decide) (fun u3 H locs hP hD hS => ?_)
  refine lv_iload hx hb dL_law_2604 (lv_at hl 1 rfl) ?_
  refine lv_icmp_eq (tgt := 2611) hx hb dL_law_2606 (by decide) (fun _ => ?_) (fun h => absurd hTK h)
  refine lv_iload hx hb dL_law_2611 (lv_at hl 1 rfl) ?_
  refine lv_if_ne (tgt := 2628) hx hb dL_law_2613 (by decide) (fun _ => ?_) (fun h => absurd h hK)
  refine lv_goto (tgt := 2958) hx hb dL_law_2628 (by decide) ?_
  exact lw_end C hS (lv_sub hl [2, 7] rfl) (by omega) (by omega)

set_option maxHeartbeats 4000000 in
set_option maxRecDepth 100000 in
theorem loK_instrument (C : L0 p l s m meth c b 6 xs g) (hP : va_P g.1 vwCl (WL g qx u qm v qo qd) H) (hD : va_D (LA s) (WL g qx u qm v qo qd)) (hS : va_S (LA s) s.heap H locs) (hl : lv_has ls 9 [(5, .int 0), (4, .ref qd), (3, .ref qo), (2, .ref qm), (1, .ref qx), (0, .ref b)]) {a1 a2 : Int32} (x1 : xs 1 = a1) (x2 : xs 2 = a2) {ws1 ws2 : va_W} {rm1 rm2 : Room} {mc1 ms1 mc2 ms2 : Nat} {fs2 : List Value} {po1 : (Nat → Nat) → va_W} {K T : Int32} (hK : ¬ K = 0) (hTK : T = K) {r2 : Int32} (hT : fs2[6]? = some (.int T)) (is1 : List Nat) (hi1 : is1.map (fun i => (WL g qx u qm v qo qd)[i]?) = ws1.map some) (hn1 : va_nd is1 = true) (hd1 : ∀ i ∈ [48, 49, 50, 51, 52, 53, 54, 55, 56, 57, 58, 59, 60, 61, 62, 63, 64, 65, 66, 67, 68, 69, 70, 71], i ∉ is1) (M1 : ∀ sz, Met l yL_instrument [Cond.codeWith yL_instrument cL_instrument 5 (some .int) [(0, 10, 13, 13), (0, 10, 17, 15)]] rm1 (va_Pc [.ref qx, .int a1, .int a2, .ref qo] (PZ g sz ws1)) (QI g ws1 sz K po1) mc1 ms1 (va_A ws1 sz)) (hrc1 : rm1.cells = mc1) (hrs1 : rm1.slots = ms1) (hR1 : rm1.frames + 1 ≤ room_1.frames ∧ 8 + (5 + 11) + rm1.locals ≤ room_1.locals) (hc1 : mc1 ≤ 100000 ∧ ms1 ≤ 1000000) (is2 : List Nat) (hi2 : is2.map (fun i => (WM g qm v)[i]?) = ws2.map some) (hn2 : va_nd is2 = true) (hd2 : ∀ i ∈ is2, i < 24) (M2 : ∀ sz, Met l yX10_instrument [Cond.code yX10_instrument cX10_instrument 5 (some .int)] rm2 (va_Pc [.ref qm, .int a1, .int a2] (PX g sz ws2)) (QI g ws2 sz r2 (fun _ => [(qm, .inr (12, fs2))])) mc2 ms2 (va_A ws2 sz)) (hrc2 : rm2.cells = mc2) (hrs2 : rm2.slots = ms2) (hR2 : rm2.frames + 1 ≤ room_1.frames ∧ 8 + (5 + 11) + rm2.locals ≤ room_1.locals) (hc2 : mc2 ≤ 100000 ∧ ms2 ≤ 1000000) : W p l e room_1 s m #[Value.ref b] below meth c H locs 146 20899 (lw_Z below #[Value.ref b] s) (F0 m 1932 ls []) := by
  have hx := C.hx
  have hb := C.hb
  have hml := C.hml
  have hown := C.hown
  have hE := C.hE
  have hz := C.hz
  have hA : ∀ q, s.heap.size ≤ q → LA s q := LA_new
  refine lv_aload_n hx hb dL_law_1932 rfl (lv_at hl 4 rfl) ?_
  refine lv_aload_n hx hb dL_law_1933 rfl (lv_at hl 5 rfl) ?_
  refine lv_iload hx hb dL_law_1934 (lv_at hl 0 rfl) ?_
  refine lv_iconst (v := 1) hx hb dL_law_1936 (by decide) ?_
  refine x_iadd (v := 1) hx hb dL_law_1937 (by decide) ?_
  refine x_sld (z := a1) hx hb C.hX C.hbl C.hbA hS (x_in (by decide)) (k := 1) (by decide) x1 dL_law_1938 ?_
  refine lv_aload_n hx hb dL_law_1939 rfl (lv_at hl 5 rfl) ?_
  refine lv_iload hx hb dL_law_1940 (lv_at hl 0 rfl) ?_
  refine lv_iconst (v := 2) hx hb dL_law_1942 (by decide) ?_
  refine x_iadd (v := 2) hx hb dL_law_1943 (by decide) ?_
  refine x_sld (z := a2) hx hb C.hX C.hbl C.hbA hS (x_in (by decide)) (k := 2) (by decide) x2 dL_law_1944 ?_
  refine lv_aload_n hx hb dL_law_1945 rfl (lv_at hl 2 rfl) ?_
  refine g_i (wr := WM g qm v) (rSW (rest := []) hx hb hml hown hE hP hD hS hA hz (M1 H.size) (kSW_L_instrument hE (e1012 hE) hrc1 hrs1 hR1) is1 hi1 hn1 rfl hl.1 rfl (lv_room (Nat.le_of_ble_eq_true rfl)) dL_law_1946 ⟨by rw [rm_c]; omega, by rw [rm_s]; omega⟩) hP hD hS hA is1 [48, 49, 50, 51, 52, 53, 54, 55, 56, 57, 58, 59, 60, 61, 62, 63, 64, 65, 66, 67, 68, 69, 70, 71] hi1 rfl (by decide) hd1 (fun u1 H locs hP hD hS => ?_)
  refine lv_istore (lv' := [(6, .int K), (5, .int 0), (4, .ref qd), (3, .ref qo), (2, .ref qm), (1, .ref qx), (0, .ref b)]) hx hb dL_law_1949 hl (by decide) rfl (fun ls hl => ?_)
  refine lv_aload_n hx hb dL_law_1951 rfl (lv_at hl 4 rfl) ?_
  refine lv_aload_n hx hb dL_law_1952 rfl (lv_at hl 6 rfl) ?_
  refine lv_iload hx hb dL_law_1953 (lv_at hl 1 rfl) ?_
  refine lv_iconst (v := 1) hx hb dL_law_1955 (by decide) ?_
  refine x_iadd (v := 1) hx hb dL_law_1956 (by decide) ?_
  refine x_sld (z := a1) hx hb C.hX C.hbl C.hbA hS (x_in (by decide)) (k := 1) (by decide) x1 dL_law_1957 ?_
  refine lv_aload_n hx hb dL_law_1958 rfl (lv_at hl 6 rfl) ?_
  refine lv_iload hx hb dL_law_1959 (lv_at hl 1 rfl) ?_
  refine lv_iconst (v := 2) hx hb dL_law_1961 (by decide) ?_
  refine x_iadd (v := 2) hx hb dL_law_1962 (by decide) ?_
  refine x_sld (z := a2) hx hb C.hX C.hbl C.hbA hS (x_in (by decide)) (k := 2) (by decide) x2 dL_law_1963 ?_
  refine g_i (wr := []) (rV (rest := []) hx hb hml hown hE hP hD 23 rfl rfl (M2 H.size) (kV_X10_instrument hE (e1652 hE) hrc2 hrs2 hR2) is2 (sub_app hi2) hn2 rfl hl.1 rfl (lv_room (Nat.le_of_ble_eq_true rfl)) dL_law_1964 ⟨by rw [rm_c]; omega, by rw [rm_s]; omega⟩) hP hD hS hA is2 [] (sub_app hi2) rfl (by decide) (fun i hi => absurd hi List.not_mem_nil) (fun u2 H locs hP hD hS => ?_)
  refine lv_istore (lv' := [(7, .int r2), (6, .int K), (5, .int 0), (4, .ref qd), (3, .ref qo), (2, .ref qm), (1, .ref qx), (0, .ref b)]) hx hb dL_law_1967 hl (by decide) rfl (fun ls hl => ?_)
  refine lv_aload_n hx hb dL_law_1969 rfl (lv_at hl 5 rfl) ?_
  refine g_i (wr := []) (rV (rest := []) hx hb hml hown hE hP hD 0 rfl rfl (h_thrown l g qm fs2 T hT H.size) (kV_X10_thrown hE (e1412 hE) rfl rfl ⟨(Nat.le_of_ble_eq_true rfl), (Nat.le_of_ble_eq_true rfl)⟩) [0] rfl (by decide) rfl hl.1 rfl (lv_room (Nat.le_of_ble_eq_true rfl)) dL_law_1970 ⟨by rw [rm_c]; omega, by rw [rm_s]; omega⟩) hP hD hS hA [0] [] rfl rfl (by decide) (by decide) (fun u3 H locs hP hD hS => ?_)
  refine lv_iload hx hb dL_law_1973 (lv_at hl 1 rfl) ?_
  refine lv_icmp_eq (tgt := 1980) hx hb dL_law_1975 (by decide) (fun _ => ?_) (fun h => absurd hTK h)
  refine lv_iload hx hb dL_law_1980 (lv_at hl 1 rfl) ?_
  refine lv_if_ne (tgt := 1997) hx hb dL_law_1982 (by decide) (fun _ => ?_) (fun h => absurd h hK)
  refine lv_goto (tgt := 2958) hx hb dL_law_1997 (by decide) ?_
  exact lw_end C hS (lv_sub hl [2, 7] rfl) (by omega) (by omega)

set_option maxHeartbeats 4000000 in
set_option maxRecDepth 100000 in
theorem loK_isCut (C : L0 p l s m meth c b 6 xs g) (hP : va_P g.1 vwCl (WL g qx u qm v qo qd) H) (hD : va_D (LA s) (WL g qx u qm v qo qd)) (hS : va_S (LA s) s.heap H locs) (hl : lv_has ls 9 [(5, .int 0), (4, .ref qd), (3, .ref qo), (2, .ref qm), (1, .ref qx), (0, .ref b)]) {a1 : Int32} (x1 : xs 1 = a1) {ws1 ws2 : va_W} {rm1 rm2 : Room} {mc1 ms1 mc2 ms2 : Nat} {fs2 : List Value} {po1 : (Nat → Nat) → va_W} {K T : Int32} (hK : ¬ K = 0) (hTK : T = K) {r2 : Int32} (hT : fs2[6]? = some (.int T)) (is1 : List Nat) (hi1 : is1.map (fun i => (WL g qx u qm v qo qd)[i]?) = ws1.map some) (hn1 : va_nd is1 = true) (hd1 : ∀ i ∈ [48, 49, 50, 51, 52, 53, 54, 55, 56, 57, 58, 59, 60, 61, 62, 63, 64, 65, 66, 67, 68, 69, 70, 71], i ∉ is1) (M1 : ∀ sz, Met l yL_isCut [Cond.codeWith yL_isCut cL_isCut 4 (some .int) [(0, 16, 19, 13)]] rm1 (va_Pc [.ref qx, .int a1, .ref qo] (PZ g sz ws1)) (QI g ws1 sz K po1) mc1 ms1 (va_A ws1 sz)) (hrc1 : rm1.cells = mc1) (hrs1 : rm1.slots = ms1) (hR1 : rm1.frames + 1 ≤ room_1.frames ∧ 8 + (4 + 11) + rm1.locals ≤ room_1.locals) (hc1 : mc1 ≤ 100000 ∧ ms1 ≤ 1000000) (is2 : List Nat) (hi2 : is2.map (fun i => (WM g qm v)[i]?) = ws2.map some) (hn2 : va_nd is2 = true) (hd2 : ∀ i ∈ is2, i < 24) (M2 : ∀ sz, Met l yX10_isCut [Cond.code yX10_isCut cX10_isCut 2 (some .boolean)] rm2 (va_Pc [.ref qm, .int a1] (PX g sz ws2)) (QI g ws2 sz r2 (fun _ => [(qm, .inr (12, fs2))])) mc2 ms2 (va_A ws2 sz)) (hrc2 : rm2.cells = mc2) (hrs2 : rm2.slots = ms2) (hR2 : rm2.frames + 1 ≤ room_1.frames ∧ 8 + (2 + 11) + rm2.locals ≤ room_1.locals) (hc2 : mc2 ≤ 100000 ∧ ms2 ≤ 1000000) : W p l e room_1 s m #[Value.ref b] below meth c H locs 146 20899 (lw_Z below #[Value.ref b] s) (F0 m 1209 ls []) := by
  have hx := C.hx
  have hb := C.hb
  have hml := C.hml
  have hown := C.hown
  have hE := C.hE
  have hz := C.hz
  have hA : ∀ q, s.heap.size ≤ q → LA s q := LA_new
  refine lv_aload_n hx hb dL_law_1209 rfl (lv_at hl 4 rfl) ?_
  refine lv_aload_n hx hb dL_law_1210 rfl (lv_at hl 5 rfl) ?_
  refine lv_iload hx hb dL_law_1211 (lv_at hl 0 rfl) ?_
  refine lv_iconst (v := 1) hx hb dL_law_1213 (by decide) ?_
  refine x_iadd (v := 1) hx hb dL_law_1214 (by decide) ?_
  refine x_sld (z := a1) hx hb C.hX C.hbl C.hbA hS (x_in (by decide)) (k := 1) (by decide) x1 dL_law_1215 ?_
  refine lv_aload_n hx hb dL_law_1216 rfl (lv_at hl 2 rfl) ?_
  refine g_i (wr := WM g qm v) (rSW (rest := []) hx hb hml hown hE hP hD hS hA hz (M1 H.size) (kSW_L_isCut hE (e882 hE) hrc1 hrs1 hR1) is1 hi1 hn1 rfl hl.1 rfl (lv_room (Nat.le_of_ble_eq_true rfl)) dL_law_1217 ⟨by rw [rm_c]; omega, by rw [rm_s]; omega⟩) hP hD hS hA is1 [48, 49, 50, 51, 52, 53, 54, 55, 56, 57, 58, 59, 60, 61, 62, 63, 64, 65, 66, 67, 68, 69, 70, 71] hi1 rfl (by decide) hd1 (fun u1 H locs hP hD hS => ?_)
  refine lv_istore (lv' := [(6, .int K), (5, .int 0), (4, .ref qd), (3, .ref qo), (2, .ref qm), (1, .ref qx), (0, .ref b)]) hx hb dL_law_1220 hl (by decide) rfl (fun ls hl => ?_)
  refine lv_aload_n hx hb dL_law_1222 rfl (lv_at hl 4 rfl) ?_
  refine lv_aload_n hx hb dL_law_1223 rfl (lv_at hl 6 rfl) ?_
  refine lv_iload hx hb dL_law_1224 (lv_at hl 1 rfl) ?_
  refine lv_iconst (v := 1) hx hb dL_law_1226 (by decide) ?_
  refine x_iadd (v := 1) hx hb dL_law_1227 (by decide) ?_
  refine x_sld (z := a1) hx hb C.hX C.hbl C.hbA hS (x_in (by decide)) (k := 1) (by decide) x1 dL_law_1228 ?_
  refine g_i (wr := []) (rV (rest := []) hx hb hml hown hE hP hD 23 rfl rfl (M2 H.size) (kV_X10_isCut hE (e1600 hE) hrc2 hrs2 hR2) is2 (sub_app hi2) hn2 rfl hl.1 rfl (lv_room (Nat.le_of_ble_eq_true rfl)) dL_law_1229 ⟨by rw [rm_c]; omega, by rw [rm_s]; omega⟩) hP hD hS hA is2 [] (sub_app hi2) rfl (by decide) (fun i hi => absurd hi List.not_mem_nil) (fun u2 H locs hP hD hS => ?_)
  refine lv_istore (lv' := [(7, .int r2), (6, .int K), (5, .int 0), (4, .ref qd), (3, .ref qo), (2, .ref qm), (1, .ref qx), (0, .ref b)]) hx hb dL_law_1232 hl (by decide) rfl (fun ls hl => ?_)
  refine lv_aload_n hx hb dL_law_1234 rfl (lv_at hl 5 rfl) ?_
  refine g_i (wr := []) (rV (rest := []) hx hb hml hown hE hP hD 0 rfl rfl (h_thrown l g qm fs2 T hT H.size) (kV_X10_thrown hE (e1412 hE) rfl rfl ⟨(Nat.le_of_ble_eq_true rfl), (Nat.le_of_ble_eq_true rfl)⟩) [0] rfl (by decide) rfl hl.1 rfl (lv_room (Nat.le_of_ble_eq_true rfl)) dL_law_1235 ⟨by rw [rm_c]; omega, by rw [rm_s]; omega⟩) hP hD hS hA [0] [] rfl rfl (by decide) (by decide) (fun u3 H locs hP hD hS => ?_)
  refine lv_iload hx hb dL_law_1238 (lv_at hl 1 rfl) ?_
  refine lv_icmp_eq (tgt := 1245) hx hb dL_law_1240 (by decide) (fun _ => ?_) (fun h => absurd hTK h)
  refine lv_iload hx hb dL_law_1245 (lv_at hl 1 rfl) ?_
  refine lv_if_ne (tgt := 1269) hx hb dL_law_1247 (by decide) (fun _ => ?_) (fun h => absurd h hK)
  refine lv_goto (tgt := 2958) hx hb dL_law_1269 (by decide) ?_
  exact lw_end C hS (lv_sub hl [2, 7] rfl) (by omega) (by omega)

set_option maxHeartbeats 4000000 in
set_option maxRecDepth 100000 in
theorem loK_item (C : L0 p l s m meth c b 6 xs g) (hP : va_P g.1 vwCl (WL g qx u qm v qo qd) H) (hD : va_D (LA s) (WL g qx u qm v qo qd)) (hS : va_S (LA s) s.heap H locs) (hl : lv_has ls 9 [(5, .int 0), (4, .ref qd), (3, .ref qo), (2, .ref qm), (1, .ref qx), (0, .ref b)]) {a1 a2 a3 : Int32} (x1 : xs 1 = a1) (x2 : xs 2 = a2) (x3 : xs 3 = a3) {ws1 ws2 : va_W} {rm1 rm2 : Room} {mc1 ms1 mc2 ms2 : Nat} {fs2 : List Value} {po1 : (Nat → Nat) → va_W} {K T : Int32} (hK : ¬ K = 0) (hTK : T = K) {r2 : Int32} (hT : fs2[6]? = some (.int T)) (is1 : List Nat) (hi1 : is1.map (fun i => (WL g qx u qm v qo qd)[i]?) = ws1.map some) (hn1 : va_nd is1 = true) (hd1 : ∀ i ∈ [48, 49, 50, 51, 52, 53, 54, 55, 56, 57, 58, 59, 60, 61, 62, 63, 64, 65, 66, 67, 68, 69, 70, 71], i ∉ is1) (M1 : ∀ sz, Met l yL_item [Cond.codeWith yL_item cL_item 6 (some .int) [(0, 12, 15, 13), (0, 12, 19, 15)]] rm1 (va_Pc [.ref qx, .int a1, .int a2, .int a3, .ref qo] (PZ g sz ws1)) (QI g ws1 sz K po1) mc1 ms1 (va_A ws1 sz)) (hrc1 : rm1.cells = mc1) (hrs1 : rm1.slots = ms1) (hR1 : rm1.frames + 1 ≤ room_1.frames ∧ 8 + (6 + 11) + rm1.locals ≤ room_1.locals) (hc1 : mc1 ≤ 100000 ∧ ms1 ≤ 1000000) (is2 : List Nat) (hi2 : is2.map (fun i => (WM g qm v)[i]?) = ws2.map some) (hn2 : va_nd is2 = true) (hd2 : ∀ i ∈ is2, i < 24) (M2 : ∀ sz, Met l yX10_item [Cond.code yX10_item cX10_item 5 (some .int)] rm2 (va_Pc [.ref qm, .int a1, .int a2, .int a3] (PX g sz ws2)) (QI g ws2 sz r2 (fun _ => [(qm, .inr (12, fs2))])) mc2 ms2 (va_A ws2 sz)) (hrc2 : rm2.cells = mc2) (hrs2 : rm2.slots = ms2) (hR2 : rm2.frames + 1 ≤ room_1.frames ∧ 8 + (5 + 11) + rm2.locals ≤ room_1.locals) (hc2 : mc2 ≤ 100000 ∧ ms2 ≤ 1000000) : W p l e room_1 s m #[Value.ref b] below meth c H locs 146 20899 (lw_Z below #[Value.ref b] s) (F0 m 629 ls []) := by
  have hx := C.hx
  have hb := C.hb
  have hml := C.hml
  have hown := C.hown
  have hE := C.hE
  have hz := C.hz
  have hA : ∀ q, s.heap.size ≤ q → LA s q := LA_new
  refine lv_aload_n hx hb dL_law_629 rfl (lv_at hl 4 rfl) ?_
  refine lv_aload_n hx hb dL_law_630 rfl (lv_at hl 5 rfl) ?_
  refine lv_iload hx hb dL_law_631 (lv_at hl 0 rfl) ?_
  refine lv_iconst (v := 1) hx hb dL_law_633 (by decide) ?_
  refine x_iadd (v := 1) hx hb dL_law_634 (by decide) ?_
  refine x_sld (z := a1) hx hb C.hX C.hbl C.hbA hS (x_in (by decide)) (k := 1) (by decide) x1 dL_law_635 ?_
  refine lv_aload_n hx hb dL_law_636 rfl (lv_at hl 5 rfl) ?_
  refine lv_iload hx hb dL_law_637 (lv_at hl 0 rfl) ?_
  refine lv_iconst (v := 2) hx hb dL_law_639 (by decide) ?_
  refine x_iadd (v := 2) hx hb dL_law_640 (by decide) ?_
  refine x_sld (z := a2) hx hb C.hX C.hbl C.hbA hS (x_in (by decide)) (k := 2) (by decide) x2 dL_law_641 ?_
  refine lv_aload_n hx hb dL_law_642 rfl (lv_at hl 5 rfl) ?_
  refine lv_iload hx hb dL_law_643 (lv_at hl 0 rfl) ?_
  refine lv_iconst (v := 3) hx hb dL_law_645 (by decide) ?_
  refine x_iadd (v := 3) hx hb dL_law_646 (by decide) ?_
  refine x_sld (z := a3) hx hb C.hX C.hbl C.hbA hS (x_in (by decide)) (k := 3) (by decide) x3 dL_law_647 ?_
  refine lv_aload_n hx hb dL_law_648 rfl (lv_at hl 2 rfl) ?_
  refine g_i (wr := WM g qm v) (rSW (rest := []) hx hb hml hown hE hP hD hS hA hz (M1 H.size) (kSW_L_item hE (e766 hE) hrc1 hrs1 hR1) is1 hi1 hn1 rfl hl.1 rfl (lv_room (Nat.le_of_ble_eq_true rfl)) dL_law_649 ⟨by rw [rm_c]; omega, by rw [rm_s]; omega⟩) hP hD hS hA is1 [48, 49, 50, 51, 52, 53, 54, 55, 56, 57, 58, 59, 60, 61, 62, 63, 64, 65, 66, 67, 68, 69, 70, 71] hi1 rfl (by decide) hd1 (fun u1 H locs hP hD hS => ?_)
  refine lv_istore (lv' := [(6, .int K), (5, .int 0), (4, .ref qd), (3, .ref qo), (2, .ref qm), (1, .ref qx), (0, .ref b)]) hx hb dL_law_652 hl (by decide) rfl (fun ls hl => ?_)
  refine lv_aload_n hx hb dL_law_654 rfl (lv_at hl 4 rfl) ?_
  refine lv_aload_n hx hb dL_law_655 rfl (lv_at hl 6 rfl) ?_
  refine lv_iload hx hb dL_law_656 (lv_at hl 1 rfl) ?_
  refine lv_iconst (v := 1) hx hb dL_law_658 (by decide) ?_
  refine x_iadd (v := 1) hx hb dL_law_659 (by decide) ?_
  refine x_sld (z := a1) hx hb C.hX C.hbl C.hbA hS (x_in (by decide)) (k := 1) (by decide) x1 dL_law_660 ?_
  refine lv_aload_n hx hb dL_law_661 rfl (lv_at hl 6 rfl) ?_
  refine lv_iload hx hb dL_law_662 (lv_at hl 1 rfl) ?_
  refine lv_iconst (v := 2) hx hb dL_law_664 (by decide) ?_
  refine x_iadd (v := 2) hx hb dL_law_665 (by decide) ?_
  refine x_sld (z := a2) hx hb C.hX C.hbl C.hbA hS (x_in (by decide)) (k := 2) (by decide) x2 dL_law_666 ?_
  refine lv_aload_n hx hb dL_law_667 rfl (lv_at hl 6 rfl) ?_
  refine lv_iload hx hb dL_law_668 (lv_at hl 1 rfl) ?_
  refine lv_iconst (v := 3) hx hb dL_law_670 (by decide) ?_
  refine x_iadd (v := 3) hx hb dL_law_671 (by decide) ?_
  refine x_sld (z := a3) hx hb C.hX C.hbl C.hbA hS (x_in (by decide)) (k := 3) (by decide) x3 dL_law_672 ?_
  refine g_i (wr := []) (rV (rest := []) hx hb hml hown hE hP hD 23 rfl rfl (M2 H.size) (kV_X10_item hE (e1507 hE) hrc2 hrs2 hR2) is2 (sub_app hi2) hn2 rfl hl.1 rfl (lv_room (Nat.le_of_ble_eq_true rfl)) dL_law_673 ⟨by rw [rm_c]; omega, by rw [rm_s]; omega⟩) hP hD hS hA is2 [] (sub_app hi2) rfl (by decide) (fun i hi => absurd hi List.not_mem_nil) (fun u2 H locs hP hD hS => ?_)
  refine lv_istore (lv' := [(7, .int r2), (6, .int K), (5, .int 0), (4, .ref qd), (3, .ref qo), (2, .ref qm), (1, .ref qx), (0, .ref b)]) hx hb dL_law_676 hl (by decide) rfl (fun ls hl => ?_)
  refine lv_aload_n hx hb dL_law_678 rfl (lv_at hl 5 rfl) ?_
  refine g_i (wr := []) (rV (rest := []) hx hb hml hown hE hP hD 0 rfl rfl (h_thrown l g qm fs2 T hT H.size) (kV_X10_thrown hE (e1412 hE) rfl rfl ⟨(Nat.le_of_ble_eq_true rfl), (Nat.le_of_ble_eq_true rfl)⟩) [0] rfl (by decide) rfl hl.1 rfl (lv_room (Nat.le_of_ble_eq_true rfl)) dL_law_679 ⟨by rw [rm_c]; omega, by rw [rm_s]; omega⟩) hP hD hS hA [0] [] rfl rfl (by decide) (by decide) (fun u3 H locs hP hD hS => ?_)
  refine lv_iload hx hb dL_law_682 (lv_at hl 1 rfl) ?_
  refine lv_icmp_eq (tgt := 689) hx hb dL_law_684 (by decide) (fun _ => ?_) (fun h => absurd hTK h)
  refine lv_iload hx hb dL_law_689 (lv_at hl 1 rfl) ?_
  refine lv_if_ne (tgt := 706) hx hb dL_law_691 (by decide) (fun _ => ?_) (fun h => absurd h hK)
  refine lv_goto (tgt := 2958) hx hb dL_law_706 (by decide) ?_
  exact lw_end C hS (lv_sub hl [2, 7] rfl) (by omega) (by omega)

set_option maxHeartbeats 4000000 in
set_option maxRecDepth 100000 in
theorem loK_level (C : L0 p l s m meth c b 6 xs g) (hP : va_P g.1 vwCl (WL g qx u qm v qo qd) H) (hD : va_D (LA s) (WL g qx u qm v qo qd)) (hS : va_S (LA s) s.heap H locs) (hl : lv_has ls 9 [(5, .int 0), (4, .ref qd), (3, .ref qo), (2, .ref qm), (1, .ref qx), (0, .ref b)]) {a1 a2 : Int32} (x1 : xs 1 = a1) (x2 : xs 2 = a2) {ws1 ws2 : va_W} {rm1 rm2 : Room} {mc1 ms1 mc2 ms2 : Nat} {fs2 : List Value} {po1 : (Nat → Nat) → va_W} {K T : Int32} (hK : ¬ K = 0) (hTK : T = K) {r2 : Int32} (hT : fs2[6]? = some (.int T)) (is1 : List Nat) (hi1 : is1.map (fun i => (WL g qx u qm v qo qd)[i]?) = ws1.map some) (hn1 : va_nd is1 = true) (hd1 : ∀ i ∈ [48, 49, 50, 51, 52, 53, 54, 55, 56, 57, 58, 59, 60, 61, 62, 63, 64, 65, 66, 67, 68, 69, 70, 71], i ∉ is1) (M1 : ∀ sz, Met l yL_level [Cond.codeWith yL_level cL_level 5 (some .int) [(0, 10, 13, 13), (0, 10, 17, 15)]] rm1 (va_Pc [.ref qx, .int a1, .int a2, .ref qo] (PZ g sz ws1)) (QI g ws1 sz K po1) mc1 ms1 (va_A ws1 sz)) (hrc1 : rm1.cells = mc1) (hrs1 : rm1.slots = ms1) (hR1 : rm1.frames + 1 ≤ room_1.frames ∧ 8 + (5 + 11) + rm1.locals ≤ room_1.locals) (hc1 : mc1 ≤ 100000 ∧ ms1 ≤ 1000000) (is2 : List Nat) (hi2 : is2.map (fun i => (WM g qm v)[i]?) = ws2.map some) (hn2 : va_nd is2 = true) (hd2 : ∀ i ∈ is2, i < 24) (M2 : ∀ sz, Met l yX10_level [Cond.code yX10_level cX10_level 3 (some .int)] rm2 (va_Pc [.ref qm, .int a1, .int a2] (PX g sz ws2)) (QI g ws2 sz r2 (fun _ => [(qm, .inr (12, fs2))])) mc2 ms2 (va_A ws2 sz)) (hrc2 : rm2.cells = mc2) (hrs2 : rm2.slots = ms2) (hR2 : rm2.frames + 1 ≤ room_1.frames ∧ 8 + (3 + 11) + rm2.locals ≤ room_1.locals) (hc2 : mc2 ≤ 100000 ∧ ms2 ≤ 1000000) : W p l e room_1 s m #[Value.ref b] below meth c H locs 146 20899 (lw_Z below #[Value.ref b] s) (F0 m 2112 ls []) := by
  have hx := C.hx
  have hb := C.hb
  have hml := C.hml
  have hown := C.hown
  have hE := C.hE
  have hz := C.hz
  have hA : ∀ q, s.heap.size ≤ q → LA s q := LA_new
  refine lv_aload_n hx hb dL_law_2112 rfl (lv_at hl 4 rfl) ?_
  refine lv_aload_n hx hb dL_law_2113 rfl (lv_at hl 5 rfl) ?_
  refine lv_iload hx hb dL_law_2114 (lv_at hl 0 rfl) ?_
  refine lv_iconst (v := 1) hx hb dL_law_2116 (by decide) ?_
  refine x_iadd (v := 1) hx hb dL_law_2117 (by decide) ?_
  refine x_sld (z := a1) hx hb C.hX C.hbl C.hbA hS (x_in (by decide)) (k := 1) (by decide) x1 dL_law_2118 ?_
  refine lv_aload_n hx hb dL_law_2119 rfl (lv_at hl 5 rfl) ?_
  refine lv_iload hx hb dL_law_2120 (lv_at hl 0 rfl) ?_
  refine lv_iconst (v := 2) hx hb dL_law_2122 (by decide) ?_
  refine x_iadd (v := 2) hx hb dL_law_2123 (by decide) ?_
  refine x_sld (z := a2) hx hb C.hX C.hbl C.hbA hS (x_in (by decide)) (k := 2) (by decide) x2 dL_law_2124 ?_
  refine lv_aload_n hx hb dL_law_2125 rfl (lv_at hl 2 rfl) ?_
  refine g_i (wr := WM g qm v) (rSW (rest := []) hx hb hml hown hE hP hD hS hA hz (M1 H.size) (kSW_L_level hE (e1037 hE) hrc1 hrs1 hR1) is1 hi1 hn1 rfl hl.1 rfl (lv_room (Nat.le_of_ble_eq_true rfl)) dL_law_2126 ⟨by rw [rm_c]; omega, by rw [rm_s]; omega⟩) hP hD hS hA is1 [48, 49, 50, 51, 52, 53, 54, 55, 56, 57, 58, 59, 60, 61, 62, 63, 64, 65, 66, 67, 68, 69, 70, 71] hi1 rfl (by decide) hd1 (fun u1 H locs hP hD hS => ?_)
  refine lv_istore (lv' := [(6, .int K), (5, .int 0), (4, .ref qd), (3, .ref qo), (2, .ref qm), (1, .ref qx), (0, .ref b)]) hx hb dL_law_2129 hl (by decide) rfl (fun ls hl => ?_)
  refine lv_aload_n hx hb dL_law_2131 rfl (lv_at hl 4 rfl) ?_
  refine lv_aload_n hx hb dL_law_2132 rfl (lv_at hl 6 rfl) ?_
  refine lv_iload hx hb dL_law_2133 (lv_at hl 1 rfl) ?_
  refine lv_iconst (v := 1) hx hb dL_law_2135 (by decide) ?_
  refine x_iadd (v := 1) hx hb dL_law_2136 (by decide) ?_
  refine x_sld (z := a1) hx hb C.hX C.hbl C.hbA hS (x_in (by decide)) (k := 1) (by decide) x1 dL_law_2137 ?_
  refine lv_aload_n hx hb dL_law_2138 rfl (lv_at hl 6 rfl) ?_
  refine lv_iload hx hb dL_law_2139 (lv_at hl 1 rfl) ?_
  refine lv_iconst (v := 2) hx hb dL_law_2141 (by decide) ?_
  refine x_iadd (v := 2) hx hb dL_law_2142 (by decide) ?_
  refine x_sld (z := a2) hx hb C.hX C.hbl C.hbA hS (x_in (by decide)) (k := 2) (by decide) x2 dL_law_2143 ?_
  refine g_i (wr := []) (rV (rest := []) hx hb hml hown hE hP hD 23 rfl rfl (M2 H.size) (kV_X10_level hE (e1664 hE) hrc2 hrs2 hR2) is2 (sub_app hi2) hn2 rfl hl.1 rfl (lv_room (Nat.le_of_ble_eq_true rfl)) dL_law_2144 ⟨by rw [rm_c]; omega, by rw [rm_s]; omega⟩) hP hD hS hA is2 [] (sub_app hi2) rfl (by decide) (fun i hi => absurd hi List.not_mem_nil) (fun u2 H locs hP hD hS => ?_)
  refine lv_istore (lv' := [(7, .int r2), (6, .int K), (5, .int 0), (4, .ref qd), (3, .ref qo), (2, .ref qm), (1, .ref qx), (0, .ref b)]) hx hb dL_law_2147 hl (by decide) rfl (fun ls hl => ?_)
  refine lv_aload_n hx hb dL_law_2149 rfl (lv_at hl 5 rfl) ?_
  refine g_i (wr := []) (rV (rest := []) hx hb hml hown hE hP hD 0 rfl rfl (h_thrown l g qm fs2 T hT H.size) (kV_X10_thrown hE (e1412 hE) rfl rfl ⟨(Nat.le_of_ble_eq_true rfl), (Nat.le_of_ble_eq_true rfl)⟩) [0] rfl (by decide) rfl hl.1 rfl (lv_room (Nat.le_of_ble_eq_true rfl)) dL_law_2150 ⟨by rw [rm_c]; omega, by rw [rm_s]; omega⟩) hP hD hS hA [0] [] rfl rfl (by decide) (by decide) (fun u3 H locs hP hD hS => ?_)
  refine lv_iload hx hb dL_law_2153 (lv_at hl 1 rfl) ?_
  refine lv_icmp_eq (tgt := 2160) hx hb dL_law_2155 (by decide) (fun _ => ?_) (fun h => absurd hTK h)
  refine lv_iload hx hb dL_law_2160 (lv_at hl 1 rfl) ?_
  refine lv_if_ne (tgt := 2177) hx hb dL_law_2162 (by decide) (fun _ => ?_) (fun h => absurd h hK)
  refine lv_goto (tgt := 2958) hx hb dL_law_2177 (by decide) ?_
  exact lw_end C hS (lv_sub hl [2, 7] rfl) (by omega) (by omega)

set_option maxHeartbeats 4000000 in
set_option maxRecDepth 100000 in
theorem loK_lostShare (C : L0 p l s m meth c b 6 xs g) (hP : va_P g.1 vwCl (WL g qx u qm v qo qd) H) (hD : va_D (LA s) (WL g qx u qm v qo qd)) (hS : va_S (LA s) s.heap H locs) (hl : lv_has ls 9 [(5, .int 0), (4, .ref qd), (3, .ref qo), (2, .ref qm), (1, .ref qx), (0, .ref b)]) {ws1 ws2 : va_W} {rm1 rm2 : Room} {mc1 ms1 mc2 ms2 : Nat} {fs2 : List Value} {po1 : (Nat → Nat) → va_W} {K T : Int32} (hK : ¬ K = 0) (hTK : T = K) {r2 : UInt64} (hT : fs2[6]? = some (.int T)) (is1 : List Nat) (hi1 : is1.map (fun i => (WL g qx u qm v qo qd)[i]?) = ws1.map some) (hn1 : va_nd is1 = true) (hd1 : ∀ i ∈ [48, 49, 50, 51, 52, 53, 54, 55, 56, 57, 58, 59, 60, 61, 62, 63, 64, 65, 66, 67, 68, 69, 70, 71], i ∉ is1) (M1 : ∀ sz, Met l yL_lostShare [Cond.codeWith yL_lostShare cL_lostShare 3 (some .int) [(0, 7, 10, 124)]] rm1 (va_Pc [.ref qx, .ref qd] (PZ g sz ws1)) (QI g ws1 sz K po1) mc1 ms1 (va_A ws1 sz)) (hrc1 : rm1.cells = mc1) (hrs1 : rm1.slots = ms1) (hR1 : rm1.frames + 1 ≤ room_1.frames ∧ 8 + (3 + 11) + rm1.locals ≤ room_1.locals) (hc1 : mc1 ≤ 100000 ∧ ms1 ≤ 1000000) (is2 : List Nat) (hi2 : is2.map (fun i => (WM g qm v)[i]?) = ws2.map some) (hn2 : va_nd is2 = true) (hd2 : ∀ i ∈ is2, i < 24) (M2 : ∀ sz, Met l yX10_lostShare [Cond.code yX10_lostShare cX10_lostShare 3 (some .double)] rm2 (va_Pc [.ref qm] (PX g sz ws2)) (QD g ws2 sz r2 (fun _ => [(qm, .inr (12, fs2))])) mc2 ms2 (va_A ws2 sz)) (hrc2 : rm2.cells = mc2) (hrs2 : rm2.slots = ms2) (hR2 : rm2.frames + 1 ≤ room_1.frames ∧ 8 + (3 + 11) + rm2.locals ≤ room_1.locals) (hc2 : mc2 ≤ 100000 ∧ ms2 ≤ 1000000) : W p l e room_1 s m #[Value.ref b] below meth c H locs 146 20899 (lw_Z below #[Value.ref b] s) (F0 m 2429 ls []) := by
  have hx := C.hx
  have hb := C.hb
  have hml := C.hml
  have hown := C.hown
  have hE := C.hE
  have hz := C.hz
  have hA : ∀ q, s.heap.size ≤ q → LA s q := LA_new
  refine lv_aload_n hx hb dL_law_2429 rfl (lv_at hl 4 rfl) ?_
  refine lv_aload hx hb dL_law_2430 (lv_at hl 1 rfl) ?_
  refine g_i (wr := WM g qm v) (rSW (rest := []) hx hb hml hown hE hP hD hS hA hz (M1 H.size) (kSW_L_lostShare hE (e1094 hE) hrc1 hrs1 hR1) is1 hi1 hn1 rfl hl.1 rfl (lv_room (Nat.le_of_ble_eq_true rfl)) dL_law_2432 ⟨by rw [rm_c]; omega, by rw [rm_s]; omega⟩) hP hD hS hA is1 [48, 49, 50, 51, 52, 53, 54, 55, 56, 57, 58, 59, 60, 61, 62, 63, 64, 65, 66, 67, 68, 69, 70, 71] hi1 rfl (by decide) hd1 (fun u1 H locs hP hD hS => ?_)
  refine lv_istore (lv' := [(6, .int K), (5, .int 0), (4, .ref qd), (3, .ref qo), (2, .ref qm), (1, .ref qx), (0, .ref b)]) hx hb dL_law_2435 hl (by decide) rfl (fun ls hl => ?_)
  refine lv_aload_n hx hb dL_law_2437 rfl (lv_at hl 4 rfl) ?_
  refine g_d (wr := []) (rV (rest := []) hx hb hml hown hE hP hD 23 rfl rfl (M2 H.size) (kV_X10_lostShare hE (e1696 hE) hrc2 hrs2 hR2) is2 (sub_app hi2) hn2 rfl hl.1 rfl (lv_room (Nat.le_of_ble_eq_true rfl)) dL_law_2438 ⟨by rw [rm_c]; omega, by rw [rm_s]; omega⟩) hP hD hS hA is2 [] (sub_app hi2) rfl (by decide) (fun i hi => absurd hi List.not_mem_nil) (fun u2 H locs hP hD hS => ?_)
  refine lv_dstore (lv' := [(7, .double r2), (6, .int K), (5, .int 0), (4, .ref qd), (3, .ref qo), (2, .ref qm), (1, .ref qx), (0, .ref b)]) hx hb dL_law_2441 hl (by decide) rfl (fun ls hl => ?_)
  refine lv_aload_n hx hb dL_law_2443 rfl (lv_at hl 5 rfl) ?_
  refine g_i (wr := []) (rV (rest := []) hx hb hml hown hE hP hD 0 rfl rfl (h_thrown l g qm fs2 T hT H.size) (kV_X10_thrown hE (e1412 hE) rfl rfl ⟨(Nat.le_of_ble_eq_true rfl), (Nat.le_of_ble_eq_true rfl)⟩) [0] rfl (by decide) rfl hl.1 rfl (lv_room (Nat.le_of_ble_eq_true rfl)) dL_law_2444 ⟨by rw [rm_c]; omega, by rw [rm_s]; omega⟩) hP hD hS hA [0] [] rfl rfl (by decide) (by decide) (fun u3 H locs hP hD hS => ?_)
  refine lv_iload hx hb dL_law_2447 (lv_at hl 1 rfl) ?_
  refine lv_icmp_eq (tgt := 2454) hx hb dL_law_2449 (by decide) (fun _ => ?_) (fun h => absurd hTK h)
  refine lv_iload hx hb dL_law_2454 (lv_at hl 1 rfl) ?_
  refine lv_if_ne (tgt := 2491) hx hb dL_law_2456 (by decide) (fun _ => ?_) (fun h => absurd h hK)
  refine lv_goto (tgt := 2958) hx hb dL_law_2491 (by decide) ?_
  exact lw_end C hS (lv_sub hl [2, 7] rfl) (by omega) (by omega)

set_option maxHeartbeats 4000000 in
set_option maxRecDepth 100000 in
theorem loK_mix (C : L0 p l s m meth c b 6 xs g) (hP : va_P g.1 vwCl (WL g qx u qm v qo qd) H) (hD : va_D (LA s) (WL g qx u qm v qo qd)) (hS : va_S (LA s) s.heap H locs) (hl : lv_has ls 9 [(5, .int 0), (4, .ref qd), (3, .ref qo), (2, .ref qm), (1, .ref qx), (0, .ref b)]) {a1 : Int32} (x1 : xs 1 = a1) {ws1 ws2 : va_W} {rm1 rm2 : Room} {mc1 ms1 mc2 ms2 : Nat} {fs2 : List Value} {po1 : (Nat → Nat) → va_W} {K T : Int32} (hK : ¬ K = 0) (hTK : T = K) {r2 : Int32} (hT : fs2[6]? = some (.int T)) (is1 : List Nat) (hi1 : is1.map (fun i => (WL g qx u qm v qo qd)[i]?) = ws1.map some) (hn1 : va_nd is1 = true) (hd1 : ∀ i ∈ [48, 49, 50, 51, 52, 53, 54, 55, 56, 57, 58, 59, 60, 61, 62, 63, 64, 65, 66, 67, 68, 69, 70, 71], i ∉ is1) (M1 : ∀ sz, Met l yL_mix [Cond.codeWith yL_mix cL_mix 4 (some .int) [(0, 9, 12, 15)]] rm1 (va_Pc [.ref qx, .int a1, .ref qo] (PZ g sz ws1)) (QI g ws1 sz K po1) mc1 ms1 (va_A ws1 sz)) (hrc1 : rm1.cells = mc1) (hrs1 : rm1.slots = ms1) (hR1 : rm1.frames + 1 ≤ room_1.frames ∧ 8 + (4 + 11) + rm1.locals ≤ room_1.locals) (hc1 : mc1 ≤ 100000 ∧ ms1 ≤ 1000000) (is2 : List Nat) (hi2 : is2.map (fun i => (WM g qm v)[i]?) = ws2.map some) (hn2 : va_nd is2 = true) (hd2 : ∀ i ∈ is2, i < 24) (M2 : ∀ sz, Met l yX10_mix [Cond.code yX10_mix cX10_mix 4 (some .int)] rm2 (va_Pc [.ref qm, .int a1] (PX g sz ws2)) (QI g ws2 sz r2 (fun _ => [(qm, .inr (12, fs2))])) mc2 ms2 (va_A ws2 sz)) (hrc2 : rm2.cells = mc2) (hrs2 : rm2.slots = ms2) (hR2 : rm2.frames + 1 ≤ room_1.frames ∧ 8 + (4 + 11) + rm2.locals ≤ room_1.locals) (hc2 : mc2 ≤ 100000 ∧ ms2 ≤ 1000000) : W p l e room_1 s m #[Value.ref b] below meth c H locs 146 20899 (lw_Z below #[Value.ref b] s) (F0 m 2180 ls []) := by
  have hx := C.hx
  have hb := C.hb
  have hml := C.hml
  have hown := C.hown
  have hE := C.hE
  have hz := C.hz
  have hA : ∀ q, s.heap.size ≤ q → LA s q := LA_new
  refine lv_aload_n hx hb dL_law_2180 rfl (lv_at hl 4 rfl) ?_
  refine lv_aload_n hx hb dL_law_2181 rfl (lv_at hl 5 rfl) ?_
  refine lv_iload hx hb dL_law_2182 (lv_at hl 0 rfl) ?_
  refine lv_iconst (v := 1) hx hb dL_law_2184 (by decide) ?_
  refine x_iadd (v := 1) hx hb dL_law_2185 (by decide) ?_
  refine x_sld (z := a1) hx hb C.hX C.hbl C.hbA hS (x_in (by decide)) (k := 1) (by decide) x1 dL_law_2186 ?_
  refine lv_aload_n hx hb dL_law_2187 rfl (lv_at hl 2 rfl) ?_
  refine g_i (wr := WM g qm v) (rSW (rest := []) hx hb hml hown hE hP hD hS hA hz (M1 H.size) (kSW_L_mix hE (e1045 hE) hrc1 hrs1 hR1) is1 hi1 hn1 rfl hl.1 rfl (lv_room (Nat.le_of_ble_eq_true rfl)) dL_law_2188 ⟨by rw [rm_c]; omega, by rw [rm_s]; omega⟩) hP hD hS hA is1 [48, 49, 50, 51, 52, 53, 54, 55, 56, 57, 58, 59, 60, 61, 62, 63, 64, 65, 66, 67, 68, 69, 70, 71] hi1 rfl (by decide) hd1 (fun u1 H locs hP hD hS => ?_)
  refine lv_istore (lv' := [(6, .int K), (5, .int 0), (4, .ref qd), (3, .ref qo), (2, .ref qm), (1, .ref qx), (0, .ref b)]) hx hb dL_law_2191 hl (by decide) rfl (fun ls hl => ?_)
  refine lv_aload_n hx hb dL_law_2193 rfl (lv_at hl 4 rfl) ?_
  refine lv_aload_n hx hb dL_law_2194 rfl (lv_at hl 6 rfl) ?_
  refine lv_iload hx hb dL_law_2195 (lv_at hl 1 rfl) ?_
  refine lv_iconst (v := 1) hx hb dL_law_2197 (by decide) ?_
  refine x_iadd (v := 1) hx hb dL_law_2198 (by decide) ?_
  refine x_sld (z := a1) hx hb C.hX C.hbl C.hbA hS (x_in (by decide)) (k := 1) (by decide) x1 dL_law_2199 ?_
  refine g_i (wr := []) (rV (rest := []) hx hb hml hown hE hP hD 23 rfl rfl (M2 H.size) (kV_X10_mix hE (e1668 hE) hrc2 hrs2 hR2) is2 (sub_app hi2) hn2 rfl hl.1 rfl (lv_room (Nat.le_of_ble_eq_true rfl)) dL_law_2200 ⟨by rw [rm_c]; omega, by rw [rm_s]; omega⟩) hP hD hS hA is2 [] (sub_app hi2) rfl (by decide) (fun i hi => absurd hi List.not_mem_nil) (fun u2 H locs hP hD hS => ?_)
  refine lv_istore (lv' := [(7, .int r2), (6, .int K), (5, .int 0), (4, .ref qd), (3, .ref qo), (2, .ref qm), (1, .ref qx), (0, .ref b)]) hx hb dL_law_2203 hl (by decide) rfl (fun ls hl => ?_)
  refine lv_aload_n hx hb dL_law_2205 rfl (lv_at hl 5 rfl) ?_
  refine g_i (wr := []) (rV (rest := []) hx hb hml hown hE hP hD 0 rfl rfl (h_thrown l g qm fs2 T hT H.size) (kV_X10_thrown hE (e1412 hE) rfl rfl ⟨(Nat.le_of_ble_eq_true rfl), (Nat.le_of_ble_eq_true rfl)⟩) [0] rfl (by decide) rfl hl.1 rfl (lv_room (Nat.le_of_ble_eq_true rfl)) dL_law_2206 ⟨by rw [rm_c]; omega, by rw [rm_s]; omega⟩) hP hD hS hA [0] [] rfl rfl (by decide) (by decide) (fun u3 H locs hP hD hS => ?_)
  refine lv_iload hx hb dL_law_2209 (lv_at hl 1 rfl) ?_
  refine lv_icmp_eq (tgt := 2216) hx hb dL_law_2211 (by decide) (fun _ => ?_) (fun h => absurd hTK h)
  refine lv_iload hx hb dL_law_2216 (lv_at hl 1 rfl) ?_
  refine lv_if_ne (tgt := 2233) hx hb dL_law_2218 (by decide) (fun _ => ?_) (fun h => absurd h hK)
  refine lv_goto (tgt := 2958) hx hb dL_law_2233 (by decide) ?_
  exact lw_end C hS (lv_sub hl [2, 7] rfl) (by omega) (by omega)

set_option maxHeartbeats 4000000 in
set_option maxRecDepth 100000 in
theorem loK_moveClip (C : L0 p l s m meth c b 6 xs g) (hP : va_P g.1 vwCl (WL g qx u qm v qo qd) H) (hD : va_D (LA s) (WL g qx u qm v qo qd)) (hS : va_S (LA s) s.heap H locs) (hl : lv_has ls 9 [(5, .int 0), (4, .ref qd), (3, .ref qo), (2, .ref qm), (1, .ref qx), (0, .ref b)]) {a1 a2 : Int32} (x1 : xs 1 = a1) (x2 : xs 2 = a2) {ws1 ws2 : va_W} {rm1 rm2 : Room} {mc1 ms1 mc2 ms2 : Nat} {fs2 : List Value} {po1 : (Nat → Nat) → va_W} {K T : Int32} (hK : ¬ K = 0) (hTK : T = K) {r2 : Int32} (hT : fs2[6]? = some (.int T)) (is1 : List Nat) (hi1 : is1.map (fun i => (WL g qx u qm v qo qd)[i]?) = ws1.map some) (hn1 : va_nd is1 = true) (hd1 : ∀ i ∈ [48, 49, 50, 51, 52, 53, 54, 55, 56, 57, 58, 59, 60, 61, 62, 63, 64, 65, 66, 67, 68, 69, 70, 71], i ∉ is1) (M1 : ∀ sz, Met l yL_moveClip [Cond.codeWith yL_moveClip cL_moveClip 5 (some .int) [(0, 10, 13, 13), (0, 10, 17, 15)]] rm1 (va_Pc [.ref qx, .int a1, .int a2, .ref qo] (PZ g sz ws1)) (QI g ws1 sz K po1) mc1 ms1 (va_A ws1 sz)) (hrc1 : rm1.cells = mc1) (hrs1 : rm1.slots = ms1) (hR1 : rm1.frames + 1 ≤ room_1.frames ∧ 8 + (5 + 11) + rm1.locals ≤ room_1.locals) (hc1 : mc1 ≤ 100000 ∧ ms1 ≤ 1000000) (is2 : List Nat) (hi2 : is2.map (fun i => (WM g qm v)[i]?) = ws2.map some) (hn2 : va_nd is2 = true) (hd2 : ∀ i ∈ is2, i < 24) (M2 : ∀ sz, Met l yX10_moveClip [Cond.code yX10_moveClip cX10_moveClip 4 (some .int)] rm2 (va_Pc [.ref qm, .int a1, .int a2] (PX g sz ws2)) (QI g ws2 sz r2 (fun _ => [(qm, .inr (12, fs2))])) mc2 ms2 (va_A ws2 sz)) (hrc2 : rm2.cells = mc2) (hrs2 : rm2.slots = ms2) (hR2 : rm2.frames + 1 ≤ room_1.frames ∧ 8 + (4 + 11) + rm2.locals ≤ room_1.locals) (hc2 : mc2 ≤ 100000 ∧ ms2 ≤ 1000000) : W p l e room_1 s m #[Value.ref b] below meth c H locs 146 20899 (lw_Z below #[Value.ref b] s) (F0 m 949 ls []) := by
  have hx := C.hx
  have hb := C.hb
  have hml := C.hml
  have hown := C.hown
  have hE := C.hE
  have hz := C.hz
  have hA : ∀ q, s.heap.size ≤ q → LA s q := LA_new
  refine lv_aload_n hx hb dL_law_949 rfl (lv_at hl 4 rfl) ?_
  refine lv_aload_n hx hb dL_law_950 rfl (lv_at hl 5 rfl) ?_
  refine lv_iload hx hb dL_law_951 (lv_at hl 0 rfl) ?_
  refine lv_iconst (v := 1) hx hb dL_law_953 (by decide) ?_
  refine x_iadd (v := 1) hx hb dL_law_954 (by decide) ?_
  refine x_sld (z := a1) hx hb C.hX C.hbl C.hbA hS (x_in (by decide)) (k := 1) (by decide) x1 dL_law_955 ?_
  refine lv_aload_n hx hb dL_law_956 rfl (lv_at hl 5 rfl) ?_
  refine lv_iload hx hb dL_law_957 (lv_at hl 0 rfl) ?_
  refine lv_iconst (v := 2) hx hb dL_law_959 (by decide) ?_
  refine x_iadd (v := 2) hx hb dL_law_960 (by decide) ?_
  refine x_sld (z := a2) hx hb C.hX C.hbl C.hbA hS (x_in (by decide)) (k := 2) (by decide) x2 dL_law_961 ?_
  refine lv_aload_n hx hb dL_law_962 rfl (lv_at hl 2 rfl) ?_
  refine g_i (wr := WM g qm v) (rSW (rest := []) hx hb hml hown hE hP hD hS hA hz (M1 H.size) (kSW_L_moveClip hE (e828 hE) hrc1 hrs1 hR1) is1 hi1 hn1 rfl hl.1 rfl (lv_room (Nat.le_of_ble_eq_true rfl)) dL_law_963 ⟨by rw [rm_c]; omega, by rw [rm_s]; omega⟩) hP hD hS hA is1 [48, 49, 50, 51, 52, 53, 54, 55, 56, 57, 58, 59, 60, 61, 62, 63, 64, 65, 66, 67, 68, 69, 70, 71] hi1 rfl (by decide) hd1 (fun u1 H locs hP hD hS => ?_)
  refine lv_istore (lv' := [(6, .int K), (5, .int 0), (4, .ref qd), (3, .ref qo), (2, .ref qm), (1, .ref qx), (0, .ref b)]) hx hb dL_law_966 hl (by decide) rfl (fun ls hl => ?_)
  refine lv_aload_n hx hb dL_law_968 rfl (lv_at hl 4 rfl) ?_
  refine lv_aload_n hx hb dL_law_969 rfl (lv_at hl 6 rfl) ?_
  refine lv_iload hx hb dL_law_970 (lv_at hl 1 rfl) ?_
  refine lv_iconst (v := 1) hx hb dL_law_972 (by decide) ?_
  refine x_iadd (v := 1) hx hb dL_law_973 (by decide) ?_
  refine x_sld (z := a1) hx hb C.hX C.hbl C.hbA hS (x_in (by decide)) (k := 1) (by decide) x1 dL_law_974 ?_
  refine lv_aload_n hx hb dL_law_975 rfl (lv_at hl 6 rfl) ?_
  refine lv_iload hx hb dL_law_976 (lv_at hl 1 rfl) ?_
  refine lv_iconst (v := 2) hx hb dL_law_978 (by decide) ?_
  refine x_iadd (v := 2) hx hb dL_law_979 (by decide) ?_
  refine x_sld (z := a2) hx hb C.hX C.hbl C.hbA hS (x_in (by decide)) (k := 2) (by decide) x2 dL_law_980 ?_
  refine g_i (wr := []) (rV (rest := []) hx hb hml hown hE hP hD 23 rfl rfl (M2 H.size) (kV_X10_moveClip hE (e1531 hE) hrc2 hrs2 hR2) is2 (sub_app hi2) hn2 rfl hl.1 rfl (lv_room (Nat.le_of_ble_eq_true rfl)) dL_law_981 ⟨by rw [rm_c]; omega, by rw [rm_s]; omega⟩) hP hD hS hA is2 [] (sub_app hi2) rfl (by decide) (fun i hi => absurd hi List.not_mem_nil) (fun u2 H locs hP hD hS => ?_)
  refine lv_istore (lv' := [(7, .int r2), (6, .int K), (5, .int 0), (4, .ref qd), (3, .ref qo), (2, .ref qm), (1, .ref qx), (0, .ref b)]) hx hb dL_law_984 hl (by decide) rfl (fun ls hl => ?_)
  refine lv_aload_n hx hb dL_law_986 rfl (lv_at hl 5 rfl) ?_
  refine g_i (wr := []) (rV (rest := []) hx hb hml hown hE hP hD 0 rfl rfl (h_thrown l g qm fs2 T hT H.size) (kV_X10_thrown hE (e1412 hE) rfl rfl ⟨(Nat.le_of_ble_eq_true rfl), (Nat.le_of_ble_eq_true rfl)⟩) [0] rfl (by decide) rfl hl.1 rfl (lv_room (Nat.le_of_ble_eq_true rfl)) dL_law_987 ⟨by rw [rm_c]; omega, by rw [rm_s]; omega⟩) hP hD hS hA [0] [] rfl rfl (by decide) (by decide) (fun u3 H locs hP hD hS => ?_)
  refine lv_iload hx hb dL_law_990 (lv_at hl 1 rfl) ?_
  refine lv_icmp_eq (tgt := 997) hx hb dL_law_992 (by decide) (fun _ => ?_) (fun h => absurd hTK h)
  refine lv_iload hx hb dL_law_997 (lv_at hl 1 rfl) ?_
  refine lv_if_ne (tgt := 1014) hx hb dL_law_999 (by decide) (fun _ => ?_) (fun h => absurd h hK)
  refine lv_goto (tgt := 2958) hx hb dL_law_1014 (by decide) ?_
  exact lw_end C hS (lv_sub hl [2, 7] rfl) (by omega) (by omega)

set_option maxHeartbeats 4000000 in
set_option maxRecDepth 100000 in
theorem loK_note (C : L0 p l s m meth c b 6 xs g) (hP : va_P g.1 vwCl (WL g qx u qm v qo qd) H) (hD : va_D (LA s) (WL g qx u qm v qo qd)) (hS : va_S (LA s) s.heap H locs) (hl : lv_has ls 9 [(5, .int 0), (4, .ref qd), (3, .ref qo), (2, .ref qm), (1, .ref qx), (0, .ref b)]) {a1 a2 : Int32} (x1 : xs 1 = a1) (x2 : xs 2 = a2) {ws1 ws2 : va_W} {rm1 rm2 : Room} {mc1 ms1 mc2 ms2 : Nat} {fs2 : List Value} {po1 : (Nat → Nat) → va_W} {K T : Int32} (hK : ¬ K = 0) (hTK : T = K) {r2 : Int32} (hT : fs2[6]? = some (.int T)) (is1 : List Nat) (hi1 : is1.map (fun i => (WL g qx u qm v qo qd)[i]?) = ws1.map some) (hn1 : va_nd is1 = true) (hd1 : ∀ i ∈ [48, 49, 50, 51, 52, 53, 54, 55, 56, 57, 58, 59, 60, 61, 62, 63, 64, 65, 66, 67, 68, 69, 70, 71], i ∉ is1) (M1 : ∀ sz, Met l yL_note [Cond.codeWith yL_note cL_note 5 (some .int) [(0, 10, 13, 13), (0, 10, 17, 15)]] rm1 (va_Pc [.ref qx, .int a1, .int a2, .ref qo] (PZ g sz ws1)) (QI g ws1 sz K po1) mc1 ms1 (va_A ws1 sz)) (hrc1 : rm1.cells = mc1) (hrs1 : rm1.slots = ms1) (hR1 : rm1.frames + 1 ≤ room_1.frames ∧ 8 + (5 + 11) + rm1.locals ≤ room_1.locals) (hc1 : mc1 ≤ 100000 ∧ ms1 ≤ 1000000) (is2 : List Nat) (hi2 : is2.map (fun i => (WM g qm v)[i]?) = ws2.map some) (hn2 : va_nd is2 = true) (hd2 : ∀ i ∈ is2, i < 24) (M2 : ∀ sz, Met l yX10_note [Cond.code yX10_note cX10_note 3 (some .int)] rm2 (va_Pc [.ref qm, .int a1, .int a2] (PX g sz ws2)) (QI g ws2 sz r2 (fun _ => [(qm, .inr (12, fs2))])) mc2 ms2 (va_A ws2 sz)) (hrc2 : rm2.cells = mc2) (hrs2 : rm2.slots = ms2) (hR2 : rm2.frames + 1 ≤ room_1.frames ∧ 8 + (3 + 11) + rm2.locals ≤ room_1.locals) (hc2 : mc2 ≤ 100000 ∧ ms2 ≤ 1000000) : W p l e room_1 s m #[Value.ref b] below meth c H locs 146 20899 (lw_Z below #[Value.ref b] s) (F0 m 1141 ls []) := by
  have hx := C.hx
  have hb := C.hb
  have hml := C.hml
  have hown := C.hown
  have hE := C.hE
  have hz := C.hz
  have hA : ∀ q, s.heap.size ≤ q → LA s q := LA_new
  refine lv_aload_n hx hb dL_law_1141 rfl (lv_at hl 4 rfl) ?_
  refine lv_aload_n hx hb dL_law_1142 rfl (lv_at hl 5 rfl) ?_
  refine lv_iload hx hb dL_law_1143 (lv_at hl 0 rfl) ?_
  refine lv_iconst (v := 1) hx hb dL_law_1145 (by decide) ?_
  refine x_iadd (v := 1) hx hb dL_law_1146 (by decide) ?_
  refine x_sld (z := a1) hx hb C.hX C.hbl C.hbA hS (x_in (by decide)) (k := 1) (by decide) x1 dL_law_1147 ?_
  refine lv_aload_n hx hb dL_law_1148 rfl (lv_at hl 5 rfl) ?_
  refine lv_iload hx hb dL_law_1149 (lv_at hl 0 rfl) ?_
  refine lv_iconst (v := 2) hx hb dL_law_1151 (by decide) ?_
  refine x_iadd (v := 2) hx hb dL_law_1152 (by decide) ?_
  refine x_sld (z := a2) hx hb C.hX C.hbl C.hbA hS (x_in (by decide)) (k := 2) (by decide) x2 dL_law_1153 ?_
  refine lv_aload_n hx hb dL_law_1154 rfl (lv_at hl 2 rfl) ?_
  refine g_i (wr := WM g qm v) (rSW (rest := []) hx hb hml hown hE hP hD hS hA hz (M1 H.size) (kSW_L_note hE (e874 hE) hrc1 hrs1 hR1) is1 hi1 hn1 rfl hl.1 rfl (lv_room (Nat.le_of_ble_eq_true rfl)) dL_law_1155 ⟨by rw [rm_c]; omega, by rw [rm_s]; omega⟩) hP hD hS hA is1 [48, 49, 50, 51, 52, 53, 54, 55, 56, 57, 58, 59, 60, 61, 62, 63, 64, 65, 66, 67, 68, 69, 70, 71] hi1 rfl (by decide) hd1 (fun u1 H locs hP hD hS => ?_)
  refine lv_istore (lv' := [(6, .int K), (5, .int 0), (4, .ref qd), (3, .ref qo), (2, .ref qm), (1, .ref qx), (0, .ref b)]) hx hb dL_law_1158 hl (by decide) rfl (fun ls hl => ?_)
  refine lv_aload_n hx hb dL_law_1160 rfl (lv_at hl 4 rfl) ?_
  refine lv_aload_n hx hb dL_law_1161 rfl (lv_at hl 6 rfl) ?_
  refine lv_iload hx hb dL_law_1162 (lv_at hl 1 rfl) ?_
  refine lv_iconst (v := 1) hx hb dL_law_1164 (by decide) ?_
  refine x_iadd (v := 1) hx hb dL_law_1165 (by decide) ?_
  refine x_sld (z := a1) hx hb C.hX C.hbl C.hbA hS (x_in (by decide)) (k := 1) (by decide) x1 dL_law_1166 ?_
  refine lv_aload_n hx hb dL_law_1167 rfl (lv_at hl 6 rfl) ?_
  refine lv_iload hx hb dL_law_1168 (lv_at hl 1 rfl) ?_
  refine lv_iconst (v := 2) hx hb dL_law_1170 (by decide) ?_
  refine x_iadd (v := 2) hx hb dL_law_1171 (by decide) ?_
  refine x_sld (z := a2) hx hb C.hX C.hbl C.hbA hS (x_in (by decide)) (k := 2) (by decide) x2 dL_law_1172 ?_
  refine g_i (wr := []) (rV (rest := []) hx hb hml hown hE hP hD 23 rfl rfl (M2 H.size) (kV_X10_note hE (e1592 hE) hrc2 hrs2 hR2) is2 (sub_app hi2) hn2 rfl hl.1 rfl (lv_room (Nat.le_of_ble_eq_true rfl)) dL_law_1173 ⟨by rw [rm_c]; omega, by rw [rm_s]; omega⟩) hP hD hS hA is2 [] (sub_app hi2) rfl (by decide) (fun i hi => absurd hi List.not_mem_nil) (fun u2 H locs hP hD hS => ?_)
  refine lv_istore (lv' := [(7, .int r2), (6, .int K), (5, .int 0), (4, .ref qd), (3, .ref qo), (2, .ref qm), (1, .ref qx), (0, .ref b)]) hx hb dL_law_1176 hl (by decide) rfl (fun ls hl => ?_)
  refine lv_aload_n hx hb dL_law_1178 rfl (lv_at hl 5 rfl) ?_
  refine g_i (wr := []) (rV (rest := []) hx hb hml hown hE hP hD 0 rfl rfl (h_thrown l g qm fs2 T hT H.size) (kV_X10_thrown hE (e1412 hE) rfl rfl ⟨(Nat.le_of_ble_eq_true rfl), (Nat.le_of_ble_eq_true rfl)⟩) [0] rfl (by decide) rfl hl.1 rfl (lv_room (Nat.le_of_ble_eq_true rfl)) dL_law_1179 ⟨by rw [rm_c]; omega, by rw [rm_s]; omega⟩) hP hD hS hA [0] [] rfl rfl (by decide) (by decide) (fun u3 H locs hP hD hS => ?_)
  refine lv_iload hx hb dL_law_1182 (lv_at hl 1 rfl) ?_
  refine lv_icmp_eq (tgt := 1189) hx hb dL_law_1184 (by decide) (fun _ => ?_) (fun h => absurd hTK h)
  refine lv_iload hx hb dL_law_1189 (lv_at hl 1 rfl) ?_
  refine lv_if_ne (tgt := 1206) hx hb dL_law_1191 (by decide) (fun _ => ?_) (fun h => absurd h hK)
  refine lv_goto (tgt := 2958) hx hb dL_law_1206 (by decide) ?_
  exact lw_end C hS (lv_sub hl [2, 7] rfl) (by omega) (by omega)

set_option maxHeartbeats 4000000 in
set_option maxRecDepth 100000 in
theorem loK_noteOn (C : L0 p l s m meth c b 6 xs g) (hP : va_P g.1 vwCl (WL g qx u qm v qo qd) H) (hD : va_D (LA s) (WL g qx u qm v qo qd)) (hS : va_S (LA s) s.heap H locs) (hl : lv_has ls 9 [(5, .int 0), (4, .ref qd), (3, .ref qo), (2, .ref qm), (1, .ref qx), (0, .ref b)]) {a1 a2 : Int32} (x1 : xs 1 = a1) (x2 : xs 2 = a2) {ws1 ws2 : va_W} {rm1 rm2 : Room} {mc1 ms1 mc2 ms2 : Nat} {fs2 : List Value} {po1 : (Nat → Nat) → va_W} {K T : Int32} (hK : ¬ K = 0) (hTK : T = K) {r2 : Int32} (hT : fs2[6]? = some (.int T)) (is1 : List Nat) (hi1 : is1.map (fun i => (WL g qx u qm v qo qd)[i]?) = ws1.map some) (hn1 : va_nd is1 = true) (hd1 : ∀ i ∈ [48, 49, 50, 51, 52, 53, 54, 55, 56, 57, 58, 59, 60, 61, 62, 63, 64, 65, 66, 67, 68, 69, 70, 71], i ∉ is1) (M1 : ∀ sz, Met l yL_noteOn [Cond.codeWith yL_noteOn cL_noteOn 5 (some .int) [(0, 10, 13, 13), (0, 10, 17, 15), (0, 10, 21, 39)]] rm1 (va_Pc [.ref qx, .int a1, .int a2, .ref qo] (PZ g sz ws1)) (QI g ws1 sz K po1) mc1 ms1 (va_A ws1 sz)) (hrc1 : rm1.cells = mc1) (hrs1 : rm1.slots = ms1) (hR1 : rm1.frames + 1 ≤ room_1.frames ∧ 8 + (5 + 11) + rm1.locals ≤ room_1.locals) (hc1 : mc1 ≤ 100000 ∧ ms1 ≤ 1000000) (is2 : List Nat) (hi2 : is2.map (fun i => (WM g qm v)[i]?) = ws2.map some) (hn2 : va_nd is2 = true) (hd2 : ∀ i ∈ is2, i < 24) (M2 : ∀ sz, Met l yX10_noteOn [Cond.code yX10_noteOn cX10_noteOn 4 (some .int)] rm2 (va_Pc [.ref qm, .int a1, .int a2] (PX g sz ws2)) (QI g ws2 sz r2 (fun _ => [(qm, .inr (12, fs2))])) mc2 ms2 (va_A ws2 sz)) (hrc2 : rm2.cells = mc2) (hrs2 : rm2.slots = ms2) (hR2 : rm2.frames + 1 ≤ room_1.frames ∧ 8 + (4 + 11) + rm2.locals ≤ room_1.locals) (hc2 : mc2 ≤ 100000 ∧ ms2 ≤ 1000000) : W p l e room_1 s m #[Value.ref b] below meth c H locs 146 20899 (lw_Z below #[Value.ref b] s) (F0 m 2292 ls []) := by
  have hx := C.hx
  have hb := C.hb
  have hml := C.hml
  have hown := C.hown
  have hE := C.hE
  have hz := C.hz
  have hA : ∀ q, s.heap.size ≤ q → LA s q := LA_new
  refine lv_aload_n hx hb dL_law_2292 rfl (lv_at hl 4 rfl) ?_
  refine lv_aload_n hx hb dL_law_2293 rfl (lv_at hl 5 rfl) ?_
  refine lv_iload hx hb dL_law_2294 (lv_at hl 0 rfl) ?_
  refine lv_iconst (v := 1) hx hb dL_law_2296 (by decide) ?_
  refine x_iadd (v := 1) hx hb dL_law_2297 (by decide) ?_
  refine x_sld (z := a1) hx hb C.hX C.hbl C.hbA hS (x_in (by decide)) (k := 1) (by decide) x1 dL_law_2298 ?_
  refine lv_aload_n hx hb dL_law_2299 rfl (lv_at hl 5 rfl) ?_
  refine lv_iload hx hb dL_law_2300 (lv_at hl 0 rfl) ?_
  refine lv_iconst (v := 2) hx hb dL_law_2302 (by decide) ?_
  refine x_iadd (v := 2) hx hb dL_law_2303 (by decide) ?_
  refine x_sld (z := a2) hx hb C.hX C.hbl C.hbA hS (x_in (by decide)) (k := 2) (by decide) x2 dL_law_2304 ?_
  refine lv_aload_n hx hb dL_law_2305 rfl (lv_at hl 2 rfl) ?_
  refine g_i (wr := WM g qm v) (rSW (rest := []) hx hb hml hown hE hP hD hS hA hz (M1 H.size) (kSW_L_noteOn hE (e1067 hE) hrc1 hrs1 hR1) is1 hi1 hn1 rfl hl.1 rfl (lv_room (Nat.le_of_ble_eq_true rfl)) dL_law_2306 ⟨by rw [rm_c]; omega, by rw [rm_s]; omega⟩) hP hD hS hA is1 [48, 49, 50, 51, 52, 53, 54, 55, 56, 57, 58, 59, 60, 61, 62, 63, 64, 65, 66, 67, 68, 69, 70, 71] hi1 rfl (by decide) hd1 (fun u1 H locs hP hD hS => ?_)
  refine lv_istore (lv' := [(6, .int K), (5, .int 0), (4, .ref qd), (3, .ref qo), (2, .ref qm), (1, .ref qx), (0, .ref b)]) hx hb dL_law_2309 hl (by decide) rfl (fun ls hl => ?_)
  refine lv_aload_n hx hb dL_law_2311 rfl (lv_at hl 4 rfl) ?_
  refine lv_aload_n hx hb dL_law_2312 rfl (lv_at hl 6 rfl) ?_
  refine lv_iload hx hb dL_law_2313 (lv_at hl 1 rfl) ?_
  refine lv_iconst (v := 1) hx hb dL_law_2315 (by decide) ?_
  refine x_iadd (v := 1) hx hb dL_law_2316 (by decide) ?_
  refine x_sld (z := a1) hx hb C.hX C.hbl C.hbA hS (x_in (by decide)) (k := 1) (by decide) x1 dL_law_2317 ?_
  refine lv_aload_n hx hb dL_law_2318 rfl (lv_at hl 6 rfl) ?_
  refine lv_iload hx hb dL_law_2319 (lv_at hl 1 rfl) ?_
  refine lv_iconst (v := 2) hx hb dL_law_2321 (by decide) ?_
  refine x_iadd (v := 2) hx hb dL_law_2322 (by decide) ?_
  refine x_sld (z := a2) hx hb C.hX C.hbl C.hbA hS (x_in (by decide)) (k := 2) (by decide) x2 dL_law_2323 ?_
  refine g_i (wr := []) (rV (rest := []) hx hb hml hown hE hP hD 23 rfl rfl (M2 H.size) (kV_X10_noteOn hE (e1680 hE) hrc2 hrs2 hR2) is2 (sub_app hi2) hn2 rfl hl.1 rfl (lv_room (Nat.le_of_ble_eq_true rfl)) dL_law_2324 ⟨by rw [rm_c]; omega, by rw [rm_s]; omega⟩) hP hD hS hA is2 [] (sub_app hi2) rfl (by decide) (fun i hi => absurd hi List.not_mem_nil) (fun u2 H locs hP hD hS => ?_)
  refine lv_istore (lv' := [(7, .int r2), (6, .int K), (5, .int 0), (4, .ref qd), (3, .ref qo), (2, .ref qm), (1, .ref qx), (0, .ref b)]) hx hb dL_law_2327 hl (by decide) rfl (fun ls hl => ?_)
  refine lv_aload_n hx hb dL_law_2329 rfl (lv_at hl 5 rfl) ?_
  refine g_i (wr := []) (rV (rest := []) hx hb hml hown hE hP hD 0 rfl rfl (h_thrown l g qm fs2 T hT H.size) (kV_X10_thrown hE (e1412 hE) rfl rfl ⟨(Nat.le_of_ble_eq_true rfl), (Nat.le_of_ble_eq_true rfl)⟩) [0] rfl (by decide) rfl hl.1 rfl (lv_room (Nat.le_of_ble_eq_true rfl)) dL_law_2330 ⟨by rw [rm_c]; omega, by rw [rm_s]; omega⟩) hP hD hS hA [0] [] rfl rfl (by decide) (by decide) (fun u3 H locs hP hD hS => ?_)
  refine lv_iload hx hb dL_law_2333 (lv_at hl 1 rfl) ?_
  refine lv_icmp_eq (tgt := 2340) hx hb dL_law_2335 (by decide) (fun _ => ?_) (fun h => absurd hTK h)
  refine lv_iload hx hb dL_law_2340 (lv_at hl 1 rfl) ?_
  refine lv_if_ne (tgt := 2357) hx hb dL_law_2342 (by decide) (fun _ => ?_) (fun h => absurd h hK)
  refine lv_goto (tgt := 2958) hx hb dL_law_2357 (by decide) ?_
  exact lw_end C hS (lv_sub hl [2, 7] rfl) (by omega) (by omega)

set_option maxHeartbeats 4000000 in
set_option maxRecDepth 100000 in
theorem loK_pattern (C : L0 p l s m meth c b 6 xs g) (hP : va_P g.1 vwCl (WL g qx u qm v qo qd) H) (hD : va_D (LA s) (WL g qx u qm v qo qd)) (hS : va_S (LA s) s.heap H locs) (hl : lv_has ls 9 [(5, .int 0), (4, .ref qd), (3, .ref qo), (2, .ref qm), (1, .ref qx), (0, .ref b)]) {a1 a2 : Int32} (x1 : xs 1 = a1) (x2 : xs 2 = a2) {ws1 ws2 : va_W} {rm1 rm2 : Room} {mc1 ms1 mc2 ms2 : Nat} {fs2 : List Value} {po1 : (Nat → Nat) → va_W} {K T : Int32} (hK : ¬ K = 0) (hTK : T = K) {r2 : Int32} (hT : fs2[6]? = some (.int T)) (is1 : List Nat) (hi1 : is1.map (fun i => (WL g qx u qm v qo qd)[i]?) = ws1.map some) (hn1 : va_nd is1 = true) (hd1 : ∀ i ∈ [48, 49, 50, 51, 52, 53, 54, 55, 56, 57, 58, 59, 60, 61, 62, 63, 64, 65, 66, 67, 68, 69, 70, 71], i ∉ is1) (M1 : ∀ sz, Met l yL_pattern [Cond.codeWith yL_pattern cL_pattern 5 (some .int) [(0, 10, 13, 13), (0, 10, 17, 15)]] rm1 (va_Pc [.ref qx, .int a1, .int a2, .ref qo] (PZ g sz ws1)) (QI g ws1 sz K po1) mc1 ms1 (va_A ws1 sz)) (hrc1 : rm1.cells = mc1) (hrs1 : rm1.slots = ms1) (hR1 : rm1.frames + 1 ≤ room_1.frames ∧ 8 + (5 + 11) + rm1.locals ≤ room_1.locals) (hc1 : mc1 ≤ 100000 ∧ ms1 ≤ 1000000) (is2 : List Nat) (hi2 : is2.map (fun i => (WM g qm v)[i]?) = ws2.map some) (hn2 : va_nd is2 = true) (hd2 : ∀ i ∈ is2, i < 24) (M2 : ∀ sz, Met l yX10_pattern [Cond.code yX10_pattern cX10_pattern 3 (some .int)] rm2 (va_Pc [.ref qm, .int a1, .int a2] (PX g sz ws2)) (QI g ws2 sz r2 (fun _ => [(qm, .inr (12, fs2))])) mc2 ms2 (va_A ws2 sz)) (hrc2 : rm2.cells = mc2) (hrs2 : rm2.slots = ms2) (hR2 : rm2.frames + 1 ≤ room_1.frames ∧ 8 + (3 + 11) + rm2.locals ≤ room_1.locals) (hc2 : mc2 ≤ 100000 ∧ ms2 ≤ 1000000) : W p l e room_1 s m #[Value.ref b] below meth c H locs 146 20899 (lw_Z below #[Value.ref b] s) (F0 m 561 ls []) := by
  have hx := C.hx
  have hb := C.hb
  have hml := C.hml
  have hown := C.hown
  have hE := C.hE
  have hz := C.hz
  have hA : ∀ q, s.heap.size ≤ q → LA s q := LA_new
  refine lv_aload_n hx hb dL_law_561 rfl (lv_at hl 4 rfl) ?_
  refine lv_aload_n hx hb dL_law_562 rfl (lv_at hl 5 rfl) ?_
  refine lv_iload hx hb dL_law_563 (lv_at hl 0 rfl) ?_
  refine lv_iconst (v := 1) hx hb dL_law_565 (by decide) ?_
  refine x_iadd (v := 1) hx hb dL_law_566 (by decide) ?_
  refine x_sld (z := a1) hx hb C.hX C.hbl C.hbA hS (x_in (by decide)) (k := 1) (by decide) x1 dL_law_567 ?_
  refine lv_aload_n hx hb dL_law_568 rfl (lv_at hl 5 rfl) ?_
  refine lv_iload hx hb dL_law_569 (lv_at hl 0 rfl) ?_
  refine lv_iconst (v := 2) hx hb dL_law_571 (by decide) ?_
  refine x_iadd (v := 2) hx hb dL_law_572 (by decide) ?_
  refine x_sld (z := a2) hx hb C.hX C.hbl C.hbA hS (x_in (by decide)) (k := 2) (by decide) x2 dL_law_573 ?_
  refine lv_aload_n hx hb dL_law_574 rfl (lv_at hl 2 rfl) ?_
  refine g_i (wr := WM g qm v) (rSW (rest := []) hx hb hml hown hE hP hD hS hA hz (M1 H.size) (kSW_L_pattern hE (e759 hE) hrc1 hrs1 hR1) is1 hi1 hn1 rfl hl.1 rfl (lv_room (Nat.le_of_ble_eq_true rfl)) dL_law_575 ⟨by rw [rm_c]; omega, by rw [rm_s]; omega⟩) hP hD hS hA is1 [48, 49, 50, 51, 52, 53, 54, 55, 56, 57, 58, 59, 60, 61, 62, 63, 64, 65, 66, 67, 68, 69, 70, 71] hi1 rfl (by decide) hd1 (fun u1 H locs hP hD hS => ?_)
  refine lv_istore (lv' := [(6, .int K), (5, .int 0), (4, .ref qd), (3, .ref qo), (2, .ref qm), (1, .ref qx), (0, .ref b)]) hx hb dL_law_578 hl (by decide) rfl (fun ls hl => ?_)
  refine lv_aload_n hx hb dL_law_580 rfl (lv_at hl 4 rfl) ?_
  refine lv_aload_n hx hb dL_law_581 rfl (lv_at hl 6 rfl) ?_
  refine lv_iload hx hb dL_law_582 (lv_at hl 1 rfl) ?_
  refine lv_iconst (v := 1) hx hb dL_law_584 (by decide) ?_
  refine x_iadd (v := 1) hx hb dL_law_585 (by decide) ?_
  refine x_sld (z := a1) hx hb C.hX C.hbl C.hbA hS (x_in (by decide)) (k := 1) (by decide) x1 dL_law_586 ?_
  refine lv_aload_n hx hb dL_law_587 rfl (lv_at hl 6 rfl) ?_
  refine lv_iload hx hb dL_law_588 (lv_at hl 1 rfl) ?_
  refine lv_iconst (v := 2) hx hb dL_law_590 (by decide) ?_
  refine x_iadd (v := 2) hx hb dL_law_591 (by decide) ?_
  refine x_sld (z := a2) hx hb C.hX C.hbl C.hbA hS (x_in (by decide)) (k := 2) (by decide) x2 dL_law_592 ?_
  refine g_i (wr := []) (rV (rest := []) hx hb hml hown hE hP hD 23 rfl rfl (M2 H.size) (kV_X10_pattern hE (e1498 hE) hrc2 hrs2 hR2) is2 (sub_app hi2) hn2 rfl hl.1 rfl (lv_room (Nat.le_of_ble_eq_true rfl)) dL_law_593 ⟨by rw [rm_c]; omega, by rw [rm_s]; omega⟩) hP hD hS hA is2 [] (sub_app hi2) rfl (by decide) (fun i hi => absurd hi List.not_mem_nil) (fun u2 H locs hP hD hS => ?_)
  refine lv_istore (lv' := [(7, .int r2), (6, .int K), (5, .int 0), (4, .ref qd), (3, .ref qo), (2, .ref qm), (1, .ref qx), (0, .ref b)]) hx hb dL_law_596 hl (by decide) rfl (fun ls hl => ?_)
  refine lv_aload_n hx hb dL_law_598 rfl (lv_at hl 5 rfl) ?_
  refine g_i (wr := []) (rV (rest := []) hx hb hml hown hE hP hD 0 rfl rfl (h_thrown l g qm fs2 T hT H.size) (kV_X10_thrown hE (e1412 hE) rfl rfl ⟨(Nat.le_of_ble_eq_true rfl), (Nat.le_of_ble_eq_true rfl)⟩) [0] rfl (by decide) rfl hl.1 rfl (lv_room (Nat.le_of_ble_eq_true rfl)) dL_law_599 ⟨by rw [rm_c]; omega, by rw [rm_s]; omega⟩) hP hD hS hA [0] [] rfl rfl (by decide) (by decide) (fun u3 H locs hP hD hS => ?_)
  refine lv_iload hx hb dL_law_602 (lv_at hl 1 rfl) ?_
  refine lv_icmp_eq (tgt := 609) hx hb dL_law_604 (by decide) (fun _ => ?_) (fun h => absurd hTK h)
  refine lv_iload hx hb dL_law_609 (lv_at hl 1 rfl) ?_
  refine lv_if_ne (tgt := 626) hx hb dL_law_611 (by decide) (fun _ => ?_) (fun h => absurd h hK)
  refine lv_goto (tgt := 2958) hx hb dL_law_626 (by decide) ?_
  exact lw_end C hS (lv_sub hl [2, 7] rfl) (by omega) (by omega)

set_option maxHeartbeats 4000000 in
set_option maxRecDepth 100000 in
theorem loK_place (C : L0 p l s m meth c b 6 xs g) (hP : va_P g.1 vwCl (WL g qx u qm v qo qd) H) (hD : va_D (LA s) (WL g qx u qm v qo qd)) (hS : va_S (LA s) s.heap H locs) (hl : lv_has ls 9 [(5, .int 0), (4, .ref qd), (3, .ref qo), (2, .ref qm), (1, .ref qx), (0, .ref b)]) {a1 : Int32} (x1 : xs 1 = a1) {ws1 ws2 : va_W} {rm1 rm2 : Room} {mc1 ms1 mc2 ms2 : Nat} {fs2 : List Value} {po1 : (Nat → Nat) → va_W} {K T : Int32} (hK : ¬ K = 0) (hTK : T = K) {r2 : Int32} (hT : fs2[6]? = some (.int T)) (is1 : List Nat) (hi1 : is1.map (fun i => (WL g qx u qm v qo qd)[i]?) = ws1.map some) (hn1 : va_nd is1 = true) (hd1 : ∀ i ∈ [48, 49, 50, 51, 52, 53, 54, 55, 56, 57, 58, 59, 60, 61, 62, 63, 64, 65, 66, 67, 68, 69, 70, 71], i ∉ is1) (M1 : ∀ sz, Met l yL_place [Cond.codeWith yL_place cL_place 4 (some .int) [(0, 9, 12, 39)]] rm1 (va_Pc [.ref qx, .int a1, .ref qo] (PZ g sz ws1)) (QI g ws1 sz K po1) mc1 ms1 (va_A ws1 sz)) (hrc1 : rm1.cells = mc1) (hrs1 : rm1.slots = ms1) (hR1 : rm1.frames + 1 ≤ room_1.frames ∧ 8 + (4 + 11) + rm1.locals ≤ room_1.locals) (hc1 : mc1 ≤ 100000 ∧ ms1 ≤ 1000000) (is2 : List Nat) (hi2 : is2.map (fun i => (WM g qm v)[i]?) = ws2.map some) (hn2 : va_nd is2 = true) (hd2 : ∀ i ∈ is2, i < 24) (M2 : ∀ sz, Met l yX10_place [Cond.code yX10_place cX10_place 2 (some .int)] rm2 (va_Pc [.ref qm, .int a1] (PX g sz ws2)) (QI g ws2 sz r2 (fun _ => [(qm, .inr (12, fs2))])) mc2 ms2 (va_A ws2 sz)) (hrc2 : rm2.cells = mc2) (hrs2 : rm2.slots = ms2) (hR2 : rm2.frames + 1 ≤ room_1.frames ∧ 8 + (2 + 11) + rm2.locals ≤ room_1.locals) (hc2 : mc2 ≤ 100000 ∧ ms2 ≤ 1000000) : W p l e room_1 s m #[Value.ref b] below meth c H locs 146 20899 (lw_Z below #[Value.ref b] s) (F0 m 1508 ls []) := by
  have hx := C.hx
  have hb := C.hb
  have hml := C.hml
  have hown := C.hown
  have hE := C.hE
  have hz := C.hz
  have hA : ∀ q, s.heap.size ≤ q → LA s q := LA_new
  refine lv_aload_n hx hb dL_law_1508 rfl (lv_at hl 4 rfl) ?_
  refine lv_aload_n hx hb dL_law_1509 rfl (lv_at hl 5 rfl) ?_
  refine lv_iload hx hb dL_law_1510 (lv_at hl 0 rfl) ?_
  refine lv_iconst (v := 1) hx hb dL_law_1512 (by decide) ?_
  refine x_iadd (v := 1) hx hb dL_law_1513 (by decide) ?_
  refine x_sld (z := a1) hx hb C.hX C.hbl C.hbA hS (x_in (by decide)) (k := 1) (by decide) x1 dL_law_1514 ?_
  refine lv_aload_n hx hb dL_law_1515 rfl (lv_at hl 2 rfl) ?_
  refine g_i (wr := WM g qm v) (rSW (rest := []) hx hb hml hown hE hP hD hS hA hz (M1 H.size) (kSW_L_place hE (e943 hE) hrc1 hrs1 hR1) is1 hi1 hn1 rfl hl.1 rfl (lv_room (Nat.le_of_ble_eq_true rfl)) dL_law_1516 ⟨by rw [rm_c]; omega, by rw [rm_s]; omega⟩) hP hD hS hA is1 [48, 49, 50, 51, 52, 53, 54, 55, 56, 57, 58, 59, 60, 61, 62, 63, 64, 65, 66, 67, 68, 69, 70, 71] hi1 rfl (by decide) hd1 (fun u1 H locs hP hD hS => ?_)
  refine lv_istore (lv' := [(6, .int K), (5, .int 0), (4, .ref qd), (3, .ref qo), (2, .ref qm), (1, .ref qx), (0, .ref b)]) hx hb dL_law_1519 hl (by decide) rfl (fun ls hl => ?_)
  refine lv_aload_n hx hb dL_law_1521 rfl (lv_at hl 4 rfl) ?_
  refine lv_aload_n hx hb dL_law_1522 rfl (lv_at hl 6 rfl) ?_
  refine lv_iload hx hb dL_law_1523 (lv_at hl 1 rfl) ?_
  refine lv_iconst (v := 1) hx hb dL_law_1525 (by decide) ?_
  refine x_iadd (v := 1) hx hb dL_law_1526 (by decide) ?_
  refine x_sld (z := a1) hx hb C.hX C.hbl C.hbA hS (x_in (by decide)) (k := 1) (by decide) x1 dL_law_1527 ?_
  refine g_i (wr := []) (rV (rest := []) hx hb hml hown hE hP hD 23 rfl rfl (M2 H.size) (kV_X10_place hE (e1620 hE) hrc2 hrs2 hR2) is2 (sub_app hi2) hn2 rfl hl.1 rfl (lv_room (Nat.le_of_ble_eq_true rfl)) dL_law_1528 ⟨by rw [rm_c]; omega, by rw [rm_s]; omega⟩) hP hD hS hA is2 [] (sub_app hi2) rfl (by decide) (fun i hi => absurd hi List.not_mem_nil) (fun u2 H locs hP hD hS => ?_)
  refine lv_istore (lv' := [(7, .int r2), (6, .int K), (5, .int 0), (4, .ref qd), (3, .ref qo), (2, .ref qm), (1, .ref qx), (0, .ref b)]) hx hb dL_law_1531 hl (by decide) rfl (fun ls hl => ?_)
  refine lv_aload_n hx hb dL_law_1533 rfl (lv_at hl 5 rfl) ?_
  refine g_i (wr := []) (rV (rest := []) hx hb hml hown hE hP hD 0 rfl rfl (h_thrown l g qm fs2 T hT H.size) (kV_X10_thrown hE (e1412 hE) rfl rfl ⟨(Nat.le_of_ble_eq_true rfl), (Nat.le_of_ble_eq_true rfl)⟩) [0] rfl (by decide) rfl hl.1 rfl (lv_room (Nat.le_of_ble_eq_true rfl)) dL_law_1534 ⟨by rw [rm_c]; omega, by rw [rm_s]; omega⟩) hP hD hS hA [0] [] rfl rfl (by decide) (by decide) (fun u3 H locs hP hD hS => ?_)
  refine lv_iload hx hb dL_law_1537 (lv_at hl 1 rfl) ?_
  refine lv_icmp_eq (tgt := 1544) hx hb dL_law_1539 (by decide) (fun _ => ?_) (fun h => absurd hTK h)
  refine lv_iload hx hb dL_law_1544 (lv_at hl 1 rfl) ?_
  refine lv_if_ne (tgt := 1561) hx hb dL_law_1546 (by decide) (fun _ => ?_) (fun h => absurd h hK)
  refine lv_goto (tgt := 2958) hx hb dL_law_1561 (by decide) ?_
  exact lw_end C hS (lv_sub hl [2, 7] rfl) (by omega) (by omega)

set_option maxHeartbeats 4000000 in
set_option maxRecDepth 100000 in
theorem loK_played (C : L0 p l s m meth c b 6 xs g) (hP : va_P g.1 vwCl (WL g qx u qm v qo qd) H) (hD : va_D (LA s) (WL g qx u qm v qo qd)) (hS : va_S (LA s) s.heap H locs) (hl : lv_has ls 9 [(5, .int 0), (4, .ref qd), (3, .ref qo), (2, .ref qm), (1, .ref qx), (0, .ref b)]) {a1 a2 a3 : Int32} (x1 : xs 1 = a1) (x2 : xs 2 = a2) (x3 : xs 3 = a3) {ws1 ws2 : va_W} {rm1 rm2 : Room} {mc1 ms1 mc2 ms2 : Nat} {fs2 : List Value} {po1 : (Nat → Nat) → va_W} {K T : Int32} (hK : ¬ K = 0) (hTK : T = K) {r2 : Int32} (hT : fs2[6]? = some (.int T)) (is1 : List Nat) (hi1 : is1.map (fun i => (WL g qx u qm v qo qd)[i]?) = ws1.map some) (hn1 : va_nd is1 = true) (hd1 : ∀ i ∈ [48, 49, 50, 51, 52, 53, 54, 55, 56, 57, 58, 59, 60, 61, 62, 63, 64, 65, 66, 67, 68, 69, 70, 71], i ∉ is1) (M1 : ∀ sz, Met l yL_played [Cond.codeWith yL_played cL_played 6 (some .int) [(0, 12, 15, 13), (0, 12, 19, 15), (0, 12, 23, 39)]] rm1 (va_Pc [.ref qx, .int a1, .int a2, .int a3, .ref qo] (PZ g sz ws1)) (QI g ws1 sz K po1) mc1 ms1 (va_A ws1 sz)) (hrc1 : rm1.cells = mc1) (hrs1 : rm1.slots = ms1) (hR1 : rm1.frames + 1 ≤ room_1.frames ∧ 8 + (6 + 11) + rm1.locals ≤ room_1.locals) (hc1 : mc1 ≤ 100000 ∧ ms1 ≤ 1000000) (is2 : List Nat) (hi2 : is2.map (fun i => (WM g qm v)[i]?) = ws2.map some) (hn2 : va_nd is2 = true) (hd2 : ∀ i ∈ is2, i < 24) (M2 : ∀ sz, Met l yX10_played [Cond.code yX10_played cX10_played 4 (some .int)] rm2 (va_Pc [.ref qm, .int a1, .int a2, .int a3] (PX g sz ws2)) (QI g ws2 sz r2 (fun _ => [(qm, .inr (12, fs2))])) mc2 ms2 (va_A ws2 sz)) (hrc2 : rm2.cells = mc2) (hrs2 : rm2.slots = ms2) (hR2 : rm2.frames + 1 ≤ room_1.frames ∧ 8 + (4 + 11) + rm2.locals ≤ room_1.locals) (hc2 : mc2 ≤ 100000 ∧ ms2 ≤ 1000000) : W p l e room_1 s m #[Value.ref b] below meth c H locs 146 20899 (lw_Z below #[Value.ref b] s) (F0 m 709 ls []) := by
  have hx := C.hx
  have hb := C.hb
  have hml := C.hml
  have hown := C.hown
  have hE := C.hE
  have hz := C.hz
  have hA : ∀ q, s.heap.size ≤ q → LA s q := LA_new
  refine lv_aload_n hx hb dL_law_709 rfl (lv_at hl 4 rfl) ?_
  refine lv_aload_n hx hb dL_law_710 rfl (lv_at hl 5 rfl) ?_
  refine lv_iload hx hb dL_law_711 (lv_at hl 0 rfl) ?_
  refine lv_iconst (v := 1) hx hb dL_law_713 (by decide) ?_
  refine x_iadd (v := 1) hx hb dL_law_714 (by decide) ?_
  refine x_sld (z := a1) hx hb C.hX C.hbl C.hbA hS (x_in (by decide)) (k := 1) (by decide) x1 dL_law_715 ?_
  refine lv_aload_n hx hb dL_law_716 rfl (lv_at hl 5 rfl) ?_
  refine lv_iload hx hb dL_law_717 (lv_at hl 0 rfl) ?_
  refine lv_iconst (v := 2) hx hb dL_law_719 (by decide) ?_
  refine x_iadd (v := 2) hx hb dL_law_720 (by decide) ?_
  refine x_sld (z := a2) hx hb C.hX C.hbl C.hbA hS (x_in (by decide)) (k := 2) (by decide) x2 dL_law_721 ?_
  refine lv_aload_n hx hb dL_law_722 rfl (lv_at hl 5 rfl) ?_
  refine lv_iload hx hb dL_law_723 (lv_at hl 0 rfl) ?_
  refine lv_iconst (v := 3) hx hb dL_law_725 (by decide) ?_
  refine x_iadd (v := 3) hx hb dL_law_726 (by decide) ?_
  refine x_sld (z := a3) hx hb C.hX C.hbl C.hbA hS (x_in (by decide)) (k := 3) (by decide) x3 dL_law_727 ?_
  refine lv_aload_n hx hb dL_law_728 rfl (lv_at hl 2 rfl) ?_
  refine g_i (wr := WM g qm v) (rSW (rest := []) hx hb hml hown hE hP hD hS hA hz (M1 H.size) (kSW_L_played hE (e774 hE) hrc1 hrs1 hR1) is1 hi1 hn1 rfl hl.1 rfl (lv_room (Nat.le_of_ble_eq_true rfl)) dL_law_729 ⟨by rw [rm_c]; omega, by rw [rm_s]; omega⟩) hP hD hS hA is1 [48, 49, 50, 51, 52, 53, 54, 55, 56, 57, 58, 59, 60, 61, 62, 63, 64, 65, 66, 67, 68, 69, 70, 71] hi1 rfl (by decide) hd1 (fun u1 H locs hP hD hS => ?_)
  refine lv_istore (lv' := [(6, .int K), (5, .int 0), (4, .ref qd), (3, .ref qo), (2, .ref qm), (1, .ref qx), (0, .ref b)]) hx hb dL_law_732 hl (by decide) rfl (fun ls hl => ?_)
  refine lv_aload_n hx hb dL_law_734 rfl (lv_at hl 4 rfl) ?_
  refine lv_aload_n hx hb dL_law_735 rfl (lv_at hl 6 rfl) ?_
  refine lv_iload hx hb dL_law_736 (lv_at hl 1 rfl) ?_
  refine lv_iconst (v := 1) hx hb dL_law_738 (by decide) ?_
  refine x_iadd (v := 1) hx hb dL_law_739 (by decide) ?_
  refine x_sld (z := a1) hx hb C.hX C.hbl C.hbA hS (x_in (by decide)) (k := 1) (by decide) x1 dL_law_740 ?_
  refine lv_aload_n hx hb dL_law_741 rfl (lv_at hl 6 rfl) ?_
  refine lv_iload hx hb dL_law_742 (lv_at hl 1 rfl) ?_
  refine lv_iconst (v := 2) hx hb dL_law_744 (by decide) ?_
  refine x_iadd (v := 2) hx hb dL_law_745 (by decide) ?_
  refine x_sld (z := a2) hx hb C.hX C.hbl C.hbA hS (x_in (by decide)) (k := 2) (by decide) x2 dL_law_746 ?_
  refine lv_aload_n hx hb dL_law_747 rfl (lv_at hl 6 rfl) ?_
  refine lv_iload hx hb dL_law_748 (lv_at hl 1 rfl) ?_
  refine lv_iconst (v := 3) hx hb dL_law_750 (by decide) ?_
  refine x_iadd (v := 3) hx hb dL_law_751 (by decide) ?_
  refine x_sld (z := a3) hx hb C.hX C.hbl C.hbA hS (x_in (by decide)) (k := 3) (by decide) x3 dL_law_752 ?_
  refine g_i (wr := []) (rV (rest := []) hx hb hml hown hE hP hD 23 rfl rfl (M2 H.size) (kV_X10_played hE (e1511 hE) hrc2 hrs2 hR2) is2 (sub_app hi2) hn2 rfl hl.1 rfl (lv_room (Nat.le_of_ble_eq_true rfl)) dL_law_753 ⟨by rw [rm_c]; omega, by rw [rm_s]; omega⟩) hP hD hS hA is2 [] (sub_app hi2) rfl (by decide) (fun i hi => absurd hi List.not_mem_nil) (fun u2 H locs hP hD hS => ?_)
  refine lv_istore (lv' := [(7, .int r2), (6, .int K), (5, .int 0), (4, .ref qd), (3, .ref qo), (2, .ref qm), (1, .ref qx), (0, .ref b)]) hx hb dL_law_756 hl (by decide) rfl (fun ls hl => ?_)
  refine lv_aload_n hx hb dL_law_758 rfl (lv_at hl 5 rfl) ?_
  refine g_i (wr := []) (rV (rest := []) hx hb hml hown hE hP hD 0 rfl rfl (h_thrown l g qm fs2 T hT H.size) (kV_X10_thrown hE (e1412 hE) rfl rfl ⟨(Nat.le_of_ble_eq_true rfl), (Nat.le_of_ble_eq_true rfl)⟩) [0] rfl (by decide) rfl hl.1 rfl (lv_room (Nat.le_of_ble_eq_true rfl)) dL_law_759 ⟨by rw [rm_c]; omega, by rw [rm_s]; omega⟩) hP hD hS hA [0] [] rfl rfl (by decide) (by decide) (fun u3 H locs hP hD hS => ?_)
  refine lv_iload hx hb dL_law_762 (lv_at hl 1 rfl) ?_
  refine lv_icmp_eq (tgt := 769) hx hb dL_law_764 (by decide) (fun _ => ?_) (fun h => absurd hTK h)
  refine lv_iload hx hb dL_law_769 (lv_at hl 1 rfl) ?_
  refine lv_if_ne (tgt := 786) hx hb dL_law_771 (by decide) (fun _ => ?_) (fun h => absurd h hK)
  refine lv_goto (tgt := 2958) hx hb dL_law_786 (by decide) ?_
  exact lw_end C hS (lv_sub hl [2, 7] rfl) (by omega) (by omega)

set_option maxHeartbeats 4000000 in
set_option maxRecDepth 100000 in
theorem loK_read (C : L0 p l s m meth c b 6 xs g) (hP : va_P g.1 vwCl (WL g qx u qm v qo qd) H) (hD : va_D (LA s) (WL g qx u qm v qo qd)) (hS : va_S (LA s) s.heap H locs) (hl : lv_has ls 9 [(5, .int 0), (4, .ref qd), (3, .ref qo), (2, .ref qm), (1, .ref qx), (0, .ref b)]) {a1 : Int32} (x1 : xs 1 = a1) {ws1 ws2 : va_W} {rm1 rm2 : Room} {mc1 ms1 mc2 ms2 : Nat} {fs2 : List Value} {po1 : (Nat → Nat) → va_W} {K T : Int32} (hK : ¬ K = 0) (hTK : T = K) {r2 : Int32} (hT : fs2[6]? = some (.int T)) (is1 : List Nat) (hi1 : is1.map (fun i => (WL g qx u qm v qo qd)[i]?) = ws1.map some) (hn1 : va_nd is1 = true) (hd1 : ∀ i ∈ [48, 49, 50, 51, 52, 53, 54, 55, 56, 57, 58, 59, 60, 61, 62, 63, 64, 65, 66, 67, 68, 69, 70, 71], i ∉ is1) (M1 : ∀ sz, Met l yL_read [Cond.codeWith yL_read cL_read 4 (some .int) [(0, 9, 12, 13), (0, 9, 15, 15), (0, 9, 18, 17)]] rm1 (va_Pc [.ref qx, .int a1, .ref qo] (PZ g sz ws1)) (QI g ws1 sz K po1) mc1 ms1 (va_A ws1 sz)) (hrc1 : rm1.cells = mc1) (hrs1 : rm1.slots = ms1) (hR1 : rm1.frames + 1 ≤ room_1.frames ∧ 8 + (4 + 11) + rm1.locals ≤ room_1.locals) (hc1 : mc1 ≤ 100000 ∧ ms1 ≤ 1000000) (is2 : List Nat) (hi2 : is2.map (fun i => (WM g qm v)[i]?) = ws2.map some) (hn2 : va_nd is2 = true) (hd2 : ∀ i ∈ is2, i < 24) (M2 : ∀ sz, Met l yX10_read [Cond.code yX10_read cX10_read 6 (some .int)] rm2 (va_Pc [.ref qm, .int a1] (PX g sz ws2)) (QI g ws2 sz r2 (fun _ => [(qm, .inr (12, fs2))])) mc2 ms2 (va_A ws2 sz)) (hrc2 : rm2.cells = mc2) (hrs2 : rm2.slots = ms2) (hR2 : rm2.frames + 1 ≤ room_1.frames ∧ 8 + (6 + 11) + rm2.locals ≤ room_1.locals) (hc2 : mc2 ≤ 100000 ∧ ms2 ≤ 1000000) : W p l e room_1 s m #[Value.ref b] below meth c H locs 146 20899 (lw_Z below #[Value.ref b] s) (F0 m 2689 ls []) := by
  have hx := C.hx
  have hb := C.hb
  have hml := C.hml
  have hown := C.hown
  have hE := C.hE
  have hz := C.hz
  have hA : ∀ q, s.heap.size ≤ q → LA s q := LA_new
  refine lv_aload_n hx hb dL_law_2689 rfl (lv_at hl 4 rfl) ?_
  refine lv_aload_n hx hb dL_law_2690 rfl (lv_at hl 5 rfl) ?_
  refine lv_iload hx hb dL_law_2691 (lv_at hl 0 rfl) ?_
  refine lv_iconst (v := 1) hx hb dL_law_2693 (by decide) ?_
  refine x_iadd (v := 1) hx hb dL_law_2694 (by decide) ?_
  refine x_sld (z := a1) hx hb C.hX C.hbl C.hbA hS (x_in (by decide)) (k := 1) (by decide) x1 dL_law_2695 ?_
  refine lv_aload_n hx hb dL_law_2696 rfl (lv_at hl 2 rfl) ?_
  refine g_i (wr := WM g qm v) (rSW (rest := []) hx hb hml hown hE hP hD hS hA hz (M1 H.size) (kSW_L_read hE (e1170 hE) hrc1 hrs1 hR1) is1 hi1 hn1 rfl hl.1 rfl (lv_room (Nat.le_of_ble_eq_true rfl)) dL_law_2697 ⟨by rw [rm_c]; omega, by rw [rm_s]; omega⟩) hP hD hS hA is1 [48, 49, 50, 51, 52, 53, 54, 55, 56, 57, 58, 59, 60, 61, 62, 63, 64, 65, 66, 67, 68, 69, 70, 71] hi1 rfl (by decide) hd1 (fun u1 H locs hP hD hS => ?_)
  refine lv_istore (lv' := [(6, .int K), (5, .int 0), (4, .ref qd), (3, .ref qo), (2, .ref qm), (1, .ref qx), (0, .ref b)]) hx hb dL_law_2700 hl (by decide) rfl (fun ls hl => ?_)
  refine lv_aload_n hx hb dL_law_2702 rfl (lv_at hl 4 rfl) ?_
  refine lv_aload_n hx hb dL_law_2703 rfl (lv_at hl 6 rfl) ?_
  refine lv_iload hx hb dL_law_2704 (lv_at hl 1 rfl) ?_
  refine lv_iconst (v := 1) hx hb dL_law_2706 (by decide) ?_
  refine x_iadd (v := 1) hx hb dL_law_2707 (by decide) ?_
  refine x_sld (z := a1) hx hb C.hX C.hbl C.hbA hS (x_in (by decide)) (k := 1) (by decide) x1 dL_law_2708 ?_
  refine g_i (wr := []) (rV (rest := []) hx hb hml hown hE hP hD 23 rfl rfl (M2 H.size) (kV_X10_read hE (e1728 hE) hrc2 hrs2 hR2) is2 (sub_app hi2) hn2 rfl hl.1 rfl (lv_room (Nat.le_of_ble_eq_true rfl)) dL_law_2709 ⟨by rw [rm_c]; omega, by rw [rm_s]; omega⟩) hP hD hS hA is2 [] (sub_app hi2) rfl (by decide) (fun i hi => absurd hi List.not_mem_nil) (fun u2 H locs hP hD hS => ?_)
  refine lv_istore (lv' := [(7, .int r2), (6, .int K), (5, .int 0), (4, .ref qd), (3, .ref qo), (2, .ref qm), (1, .ref qx), (0, .ref b)]) hx hb dL_law_2712 hl (by decide) rfl (fun ls hl => ?_)
  refine lv_aload_n hx hb dL_law_2714 rfl (lv_at hl 5 rfl) ?_
  refine g_i (wr := []) (rV (rest := []) hx hb hml hown hE hP hD 0 rfl rfl (h_thrown l g qm fs2 T hT H.size) (kV_X10_thrown hE (e1412 hE) rfl rfl ⟨(Nat.le_of_ble_eq_true rfl), (Nat.le_of_ble_eq_true rfl)⟩) [0] rfl (by decide) rfl hl.1 rfl (lv_room (Nat.le_of_ble_eq_true rfl)) dL_law_2715 ⟨by rw [rm_c]; omega, by rw [rm_s]; omega⟩) hP hD hS hA [0] [] rfl rfl (by decide) (by decide) (fun u3 H locs hP hD hS => ?_)
  refine lv_iload hx hb dL_law_2718 (lv_at hl 1 rfl) ?_
  refine lv_icmp_eq (tgt := 2725) hx hb dL_law_2720 (by decide) (fun _ => ?_) (fun h => absurd hTK h)
  refine lv_iload hx hb dL_law_2725 (lv_at hl 1 rfl) ?_
  refine lv_if_ne (tgt := 2742) hx hb dL_law_2727 (by decide) (fun _ => ?_) (fun h => absurd h hK)
  refine lv_goto (tgt := 2958) hx hb dL_law_2742 (by decide) ?_
  exact lw_end C hS (lv_sub hl [2, 7] rfl) (by omega) (by omega)

set_option maxHeartbeats 4000000 in
set_option maxRecDepth 100000 in
theorem loK_removeClip (C : L0 p l s m meth c b 6 xs g) (hP : va_P g.1 vwCl (WL g qx u qm v qo qd) H) (hD : va_D (LA s) (WL g qx u qm v qo qd)) (hS : va_S (LA s) s.heap H locs) (hl : lv_has ls 9 [(5, .int 0), (4, .ref qd), (3, .ref qo), (2, .ref qm), (1, .ref qx), (0, .ref b)]) {a1 : Int32} (x1 : xs 1 = a1) {ws1 ws2 : va_W} {rm1 rm2 : Room} {mc1 ms1 mc2 ms2 : Nat} {fs2 : List Value} {po1 : (Nat → Nat) → va_W} {K T : Int32} (hK : ¬ K = 0) (hTK : T = K) {r2 : Int32} (hT : fs2[6]? = some (.int T)) (is1 : List Nat) (hi1 : is1.map (fun i => (WL g qx u qm v qo qd)[i]?) = ws1.map some) (hn1 : va_nd is1 = true) (hd1 : ∀ i ∈ [48, 49, 50, 51, 52, 53, 54, 55, 56, 57, 58, 59, 60, 61, 62, 63, 64, 65, 66, 67, 68, 69, 70, 71], i ∉ is1) (M1 : ∀ sz, Met l yL_removeClip [Cond.codeWith yL_removeClip cL_removeClip 4 (some .int) [(0, 9, 12, 13)]] rm1 (va_Pc [.ref qx, .int a1, .ref qo] (PZ g sz ws1)) (QI g ws1 sz K po1) mc1 ms1 (va_A ws1 sz)) (hrc1 : rm1.cells = mc1) (hrs1 : rm1.slots = ms1) (hR1 : rm1.frames + 1 ≤ room_1.frames ∧ 8 + (4 + 11) + rm1.locals ≤ room_1.locals) (hc1 : mc1 ≤ 100000 ∧ ms1 ≤ 1000000) (is2 : List Nat) (hi2 : is2.map (fun i => (WM g qm v)[i]?) = ws2.map some) (hn2 : va_nd is2 = true) (hd2 : ∀ i ∈ is2, i < 24) (M2 : ∀ sz, Met l yX10_removeClip [Cond.code yX10_removeClip cX10_removeClip 3 (some .int)] rm2 (va_Pc [.ref qm, .int a1] (PX g sz ws2)) (QI g ws2 sz r2 (fun _ => [(qm, .inr (12, fs2))])) mc2 ms2 (va_A ws2 sz)) (hrc2 : rm2.cells = mc2) (hrs2 : rm2.slots = ms2) (hR2 : rm2.frames + 1 ≤ room_1.frames ∧ 8 + (3 + 11) + rm2.locals ≤ room_1.locals) (hc2 : mc2 ≤ 100000 ∧ ms2 ≤ 1000000) : W p l e room_1 s m #[Value.ref b] below meth c H locs 146 20899 (lw_Z below #[Value.ref b] s) (F0 m 893 ls []) := by
  have hx := C.hx
  have hb := C.hb
  have hml := C.hml
  have hown := C.hown
  have hE := C.hE
  have hz := C.hz
  have hA : ∀ q, s.heap.size ≤ q → LA s q := LA_new
  refine lv_aload_n hx hb dL_law_893 rfl (lv_at hl 4 rfl) ?_
  refine lv_aload_n hx hb dL_law_894 rfl (lv_at hl 5 rfl) ?_
  refine lv_iload hx hb dL_law_895 (lv_at hl 0 rfl) ?_
  refine lv_iconst (v := 1) hx hb dL_law_897 (by decide) ?_
  refine x_iadd (v := 1) hx hb dL_law_898 (by decide) ?_
  refine x_sld (z := a1) hx hb C.hX C.hbl C.hbA hS (x_in (by decide)) (k := 1) (by decide) x1 dL_law_899 ?_
  refine lv_aload_n hx hb dL_law_900 rfl (lv_at hl 2 rfl) ?_
  refine g_i (wr := WM g qm v) (rSW (rest := []) hx hb hml hown hE hP hD hS hA hz (M1 H.size) (kSW_L_removeClip hE (e812 hE) hrc1 hrs1 hR1) is1 hi1 hn1 rfl hl.1 rfl (lv_room (Nat.le_of_ble_eq_true rfl)) dL_law_901 ⟨by rw [rm_c]; omega, by rw [rm_s]; omega⟩) hP hD hS hA is1 [48, 49, 50, 51, 52, 53, 54, 55, 56, 57, 58, 59, 60, 61, 62, 63, 64, 65, 66, 67, 68, 69, 70, 71] hi1 rfl (by decide) hd1 (fun u1 H locs hP hD hS => ?_)
  refine lv_istore (lv' := [(6, .int K), (5, .int 0), (4, .ref qd), (3, .ref qo), (2, .ref qm), (1, .ref qx), (0, .ref b)]) hx hb dL_law_904 hl (by decide) rfl (fun ls hl => ?_)
  refine lv_aload_n hx hb dL_law_906 rfl (lv_at hl 4 rfl) ?_
  refine lv_aload_n hx hb dL_law_907 rfl (lv_at hl 6 rfl) ?_
  refine lv_iload hx hb dL_law_908 (lv_at hl 1 rfl) ?_
  refine lv_iconst (v := 1) hx hb dL_law_910 (by decide) ?_
  refine x_iadd (v := 1) hx hb dL_law_911 (by decide) ?_
  refine x_sld (z := a1) hx hb C.hX C.hbl C.hbA hS (x_in (by decide)) (k := 1) (by decide) x1 dL_law_912 ?_
  refine g_i (wr := []) (rV (rest := []) hx hb hml hown hE hP hD 23 rfl rfl (M2 H.size) (kV_X10_removeClip hE (e1523 hE) hrc2 hrs2 hR2) is2 (sub_app hi2) hn2 rfl hl.1 rfl (lv_room (Nat.le_of_ble_eq_true rfl)) dL_law_913 ⟨by rw [rm_c]; omega, by rw [rm_s]; omega⟩) hP hD hS hA is2 [] (sub_app hi2) rfl (by decide) (fun i hi => absurd hi List.not_mem_nil) (fun u2 H locs hP hD hS => ?_)
  refine lv_istore (lv' := [(7, .int r2), (6, .int K), (5, .int 0), (4, .ref qd), (3, .ref qo), (2, .ref qm), (1, .ref qx), (0, .ref b)]) hx hb dL_law_916 hl (by decide) rfl (fun ls hl => ?_)
  refine lv_aload_n hx hb dL_law_918 rfl (lv_at hl 5 rfl) ?_
  refine g_i (wr := []) (rV (rest := []) hx hb hml hown hE hP hD 0 rfl rfl (h_thrown l g qm fs2 T hT H.size) (kV_X10_thrown hE (e1412 hE) rfl rfl ⟨(Nat.le_of_ble_eq_true rfl), (Nat.le_of_ble_eq_true rfl)⟩) [0] rfl (by decide) rfl hl.1 rfl (lv_room (Nat.le_of_ble_eq_true rfl)) dL_law_919 ⟨by rw [rm_c]; omega, by rw [rm_s]; omega⟩) hP hD hS hA [0] [] rfl rfl (by decide) (by decide) (fun u3 H locs hP hD hS => ?_)
  refine lv_iload hx hb dL_law_922 (lv_at hl 1 rfl) ?_
  refine lv_icmp_eq (tgt := 929) hx hb dL_law_924 (by decide) (fun _ => ?_) (fun h => absurd hTK h)
  refine lv_iload hx hb dL_law_929 (lv_at hl 1 rfl) ?_
  refine lv_if_ne (tgt := 946) hx hb dL_law_931 (by decide) (fun _ => ?_) (fun h => absurd h hK)
  refine lv_goto (tgt := 2958) hx hb dL_law_946 (by decide) ?_
  exact lw_end C hS (lv_sub hl [2, 7] rfl) (by omega) (by omega)

set_option maxHeartbeats 4000000 in
set_option maxRecDepth 100000 in
theorem loK_removeItem (C : L0 p l s m meth c b 6 xs g) (hP : va_P g.1 vwCl (WL g qx u qm v qo qd) H) (hD : va_D (LA s) (WL g qx u qm v qo qd)) (hS : va_S (LA s) s.heap H locs) (hl : lv_has ls 9 [(5, .int 0), (4, .ref qd), (3, .ref qo), (2, .ref qm), (1, .ref qx), (0, .ref b)]) {a1 a2 : Int32} (x1 : xs 1 = a1) (x2 : xs 2 = a2) {ws1 ws2 : va_W} {rm1 rm2 : Room} {mc1 ms1 mc2 ms2 : Nat} {fs2 : List Value} {po1 : (Nat → Nat) → va_W} {K T : Int32} (hK : ¬ K = 0) (hTK : T = K) {r2 : Int32} (hT : fs2[6]? = some (.int T)) (is1 : List Nat) (hi1 : is1.map (fun i => (WL g qx u qm v qo qd)[i]?) = ws1.map some) (hn1 : va_nd is1 = true) (hd1 : ∀ i ∈ [48, 49, 50, 51, 52, 53, 54, 55, 56, 57, 58, 59, 60, 61, 62, 63, 64, 65, 66, 67, 68, 69, 70, 71], i ∉ is1) (M1 : ∀ sz, Met l yL_removeItem [Cond.codeWith yL_removeItem cL_removeItem 5 (some .int) [(0, 10, 13, 13)]] rm1 (va_Pc [.ref qx, .int a1, .int a2, .ref qo] (PZ g sz ws1)) (QI g ws1 sz K po1) mc1 ms1 (va_A ws1 sz)) (hrc1 : rm1.cells = mc1) (hrs1 : rm1.slots = ms1) (hR1 : rm1.frames + 1 ≤ room_1.frames ∧ 8 + (5 + 11) + rm1.locals ≤ room_1.locals) (hc1 : mc1 ≤ 100000 ∧ ms1 ≤ 1000000) (is2 : List Nat) (hi2 : is2.map (fun i => (WM g qm v)[i]?) = ws2.map some) (hn2 : va_nd is2 = true) (hd2 : ∀ i ∈ is2, i < 24) (M2 : ∀ sz, Met l yX10_removeItem [Cond.code yX10_removeItem cX10_removeItem 5 (some .int)] rm2 (va_Pc [.ref qm, .int a1, .int a2] (PX g sz ws2)) (QI g ws2 sz r2 (fun _ => [(qm, .inr (12, fs2))])) mc2 ms2 (va_A ws2 sz)) (hrc2 : rm2.cells = mc2) (hrs2 : rm2.slots = ms2) (hR2 : rm2.frames + 1 ≤ room_1.frames ∧ 8 + (5 + 11) + rm2.locals ≤ room_1.locals) (hc2 : mc2 ≤ 100000 ∧ ms2 ≤ 1000000) : W p l e room_1 s m #[Value.ref b] below meth c H locs 146 20899 (lw_Z below #[Value.ref b] s) (F0 m 493 ls []) := by
  have hx := C.hx
  have hb := C.hb
  have hml := C.hml
  have hown := C.hown
  have hE := C.hE
  have hz := C.hz
  have hA : ∀ q, s.heap.size ≤ q → LA s q := LA_new
  refine lv_aload_n hx hb dL_law_493 rfl (lv_at hl 4 rfl) ?_
  refine lv_aload_n hx hb dL_law_494 rfl (lv_at hl 5 rfl) ?_
  refine lv_iload hx hb dL_law_495 (lv_at hl 0 rfl) ?_
  refine lv_iconst (v := 1) hx hb dL_law_497 (by decide) ?_
  refine x_iadd (v := 1) hx hb dL_law_498 (by decide) ?_
  refine x_sld (z := a1) hx hb C.hX C.hbl C.hbA hS (x_in (by decide)) (k := 1) (by decide) x1 dL_law_499 ?_
  refine lv_aload_n hx hb dL_law_500 rfl (lv_at hl 5 rfl) ?_
  refine lv_iload hx hb dL_law_501 (lv_at hl 0 rfl) ?_
  refine lv_iconst (v := 2) hx hb dL_law_503 (by decide) ?_
  refine x_iadd (v := 2) hx hb dL_law_504 (by decide) ?_
  refine x_sld (z := a2) hx hb C.hX C.hbl C.hbA hS (x_in (by decide)) (k := 2) (by decide) x2 dL_law_505 ?_
  refine lv_aload_n hx hb dL_law_506 rfl (lv_at hl 2 rfl) ?_
  refine g_i (wr := WM g qm v) (rSW (rest := []) hx hb hml hown hE hP hD hS hA hz (M1 H.size) (kSW_L_removeItem hE (e741 hE) hrc1 hrs1 hR1) is1 hi1 hn1 rfl hl.1 rfl (lv_room (Nat.le_of_ble_eq_true rfl)) dL_law_507 ⟨by rw [rm_c]; omega, by rw [rm_s]; omega⟩) hP hD hS hA is1 [48, 49, 50, 51, 52, 53, 54, 55, 56, 57, 58, 59, 60, 61, 62, 63, 64, 65, 66, 67, 68, 69, 70, 71] hi1 rfl (by decide) hd1 (fun u1 H locs hP hD hS => ?_)
  refine lv_istore (lv' := [(6, .int K), (5, .int 0), (4, .ref qd), (3, .ref qo), (2, .ref qm), (1, .ref qx), (0, .ref b)]) hx hb dL_law_510 hl (by decide) rfl (fun ls hl => ?_)
  refine lv_aload_n hx hb dL_law_512 rfl (lv_at hl 4 rfl) ?_
  refine lv_aload_n hx hb dL_law_513 rfl (lv_at hl 6 rfl) ?_
  refine lv_iload hx hb dL_law_514 (lv_at hl 1 rfl) ?_
  refine lv_iconst (v := 1) hx hb dL_law_516 (by decide) ?_
  refine x_iadd (v := 1) hx hb dL_law_517 (by decide) ?_
  refine x_sld (z := a1) hx hb C.hX C.hbl C.hbA hS (x_in (by decide)) (k := 1) (by decide) x1 dL_law_518 ?_
  refine lv_aload_n hx hb dL_law_519 rfl (lv_at hl 6 rfl) ?_
  refine lv_iload hx hb dL_law_520 (lv_at hl 1 rfl) ?_
  refine lv_iconst (v := 2) hx hb dL_law_522 (by decide) ?_
  refine x_iadd (v := 2) hx hb dL_law_523 (by decide) ?_
  refine x_sld (z := a2) hx hb C.hX C.hbl C.hbA hS (x_in (by decide)) (k := 2) (by decide) x2 dL_law_524 ?_
  refine g_i (wr := []) (rV (rest := []) hx hb hml hown hE hP hD 23 rfl rfl (M2 H.size) (kV_X10_removeItem hE (e1490 hE) hrc2 hrs2 hR2) is2 (sub_app hi2) hn2 rfl hl.1 rfl (lv_room (Nat.le_of_ble_eq_true rfl)) dL_law_525 ⟨by rw [rm_c]; omega, by rw [rm_s]; omega⟩) hP hD hS hA is2 [] (sub_app hi2) rfl (by decide) (fun i hi => absurd hi List.not_mem_nil) (fun u2 H locs hP hD hS => ?_)
  refine lv_istore (lv' := [(7, .int r2), (6, .int K), (5, .int 0), (4, .ref qd), (3, .ref qo), (2, .ref qm), (1, .ref qx), (0, .ref b)]) hx hb dL_law_528 hl (by decide) rfl (fun ls hl => ?_)
  refine lv_aload_n hx hb dL_law_530 rfl (lv_at hl 5 rfl) ?_
  refine g_i (wr := []) (rV (rest := []) hx hb hml hown hE hP hD 0 rfl rfl (h_thrown l g qm fs2 T hT H.size) (kV_X10_thrown hE (e1412 hE) rfl rfl ⟨(Nat.le_of_ble_eq_true rfl), (Nat.le_of_ble_eq_true rfl)⟩) [0] rfl (by decide) rfl hl.1 rfl (lv_room (Nat.le_of_ble_eq_true rfl)) dL_law_531 ⟨by rw [rm_c]; omega, by rw [rm_s]; omega⟩) hP hD hS hA [0] [] rfl rfl (by decide) (by decide) (fun u3 H locs hP hD hS => ?_)
  refine lv_iload hx hb dL_law_534 (lv_at hl 1 rfl) ?_
  refine lv_icmp_eq (tgt := 541) hx hb dL_law_536 (by decide) (fun _ => ?_) (fun h => absurd hTK h)
  refine lv_iload hx hb dL_law_541 (lv_at hl 1 rfl) ?_
  refine lv_if_ne (tgt := 558) hx hb dL_law_543 (by decide) (fun _ => ?_) (fun h => absurd h hK)
  refine lv_goto (tgt := 2958) hx hb dL_law_558 (by decide) ?_
  exact lw_end C hS (lv_sub hl [2, 7] rfl) (by omega) (by omega)

set_option maxHeartbeats 4000000 in
set_option maxRecDepth 100000 in
theorem loK_removeTempo (C : L0 p l s m meth c b 6 xs g) (hP : va_P g.1 vwCl (WL g qx u qm v qo qd) H) (hD : va_D (LA s) (WL g qx u qm v qo qd)) (hS : va_S (LA s) s.heap H locs) (hl : lv_has ls 9 [(5, .int 0), (4, .ref qd), (3, .ref qo), (2, .ref qm), (1, .ref qx), (0, .ref b)]) {a1 : Int32} (x1 : xs 1 = a1) {ws1 ws2 : va_W} {rm1 rm2 : Room} {mc1 ms1 mc2 ms2 : Nat} {fs2 : List Value} {po1 : (Nat → Nat) → va_W} {K T : Int32} (hK : ¬ K = 0) (hTK : T = K) {r2 : Int32} (hT : fs2[6]? = some (.int T)) (is1 : List Nat) (hi1 : is1.map (fun i => (WL g qx u qm v qo qd)[i]?) = ws1.map some) (hn1 : va_nd is1 = true) (hd1 : ∀ i ∈ [48, 49, 50, 51, 52, 53, 54, 55, 56, 57, 58, 59, 60, 61, 62, 63, 64, 65, 66, 67, 68, 69, 70, 71], i ∉ is1) (M1 : ∀ sz, Met l yL_removeTempo [Cond.codeWith yL_removeTempo cL_removeTempo 4 (some .int) [(0, 9, 12, 15), (0, 9, 15, 39)]] rm1 (va_Pc [.ref qx, .int a1, .ref qo] (PZ g sz ws1)) (QI g ws1 sz K po1) mc1 ms1 (va_A ws1 sz)) (hrc1 : rm1.cells = mc1) (hrs1 : rm1.slots = ms1) (hR1 : rm1.frames + 1 ≤ room_1.frames ∧ 8 + (4 + 11) + rm1.locals ≤ room_1.locals) (hc1 : mc1 ≤ 100000 ∧ ms1 ≤ 1000000) (is2 : List Nat) (hi2 : is2.map (fun i => (WM g qm v)[i]?) = ws2.map some) (hn2 : va_nd is2 = true) (hd2 : ∀ i ∈ is2, i < 24) (M2 : ∀ sz, Met l yX10_removeTempo [Cond.code yX10_removeTempo cX10_removeTempo 4 (some .int)] rm2 (va_Pc [.ref qm, .int a1] (PX g sz ws2)) (QI g ws2 sz r2 (fun _ => [(qm, .inr (12, fs2))])) mc2 ms2 (va_A ws2 sz)) (hrc2 : rm2.cells = mc2) (hrs2 : rm2.slots = ms2) (hR2 : rm2.frames + 1 ≤ room_1.frames ∧ 8 + (4 + 11) + rm2.locals ≤ room_1.locals) (hc2 : mc2 ≤ 100000 ∧ ms2 ≤ 1000000) : W p l e room_1 s m #[Value.ref b] below meth c H locs 146 20899 (lw_Z below #[Value.ref b] s) (F0 m 1396 ls []) := by
  have hx := C.hx
  have hb := C.hb
  have hml := C.hml
  have hown := C.hown
  have hE := C.hE
  have hz := C.hz
  have hA : ∀ q, s.heap.size ≤ q → LA s q := LA_new
  refine lv_aload_n hx hb dL_law_1396 rfl (lv_at hl 4 rfl) ?_
  refine lv_aload_n hx hb dL_law_1397 rfl (lv_at hl 5 rfl) ?_
  refine lv_iload hx hb dL_law_1398 (lv_at hl 0 rfl) ?_
  refine lv_iconst (v := 1) hx hb dL_law_1400 (by decide) ?_
  refine x_iadd (v := 1) hx hb dL_law_1401 (by decide) ?_
  refine x_sld (z := a1) hx hb C.hX C.hbl C.hbA hS (x_in (by decide)) (k := 1) (by decide) x1 dL_law_1402 ?_
  refine lv_aload_n hx hb dL_law_1403 rfl (lv_at hl 2 rfl) ?_
  refine g_i (wr := WM g qm v) (rSW (rest := []) hx hb hml hown hE hP hD hS hA hz (M1 H.size) (kSW_L_removeTempo hE (e921 hE) hrc1 hrs1 hR1) is1 hi1 hn1 rfl hl.1 rfl (lv_room (Nat.le_of_ble_eq_true rfl)) dL_law_1404 ⟨by rw [rm_c]; omega, by rw [rm_s]; omega⟩) hP hD hS hA is1 [48, 49, 50, 51, 52, 53, 54, 55, 56, 57, 58, 59, 60, 61, 62, 63, 64, 65, 66, 67, 68, 69, 70, 71] hi1 rfl (by decide) hd1 (fun u1 H locs hP hD hS => ?_)
  refine lv_istore (lv' := [(6, .int K), (5, .int 0), (4, .ref qd), (3, .ref qo), (2, .ref qm), (1, .ref qx), (0, .ref b)]) hx hb dL_law_1407 hl (by decide) rfl (fun ls hl => ?_)
  refine lv_aload_n hx hb dL_law_1409 rfl (lv_at hl 4 rfl) ?_
  refine lv_aload_n hx hb dL_law_1410 rfl (lv_at hl 6 rfl) ?_
  refine lv_iload hx hb dL_law_1411 (lv_at hl 1 rfl) ?_
  refine lv_iconst (v := 1) hx hb dL_law_1413 (by decide) ?_
  refine x_iadd (v := 1) hx hb dL_law_1414 (by decide) ?_
  refine x_sld (z := a1) hx hb C.hX C.hbl C.hbA hS (x_in (by decide)) (k := 1) (by decide) x1 dL_law_1415 ?_
  refine g_i (wr := []) (rV (rest := []) hx hb hml hown hE hP hD 23 rfl rfl (M2 H.size) (kV_X10_removeTempo hE (e1612 hE) hrc2 hrs2 hR2) is2 (sub_app hi2) hn2 rfl hl.1 rfl (lv_room (Nat.le_of_ble_eq_true rfl)) dL_law_1416 ⟨by rw [rm_c]; omega, by rw [rm_s]; omega⟩) hP hD hS hA is2 [] (sub_app hi2) rfl (by decide) (fun i hi => absurd hi List.not_mem_nil) (fun u2 H locs hP hD hS => ?_)
  refine lv_istore (lv' := [(7, .int r2), (6, .int K), (5, .int 0), (4, .ref qd), (3, .ref qo), (2, .ref qm), (1, .ref qx), (0, .ref b)]) hx hb dL_law_1419 hl (by decide) rfl (fun ls hl => ?_)
  refine lv_aload_n hx hb dL_law_1421 rfl (lv_at hl 5 rfl) ?_
  refine g_i (wr := []) (rV (rest := []) hx hb hml hown hE hP hD 0 rfl rfl (h_thrown l g qm fs2 T hT H.size) (kV_X10_thrown hE (e1412 hE) rfl rfl ⟨(Nat.le_of_ble_eq_true rfl), (Nat.le_of_ble_eq_true rfl)⟩) [0] rfl (by decide) rfl hl.1 rfl (lv_room (Nat.le_of_ble_eq_true rfl)) dL_law_1422 ⟨by rw [rm_c]; omega, by rw [rm_s]; omega⟩) hP hD hS hA [0] [] rfl rfl (by decide) (by decide) (fun u3 H locs hP hD hS => ?_)
  refine lv_iload hx hb dL_law_1425 (lv_at hl 1 rfl) ?_
  refine lv_icmp_eq (tgt := 1432) hx hb dL_law_1427 (by decide) (fun _ => ?_) (fun h => absurd hTK h)
  refine lv_iload hx hb dL_law_1432 (lv_at hl 1 rfl) ?_
  refine lv_if_ne (tgt := 1449) hx hb dL_law_1434 (by decide) (fun _ => ?_) (fun h => absurd h hK)
  refine lv_goto (tgt := 2958) hx hb dL_law_1449 (by decide) ?_
  exact lw_end C hS (lv_sub hl [2, 7] rfl) (by omega) (by omega)

set_option maxHeartbeats 4000000 in
set_option maxRecDepth 100000 in
theorem loK_restore (C : L0 p l s m meth c b 6 xs g) (hP : va_P g.1 vwCl (WL g qx u qm v qo qd) H) (hD : va_D (LA s) (WL g qx u qm v qo qd)) (hS : va_S (LA s) s.heap H locs) (hl : lv_has ls 9 [(5, .int 0), (4, .ref qd), (3, .ref qo), (2, .ref qm), (1, .ref qx), (0, .ref b)]) {ws1 ws2 : va_W} {rm1 rm2 : Room} {mc1 ms1 mc2 ms2 : Nat} {fs2 : List Value} {po1 : (Nat → Nat) → va_W} {K T : Int32} (hK : ¬ K = 0) (hTK : T = K) {r2 : Int32} (hT : fs2[6]? = some (.int T)) (is1 : List Nat) (hi1 : is1.map (fun i => (WL g qx u qm v qo qd)[i]?) = ws1.map some) (hn1 : va_nd is1 = true) (hd1 : ∀ i ∈ [48, 49, 50, 51, 52, 53, 54, 55, 56, 57, 58, 59, 60, 61, 62, 63, 64, 65, 66, 67, 68, 69, 70, 71], i ∉ is1) (M1 : ∀ sz, Met l yL_restore [Cond.codeWith yL_restore cL_restore 3 (some .int) [(0, 8, 11, 17)]] rm1 (va_Pc [.ref qx, .ref qo] (PZ g sz ws1)) (QI g ws1 sz K po1) mc1 ms1 (va_A ws1 sz)) (hrc1 : rm1.cells = mc1) (hrs1 : rm1.slots = ms1) (hR1 : rm1.frames + 1 ≤ room_1.frames ∧ 8 + (3 + 11) + rm1.locals ≤ room_1.locals) (hc1 : mc1 ≤ 100000 ∧ ms1 ≤ 1000000) (is2 : List Nat) (hi2 : is2.map (fun i => (WM g qm v)[i]?) = ws2.map some) (hn2 : va_nd is2 = true) (hd2 : ∀ i ∈ is2, i < 24) (M2 : ∀ sz, Met l yX10_restore [Cond.code yX10_restore cX10_restore 2 (some .int)] rm2 (va_Pc [.ref qm] (PX g sz ws2)) (QI g ws2 sz r2 (fun _ => [(qm, .inr (12, fs2))])) mc2 ms2 (va_A ws2 sz)) (hrc2 : rm2.cells = mc2) (hrs2 : rm2.slots = ms2) (hR2 : rm2.frames + 1 ≤ room_1.frames ∧ 8 + (2 + 11) + rm2.locals ≤ room_1.locals) (hc2 : mc2 ≤ 100000 ∧ ms2 ≤ 1000000) : W p l e room_1 s m #[Value.ref b] below meth c H locs 146 20899 (lw_Z below #[Value.ref b] s) (F0 m 2914 ls []) := by
  have hx := C.hx
  have hb := C.hb
  have hml := C.hml
  have hown := C.hown
  have hE := C.hE
  have hz := C.hz
  have hA : ∀ q, s.heap.size ≤ q → LA s q := LA_new
  refine lv_aload_n hx hb dL_law_2914 rfl (lv_at hl 4 rfl) ?_
  refine lv_aload_n hx hb dL_law_2915 rfl (lv_at hl 2 rfl) ?_
  refine g_i (wr := WM g qm v) (rSW (rest := []) hx hb hml hown hE hP hD hS hA hz (M1 H.size) (kSW_L_restore hE (e1282 hE) hrc1 hrs1 hR1) is1 hi1 hn1 rfl hl.1 rfl (lv_room (Nat.le_of_ble_eq_true rfl)) dL_law_2916 ⟨by rw [rm_c]; omega, by rw [rm_s]; omega⟩) hP hD hS hA is1 [48, 49, 50, 51, 52, 53, 54, 55, 56, 57, 58, 59, 60, 61, 62, 63, 64, 65, 66, 67, 68, 69, 70, 71] hi1 rfl (by decide) hd1 (fun u1 H locs hP hD hS => ?_)
  refine lv_istore (lv' := [(6, .int K), (5, .int 0), (4, .ref qd), (3, .ref qo), (2, .ref qm), (1, .ref qx), (0, .ref b)]) hx hb dL_law_2919 hl (by decide) rfl (fun ls hl => ?_)
  refine lv_aload_n hx hb dL_law_2921 rfl (lv_at hl 4 rfl) ?_
  refine g_i (wr := []) (rV (rest := []) hx hb hml hown hE hP hD 23 rfl rfl (M2 H.size) (kV_X10_restore hE (e1780 hE) hrc2 hrs2 hR2) is2 (sub_app hi2) hn2 rfl hl.1 rfl (lv_room (Nat.le_of_ble_eq_true rfl)) dL_law_2922 ⟨by rw [rm_c]; omega, by rw [rm_s]; omega⟩) hP hD hS hA is2 [] (sub_app hi2) rfl (by decide) (fun i hi => absurd hi List.not_mem_nil) (fun u2 H locs hP hD hS => ?_)
  refine lv_istore (lv' := [(7, .int r2), (6, .int K), (5, .int 0), (4, .ref qd), (3, .ref qo), (2, .ref qm), (1, .ref qx), (0, .ref b)]) hx hb dL_law_2925 hl (by decide) rfl (fun ls hl => ?_)
  refine lv_aload_n hx hb dL_law_2927 rfl (lv_at hl 5 rfl) ?_
  refine g_i (wr := []) (rV (rest := []) hx hb hml hown hE hP hD 0 rfl rfl (h_thrown l g qm fs2 T hT H.size) (kV_X10_thrown hE (e1412 hE) rfl rfl ⟨(Nat.le_of_ble_eq_true rfl), (Nat.le_of_ble_eq_true rfl)⟩) [0] rfl (by decide) rfl hl.1 rfl (lv_room (Nat.le_of_ble_eq_true rfl)) dL_law_2928 ⟨by rw [rm_c]; omega, by rw [rm_s]; omega⟩) hP hD hS hA [0] [] rfl rfl (by decide) (by decide) (fun u3 H locs hP hD hS => ?_)
  refine lv_iload hx hb dL_law_2931 (lv_at hl 1 rfl) ?_
  refine lv_icmp_eq (tgt := 2938) hx hb dL_law_2933 (by decide) (fun _ => ?_) (fun h => absurd hTK h)
  refine lv_iload hx hb dL_law_2938 (lv_at hl 1 rfl) ?_
  refine lv_if_ne (tgt := 2955) hx hb dL_law_2940 (by decide) (fun _ => ?_) (fun h => absurd h hK)
  refine lv_goto (tgt := 2958) hx hb dL_law_2955 (by decide) ?_
  exact lw_end C hS (lv_sub hl [2, 7] rfl) (by omega) (by omega)

set_option maxHeartbeats 4000000 in
set_option maxRecDepth 100000 in
theorem loK_setEnvelope (C : L0 p l s m meth c b 6 xs g) (hP : va_P g.1 vwCl (WL g qx u qm v qo qd) H) (hD : va_D (LA s) (WL g qx u qm v qo qd)) (hS : va_S (LA s) s.heap H locs) (hl : lv_has ls 9 [(5, .int 0), (4, .ref qd), (3, .ref qo), (2, .ref qm), (1, .ref qx), (0, .ref b)]) {a1 a2 a3 a4 a5 : Int32} (x1 : xs 1 = a1) (x2 : xs 2 = a2) (x3 : xs 3 = a3) (x4 : xs 4 = a4) (x5 : xs 5 = a5) {ws1 ws2 : va_W} {rm1 rm2 : Room} {mc1 ms1 mc2 ms2 : Nat} {fs2 : List Value} {po1 : (Nat → Nat) → va_W} {K T : Int32} (hK : ¬ K = 0) (hTK : T = K) {r2 : Int32} (hT : fs2[6]? = some (.int T)) (is1 : List Nat) (hi1 : is1.map (fun i => (WL g qx u qm v qo qd)[i]?) = ws1.map some) (hn1 : va_nd is1 = true) (hd1 : ∀ i ∈ [48, 49, 50, 51, 52, 53, 54, 55, 56, 57, 58, 59, 60, 61, 62, 63, 64, 65, 66, 67, 68, 69, 70, 71], i ∉ is1) (M1 : ∀ sz, Met l yL_setEnvelope [Cond.codeWith yL_setEnvelope cL_setEnvelope 8 (some .int) [(0, 16, 19, 13), (0, 16, 23, 15)]] rm1 (va_Pc [.ref qx, .int a1, .int a2, .int a3, .int a4, .int a5, .ref qo] (PZ g sz ws1)) (QI g ws1 sz K po1) mc1 ms1 (va_A ws1 sz)) (hrc1 : rm1.cells = mc1) (hrs1 : rm1.slots = ms1) (hR1 : rm1.frames + 1 ≤ room_1.frames ∧ 8 + (8 + 11) + rm1.locals ≤ room_1.locals) (hc1 : mc1 ≤ 100000 ∧ ms1 ≤ 1000000) (is2 : List Nat) (hi2 : is2.map (fun i => (WM g qm v)[i]?) = ws2.map some) (hn2 : va_nd is2 = true) (hd2 : ∀ i ∈ is2, i < 24) (M2 : ∀ sz, Met l yX10_setEnvelope [Cond.code yX10_setEnvelope cX10_setEnvelope 12 (some .int)] rm2 (va_Pc [.ref qm, .int a1, .int a2, .int a3, .int a4, .int a5] (PX g sz ws2)) (QI g ws2 sz r2 (fun _ => [(qm, .inr (12, fs2))])) mc2 ms2 (va_A ws2 sz)) (hrc2 : rm2.cells = mc2) (hrs2 : rm2.slots = ms2) (hR2 : rm2.frames + 1 ≤ room_1.frames ∧ 8 + (12 + 11) + rm2.locals ≤ room_1.locals) (hc2 : mc2 ≤ 100000 ∧ ms2 ≤ 1000000) : W p l e room_1 s m #[Value.ref b] below meth c H locs 146 20899 (lw_Z below #[Value.ref b] s) (F0 m 1760 ls []) := by
  have hx := C.hx
  have hb := C.hb
  have hml := C.hml
  have hown := C.hown
  have hE := C.hE
  have hz := C.hz
  have hA : ∀ q, s.heap.size ≤ q → LA s q := LA_new
  refine lv_aload_n hx hb dL_law_1760 rfl (lv_at hl 4 rfl) ?_
  refine lv_aload_n hx hb dL_law_1761 rfl (lv_at hl 5 rfl) ?_
  refine lv_iload hx hb dL_law_1762 (lv_at hl 0 rfl) ?_
  refine lv_iconst (v := 1) hx hb dL_law_1764 (by decide) ?_
  refine x_iadd (v := 1) hx hb dL_law_1765 (by decide) ?_
  refine x_sld (z := a1) hx hb C.hX C.hbl C.hbA hS (x_in (by decide)) (k := 1) (by decide) x1 dL_law_1766 ?_
  refine lv_aload_n hx hb dL_law_1767 rfl (lv_at hl 5 rfl) ?_
  refine lv_iload hx hb dL_law_1768 (lv_at hl 0 rfl) ?_
  refine lv_iconst (v := 2) hx hb dL_law_1770 (by decide) ?_
  refine x_iadd (v := 2) hx hb dL_law_1771 (by decide) ?_
  refine x_sld (z := a2) hx hb C.hX C.hbl C.hbA hS (x_in (by decide)) (k := 2) (by decide) x2 dL_law_1772 ?_
  refine lv_aload_n hx hb dL_law_1773 rfl (lv_at hl 5 rfl) ?_
  refine lv_iload hx hb dL_law_1774 (lv_at hl 0 rfl) ?_
  refine lv_iconst (v := 3) hx hb dL_law_1776 (by decide) ?_
  refine x_iadd (v := 3) hx hb dL_law_1777 (by decide) ?_
  refine x_sld (z := a3) hx hb C.hX C.hbl C.hbA hS (x_in (by decide)) (k := 3) (by decide) x3 dL_law_1778 ?_
  refine lv_aload_n hx hb dL_law_1779 rfl (lv_at hl 5 rfl) ?_
  refine lv_iload hx hb dL_law_1780 (lv_at hl 0 rfl) ?_
  refine lv_iconst (v := 4) hx hb dL_law_1782 (by decide) ?_
  refine x_iadd (v := 4) hx hb dL_law_1783 (by decide) ?_
  refine x_sld (z := a4) hx hb C.hX C.hbl C.hbA hS (x_in (by decide)) (k := 4) (by decide) x4 dL_law_1784 ?_
  refine lv_aload_n hx hb dL_law_1785 rfl (lv_at hl 5 rfl) ?_
  refine lv_iload hx hb dL_law_1786 (lv_at hl 0 rfl) ?_
  refine lv_iconst (v := 5) hx hb dL_law_1788 (by decide) ?_
  refine x_iadd (v := 5) hx hb dL_law_1789 (by decide) ?_
  refine x_sld (z := a5) hx hb C.hX C.hbl C.hbA hS (x_in (by decide)) (k := 5) (by decide) x5 dL_law_1790 ?_
  refine lv_aload_n hx hb dL_law_1791 rfl (lv_at hl 2 rfl) ?_
  refine g_i (wr := WM g qm v) (rSW (rest := []) hx hb hml hown hE hP hD hS hA hz (M1 H.size) (kSW_L_setEnvelope hE (e984 hE) hrc1 hrs1 hR1) is1 hi1 hn1 rfl hl.1 rfl (lv_room (Nat.le_of_ble_eq_true rfl)) dL_law_1792 ⟨by rw [rm_c]; omega, by rw [rm_s]; omega⟩) hP hD hS hA is1 [48, 49, 50, 51, 52, 53, 54, 55, 56, 57, 58, 59, 60, 61, 62, 63, 64, 65, 66, 67, 68, 69, 70, 71] hi1 rfl (by decide) hd1 (fun u1 H locs hP hD hS => ?_)
  refine lv_istore (lv' := [(6, .int K), (5, .int 0), (4, .ref qd), (3, .ref qo), (2, .ref qm), (1, .ref qx), (0, .ref b)]) hx hb dL_law_1795 hl (by decide) rfl (fun ls hl => ?_)
  refine lv_aload_n hx hb dL_law_1797 rfl (lv_at hl 4 rfl) ?_
  refine lv_aload_n hx hb dL_law_1798 rfl (lv_at hl 6 rfl) ?_
  refine lv_iload hx hb dL_law_1799 (lv_at hl 1 rfl) ?_
  refine lv_iconst (v := 1) hx hb dL_law_1801 (by decide) ?_
  refine x_iadd (v := 1) hx hb dL_law_1802 (by decide) ?_
  refine x_sld (z := a1) hx hb C.hX C.hbl C.hbA hS (x_in (by decide)) (k := 1) (by decide) x1 dL_law_1803 ?_
  refine lv_aload_n hx hb dL_law_1804 rfl (lv_at hl 6 rfl) ?_
  refine lv_iload hx hb dL_law_1805 (lv_at hl 1 rfl) ?_
  refine lv_iconst (v := 2) hx hb dL_law_1807 (by decide) ?_
  refine x_iadd (v := 2) hx hb dL_law_1808 (by decide) ?_
  refine x_sld (z := a2) hx hb C.hX C.hbl C.hbA hS (x_in (by decide)) (k := 2) (by decide) x2 dL_law_1809 ?_
  refine lv_aload_n hx hb dL_law_1810 rfl (lv_at hl 6 rfl) ?_
  refine lv_iload hx hb dL_law_1811 (lv_at hl 1 rfl) ?_
  refine lv_iconst (v := 3) hx hb dL_law_1813 (by decide) ?_
  refine x_iadd (v := 3) hx hb dL_law_1814 (by decide) ?_
  refine x_sld (z := a3) hx hb C.hX C.hbl C.hbA hS (x_in (by decide)) (k := 3) (by decide) x3 dL_law_1815 ?_
  refine lv_aload_n hx hb dL_law_1816 rfl (lv_at hl 6 rfl) ?_
  refine lv_iload hx hb dL_law_1817 (lv_at hl 1 rfl) ?_
  refine lv_iconst (v := 4) hx hb dL_law_1819 (by decide) ?_
  refine x_iadd (v := 4) hx hb dL_law_1820 (by decide) ?_
  refine x_sld (z := a4) hx hb C.hX C.hbl C.hbA hS (x_in (by decide)) (k := 4) (by decide) x4 dL_law_1821 ?_
  refine lv_aload_n hx hb dL_law_1822 rfl (lv_at hl 6 rfl) ?_
  refine lv_iload hx hb dL_law_1823 (lv_at hl 1 rfl) ?_
  refine lv_iconst (v := 5) hx hb dL_law_1825 (by decide) ?_
  refine x_iadd (v := 5) hx hb dL_law_1826 (by decide) ?_
  refine x_sld (z := a5) hx hb C.hX C.hbl C.hbA hS (x_in (by decide)) (k := 5) (by decide) x5 dL_law_1827 ?_
  refine g_i (wr := []) (rV (rest := []) hx hb hml hown hE hP hD 23 rfl rfl (M2 H.size) (kV_X10_setEnvelope hE (e1641 hE) hrc2 hrs2 hR2) is2 (sub_app hi2) hn2 rfl hl.1 rfl (lv_room (Nat.le_of_ble_eq_true rfl)) dL_law_1828 ⟨by rw [rm_c]; omega, by rw [rm_s]; omega⟩) hP hD hS hA is2 [] (sub_app hi2) rfl (by decide) (fun i hi => absurd hi List.not_mem_nil) (fun u2 H locs hP hD hS => ?_)
  refine lv_istore (lv' := [(7, .int r2), (6, .int K), (5, .int 0), (4, .ref qd), (3, .ref qo), (2, .ref qm), (1, .ref qx), (0, .ref b)]) hx hb dL_law_1831 hl (by decide) rfl (fun ls hl => ?_)
  refine lv_aload_n hx hb dL_law_1833 rfl (lv_at hl 5 rfl) ?_
  refine g_i (wr := []) (rV (rest := []) hx hb hml hown hE hP hD 0 rfl rfl (h_thrown l g qm fs2 T hT H.size) (kV_X10_thrown hE (e1412 hE) rfl rfl ⟨(Nat.le_of_ble_eq_true rfl), (Nat.le_of_ble_eq_true rfl)⟩) [0] rfl (by decide) rfl hl.1 rfl (lv_room (Nat.le_of_ble_eq_true rfl)) dL_law_1834 ⟨by rw [rm_c]; omega, by rw [rm_s]; omega⟩) hP hD hS hA [0] [] rfl rfl (by decide) (by decide) (fun u3 H locs hP hD hS => ?_)
  refine lv_iload hx hb dL_law_1837 (lv_at hl 1 rfl) ?_
  refine lv_icmp_eq (tgt := 1844) hx hb dL_law_1839 (by decide) (fun _ => ?_) (fun h => absurd hTK h)
  refine lv_iload hx hb dL_law_1844 (lv_at hl 1 rfl) ?_
  refine lv_if_ne (tgt := 1861) hx hb dL_law_1846 (by decide) (fun _ => ?_) (fun h => absurd h hK)
  refine lv_goto (tgt := 2958) hx hb dL_law_1861 (by decide) ?_
  exact lw_end C hS (lv_sub hl [2, 7] rfl) (by omega) (by omega)

set_option maxHeartbeats 4000000 in
set_option maxRecDepth 100000 in
theorem loK_setPriority (C : L0 p l s m meth c b 6 xs g) (hP : va_P g.1 vwCl (WL g qx u qm v qo qd) H) (hD : va_D (LA s) (WL g qx u qm v qo qd)) (hS : va_S (LA s) s.heap H locs) (hl : lv_has ls 9 [(5, .int 0), (4, .ref qd), (3, .ref qo), (2, .ref qm), (1, .ref qx), (0, .ref b)]) {a1 a2 : Int32} (x1 : xs 1 = a1) (x2 : xs 2 = a2) {ws1 ws2 : va_W} {rm1 rm2 : Room} {mc1 ms1 mc2 ms2 : Nat} {fs2 : List Value} {po1 : (Nat → Nat) → va_W} {K T : Int32} (hK : ¬ K = 0) (hTK : T = K) {r2 : Int32} (hT : fs2[6]? = some (.int T)) (is1 : List Nat) (hi1 : is1.map (fun i => (WL g qx u qm v qo qd)[i]?) = ws1.map some) (hn1 : va_nd is1 = true) (hd1 : ∀ i ∈ [48, 49, 50, 51, 52, 53, 54, 55, 56, 57, 58, 59, 60, 61, 62, 63, 64, 65, 66, 67, 68, 69, 70, 71], i ∉ is1) (M1 : ∀ sz, Met l yL_setPriority [Cond.codeWith yL_setPriority cL_setPriority 5 (some .int) [(0, 10, 13, 13), (0, 10, 17, 15)]] rm1 (va_Pc [.ref qx, .int a1, .int a2, .ref qo] (PZ g sz ws1)) (QI g ws1 sz K po1) mc1 ms1 (va_A ws1 sz)) (hrc1 : rm1.cells = mc1) (hrs1 : rm1.slots = ms1) (hR1 : rm1.frames + 1 ≤ room_1.frames ∧ 8 + (5 + 11) + rm1.locals ≤ room_1.locals) (hc1 : mc1 ≤ 100000 ∧ ms1 ≤ 1000000) (is2 : List Nat) (hi2 : is2.map (fun i => (WM g qm v)[i]?) = ws2.map some) (hn2 : va_nd is2 = true) (hd2 : ∀ i ∈ is2, i < 24) (M2 : ∀ sz, Met l yX10_setPriority [Cond.code yX10_setPriority cX10_setPriority 3 (some .int)] rm2 (va_Pc [.ref qm, .int a1, .int a2] (PX g sz ws2)) (QI g ws2 sz r2 (fun _ => [(qm, .inr (12, fs2))])) mc2 ms2 (va_A ws2 sz)) (hrc2 : rm2.cells = mc2) (hrs2 : rm2.slots = ms2) (hR2 : rm2.frames + 1 ≤ room_1.frames ∧ 8 + (3 + 11) + rm2.locals ≤ room_1.locals) (hc2 : mc2 ≤ 100000 ∧ ms2 ≤ 1000000) : W p l e room_1 s m #[Value.ref b] below meth c H locs 146 20899 (lw_Z below #[Value.ref b] s) (F0 m 1864 ls []) := by
  have hx := C.hx
  have hb := C.hb
  have hml := C.hml
  have hown := C.hown
  have hE := C.hE
  have hz := C.hz
  have hA : ∀ q, s.heap.size ≤ q → LA s q := LA_new
  refine lv_aload_n hx hb dL_law_1864 rfl (lv_at hl 4 rfl) ?_
  refine lv_aload_n hx hb dL_law_1865 rfl (lv_at hl 5 rfl) ?_
  refine lv_iload hx hb dL_law_1866 (lv_at hl 0 rfl) ?_
  refine lv_iconst (v := 1) hx hb dL_law_1868 (by decide) ?_
  refine x_iadd (v := 1) hx hb dL_law_1869 (by decide) ?_
  refine x_sld (z := a1) hx hb C.hX C.hbl C.hbA hS (x_in (by decide)) (k := 1) (by decide) x1 dL_law_1870 ?_
  refine lv_aload_n hx hb dL_law_1871 rfl (lv_at hl 5 rfl) ?_
  refine lv_iload hx hb dL_law_1872 (lv_at hl 0 rfl) ?_
  refine lv_iconst (v := 2) hx hb dL_law_1874 (by decide) ?_
  refine x_iadd (v := 2) hx hb dL_law_1875 (by decide) ?_
  refine x_sld (z := a2) hx hb C.hX C.hbl C.hbA hS (x_in (by decide)) (k := 2) (by decide) x2 dL_law_1876 ?_
  refine lv_aload_n hx hb dL_law_1877 rfl (lv_at hl 2 rfl) ?_
  refine g_i (wr := WM g qm v) (rSW (rest := []) hx hb hml hown hE hP hD hS hA hz (M1 H.size) (kSW_L_setPriority hE (e1003 hE) hrc1 hrs1 hR1) is1 hi1 hn1 rfl hl.1 rfl (lv_room (Nat.le_of_ble_eq_true rfl)) dL_law_1878 ⟨by rw [rm_c]; omega, by rw [rm_s]; omega⟩) hP hD hS hA is1 [48, 49, 50, 51, 52, 53, 54, 55, 56, 57, 58, 59, 60, 61, 62, 63, 64, 65, 66, 67, 68, 69, 70, 71] hi1 rfl (by decide) hd1 (fun u1 H locs hP hD hS => ?_)
  refine lv_istore (lv' := [(6, .int K), (5, .int 0), (4, .ref qd), (3, .ref qo), (2, .ref qm), (1, .ref qx), (0, .ref b)]) hx hb dL_law_1881 hl (by decide) rfl (fun ls hl => ?_)
  refine lv_aload_n hx hb dL_law_1883 rfl (lv_at hl 4 rfl) ?_
  refine lv_aload_n hx hb dL_law_1884 rfl (lv_at hl 6 rfl) ?_
  refine lv_iload hx hb dL_law_1885 (lv_at hl 1 rfl) ?_
  refine lv_iconst (v := 1) hx hb dL_law_1887 (by decide) ?_
  refine x_iadd (v := 1) hx hb dL_law_1888 (by decide) ?_
  refine x_sld (z := a1) hx hb C.hX C.hbl C.hbA hS (x_in (by decide)) (k := 1) (by decide) x1 dL_law_1889 ?_
  refine lv_aload_n hx hb dL_law_1890 rfl (lv_at hl 6 rfl) ?_
  refine lv_iload hx hb dL_law_1891 (lv_at hl 1 rfl) ?_
  refine lv_iconst (v := 2) hx hb dL_law_1893 (by decide) ?_
  refine x_iadd (v := 2) hx hb dL_law_1894 (by decide) ?_
  refine x_sld (z := a2) hx hb C.hX C.hbl C.hbA hS (x_in (by decide)) (k := 2) (by decide) x2 dL_law_1895 ?_
  refine g_i (wr := []) (rV (rest := []) hx hb hml hown hE hP hD 23 rfl rfl (M2 H.size) (kV_X10_setPriority hE (e1648 hE) hrc2 hrs2 hR2) is2 (sub_app hi2) hn2 rfl hl.1 rfl (lv_room (Nat.le_of_ble_eq_true rfl)) dL_law_1896 ⟨by rw [rm_c]; omega, by rw [rm_s]; omega⟩) hP hD hS hA is2 [] (sub_app hi2) rfl (by decide) (fun i hi => absurd hi List.not_mem_nil) (fun u2 H locs hP hD hS => ?_)
  refine lv_istore (lv' := [(7, .int r2), (6, .int K), (5, .int 0), (4, .ref qd), (3, .ref qo), (2, .ref qm), (1, .ref qx), (0, .ref b)]) hx hb dL_law_1899 hl (by decide) rfl (fun ls hl => ?_)
  refine lv_aload_n hx hb dL_law_1901 rfl (lv_at hl 5 rfl) ?_
  refine g_i (wr := []) (rV (rest := []) hx hb hml hown hE hP hD 0 rfl rfl (h_thrown l g qm fs2 T hT H.size) (kV_X10_thrown hE (e1412 hE) rfl rfl ⟨(Nat.le_of_ble_eq_true rfl), (Nat.le_of_ble_eq_true rfl)⟩) [0] rfl (by decide) rfl hl.1 rfl (lv_room (Nat.le_of_ble_eq_true rfl)) dL_law_1902 ⟨by rw [rm_c]; omega, by rw [rm_s]; omega⟩) hP hD hS hA [0] [] rfl rfl (by decide) (by decide) (fun u3 H locs hP hD hS => ?_)
  refine lv_iload hx hb dL_law_1905 (lv_at hl 1 rfl) ?_
  refine lv_icmp_eq (tgt := 1912) hx hb dL_law_1907 (by decide) (fun _ => ?_) (fun h => absurd hTK h)
  refine lv_iload hx hb dL_law_1912 (lv_at hl 1 rfl) ?_
  refine lv_if_ne (tgt := 1929) hx hb dL_law_1914 (by decide) (fun _ => ?_) (fun h => absurd h hK)
  refine lv_goto (tgt := 2958) hx hb dL_law_1929 (by decide) ?_
  exact lw_end C hS (lv_sub hl [2, 7] rfl) (by omega) (by omega)

set_option maxHeartbeats 4000000 in
set_option maxRecDepth 100000 in
theorem loK_setRule (C : L0 p l s m meth c b 6 xs g) (hP : va_P g.1 vwCl (WL g qx u qm v qo qd) H) (hD : va_D (LA s) (WL g qx u qm v qo qd)) (hS : va_S (LA s) s.heap H locs) (hl : lv_has ls 9 [(5, .int 0), (4, .ref qd), (3, .ref qo), (2, .ref qm), (1, .ref qx), (0, .ref b)]) {a1 : Int32} (x1 : xs 1 = a1) {ws1 ws2 : va_W} {rm1 rm2 : Room} {mc1 ms1 mc2 ms2 : Nat} {fs2 : List Value} {po1 : (Nat → Nat) → va_W} {K T : Int32} (hK : ¬ K = 0) (hTK : T = K) {r2 : Int32} (hT : fs2[6]? = some (.int T)) (is1 : List Nat) (hi1 : is1.map (fun i => (WL g qx u qm v qo qd)[i]?) = ws1.map some) (hn1 : va_nd is1 = true) (hd1 : ∀ i ∈ [48, 49, 50, 51, 52, 53, 54, 55, 56, 57, 58, 59, 60, 61, 62, 63, 64, 65, 66, 67, 68, 69, 70, 71], i ∉ is1) (M1 : ∀ sz, Met l yL_setRule [Cond.codeWith yL_setRule cL_setRule 4 (some .int) [(0, 9, 12, 15)]] rm1 (va_Pc [.ref qx, .int a1, .ref qo] (PZ g sz ws1)) (QI g ws1 sz K po1) mc1 ms1 (va_A ws1 sz)) (hrc1 : rm1.cells = mc1) (hrs1 : rm1.slots = ms1) (hR1 : rm1.frames + 1 ≤ room_1.frames ∧ 8 + (4 + 11) + rm1.locals ≤ room_1.locals) (hc1 : mc1 ≤ 100000 ∧ ms1 ≤ 1000000) (is2 : List Nat) (hi2 : is2.map (fun i => (WM g qm v)[i]?) = ws2.map some) (hn2 : va_nd is2 = true) (hd2 : ∀ i ∈ is2, i < 24) (M2 : ∀ sz, Met l yX10_setRule [Cond.code yX10_setRule cX10_setRule 2 (some .int)] rm2 (va_Pc [.ref qm, .int a1] (PX g sz ws2)) (QI g ws2 sz r2 (fun _ => [(qm, .inr (12, fs2))])) mc2 ms2 (va_A ws2 sz)) (hrc2 : rm2.cells = mc2) (hrs2 : rm2.slots = ms2) (hR2 : rm2.frames + 1 ≤ room_1.frames ∧ 8 + (2 + 11) + rm2.locals ≤ room_1.locals) (hc2 : mc2 ≤ 100000 ∧ ms2 ≤ 1000000) : W p l e room_1 s m #[Value.ref b] below meth c H locs 146 20899 (lw_Z below #[Value.ref b] s) (F0 m 2056 ls []) := by
  have hx := C.hx
  have hb := C.hb
  have hml := C.hml
  have hown := C.hown
  have hE := C.hE
  have hz := C.hz
  have hA : ∀ q, s.heap.size ≤ q → LA s q := LA_new
  refine lv_aload_n hx hb dL_law_2056 rfl (lv_at hl 4 rfl) ?_
  refine lv_aload_n hx hb dL_law_2057 rfl (lv_at hl 5 rfl) ?_
  refine lv_iload hx hb dL_law_2058 (lv_at hl 0 rfl) ?_
  refine lv_iconst (v := 1) hx hb dL_law_2060 (by decide) ?_
  refine x_iadd (v := 1) hx hb dL_law_2061 (by decide) ?_
  refine x_sld (z := a1) hx hb C.hX C.hbl C.hbA hS (x_in (by decide)) (k := 1) (by decide) x1 dL_law_2062 ?_
  refine lv_aload_n hx hb dL_law_2063 rfl (lv_at hl 2 rfl) ?_
  refine g_i (wr := WM g qm v) (rSW (rest := []) hx hb hml hown hE hP hD hS hA hz (M1 H.size) (kSW_L_setRule hE (e1030 hE) hrc1 hrs1 hR1) is1 hi1 hn1 rfl hl.1 rfl (lv_room (Nat.le_of_ble_eq_true rfl)) dL_law_2064 ⟨by rw [rm_c]; omega, by rw [rm_s]; omega⟩) hP hD hS hA is1 [48, 49, 50, 51, 52, 53, 54, 55, 56, 57, 58, 59, 60, 61, 62, 63, 64, 65, 66, 67, 68, 69, 70, 71] hi1 rfl (by decide) hd1 (fun u1 H locs hP hD hS => ?_)
  refine lv_istore (lv' := [(6, .int K), (5, .int 0), (4, .ref qd), (3, .ref qo), (2, .ref qm), (1, .ref qx), (0, .ref b)]) hx hb dL_law_2067 hl (by decide) rfl (fun ls hl => ?_)
  refine lv_aload_n hx hb dL_law_2069 rfl (lv_at hl 4 rfl) ?_
  refine lv_aload_n hx hb dL_law_2070 rfl (lv_at hl 6 rfl) ?_
  refine lv_iload hx hb dL_law_2071 (lv_at hl 1 rfl) ?_
  refine lv_iconst (v := 1) hx hb dL_law_2073 (by decide) ?_
  refine x_iadd (v := 1) hx hb dL_law_2074 (by decide) ?_
  refine x_sld (z := a1) hx hb C.hX C.hbl C.hbA hS (x_in (by decide)) (k := 1) (by decide) x1 dL_law_2075 ?_
  refine g_i (wr := []) (rV (rest := []) hx hb hml hown hE hP hD 23 rfl rfl (M2 H.size) (kV_X10_setRule hE (e1660 hE) hrc2 hrs2 hR2) is2 (sub_app hi2) hn2 rfl hl.1 rfl (lv_room (Nat.le_of_ble_eq_true rfl)) dL_law_2076 ⟨by rw [rm_c]; omega, by rw [rm_s]; omega⟩) hP hD hS hA is2 [] (sub_app hi2) rfl (by decide) (fun i hi => absurd hi List.not_mem_nil) (fun u2 H locs hP hD hS => ?_)
  refine lv_istore (lv' := [(7, .int r2), (6, .int K), (5, .int 0), (4, .ref qd), (3, .ref qo), (2, .ref qm), (1, .ref qx), (0, .ref b)]) hx hb dL_law_2079 hl (by decide) rfl (fun ls hl => ?_)
  refine lv_aload_n hx hb dL_law_2081 rfl (lv_at hl 5 rfl) ?_
  refine g_i (wr := []) (rV (rest := []) hx hb hml hown hE hP hD 0 rfl rfl (h_thrown l g qm fs2 T hT H.size) (kV_X10_thrown hE (e1412 hE) rfl rfl ⟨(Nat.le_of_ble_eq_true rfl), (Nat.le_of_ble_eq_true rfl)⟩) [0] rfl (by decide) rfl hl.1 rfl (lv_room (Nat.le_of_ble_eq_true rfl)) dL_law_2082 ⟨by rw [rm_c]; omega, by rw [rm_s]; omega⟩) hP hD hS hA [0] [] rfl rfl (by decide) (by decide) (fun u3 H locs hP hD hS => ?_)
  refine lv_iload hx hb dL_law_2085 (lv_at hl 1 rfl) ?_
  refine lv_icmp_eq (tgt := 2092) hx hb dL_law_2087 (by decide) (fun _ => ?_) (fun h => absurd hTK h)
  refine lv_iload hx hb dL_law_2092 (lv_at hl 1 rfl) ?_
  refine lv_if_ne (tgt := 2109) hx hb dL_law_2094 (by decide) (fun _ => ?_) (fun h => absurd h hK)
  refine lv_goto (tgt := 2958) hx hb dL_law_2109 (by decide) ?_
  exact lw_end C hS (lv_sub hl [2, 7] rfl) (by omega) (by omega)

set_option maxHeartbeats 4000000 in
set_option maxRecDepth 100000 in
theorem loK_setSwing (C : L0 p l s m meth c b 6 xs g) (hP : va_P g.1 vwCl (WL g qx u qm v qo qd) H) (hD : va_D (LA s) (WL g qx u qm v qo qd)) (hS : va_S (LA s) s.heap H locs) (hl : lv_has ls 9 [(5, .int 0), (4, .ref qd), (3, .ref qo), (2, .ref qm), (1, .ref qx), (0, .ref b)]) {a1 : Int32} (x1 : xs 1 = a1) {ws1 ws2 : va_W} {rm1 rm2 : Room} {mc1 ms1 mc2 ms2 : Nat} {fs2 : List Value} {po1 : (Nat → Nat) → va_W} {K T : Int32} (hK : ¬ K = 0) (hTK : T = K) {r2 : Int32} (hT : fs2[6]? = some (.int T)) (is1 : List Nat) (hi1 : is1.map (fun i => (WL g qx u qm v qo qd)[i]?) = ws1.map some) (hn1 : va_nd is1 = true) (hd1 : ∀ i ∈ [48, 49, 50, 51, 52, 53, 54, 55, 56, 57, 58, 59, 60, 61, 62, 63, 64, 65, 66, 67, 68, 69, 70, 71], i ∉ is1) (M1 : ∀ sz, Met l yL_setSwing [Cond.codeWith yL_setSwing cL_setSwing 4 (some .int) [(0, 9, 12, 15)]] rm1 (va_Pc [.ref qx, .int a1, .ref qo] (PZ g sz ws1)) (QI g ws1 sz K po1) mc1 ms1 (va_A ws1 sz)) (hrc1 : rm1.cells = mc1) (hrs1 : rm1.slots = ms1) (hR1 : rm1.frames + 1 ≤ room_1.frames ∧ 8 + (4 + 11) + rm1.locals ≤ room_1.locals) (hc1 : mc1 ≤ 100000 ∧ ms1 ≤ 1000000) (is2 : List Nat) (hi2 : is2.map (fun i => (WM g qm v)[i]?) = ws2.map some) (hn2 : va_nd is2 = true) (hd2 : ∀ i ∈ is2, i < 24) (M2 : ∀ sz, Met l yX10_setSwing [Cond.code yX10_setSwing cX10_setSwing 2 (some .int)] rm2 (va_Pc [.ref qm, .int a1] (PX g sz ws2)) (QI g ws2 sz r2 (fun _ => [(qm, .inr (12, fs2))])) mc2 ms2 (va_A ws2 sz)) (hrc2 : rm2.cells = mc2) (hrs2 : rm2.slots = ms2) (hR2 : rm2.frames + 1 ≤ room_1.frames ∧ 8 + (2 + 11) + rm2.locals ≤ room_1.locals) (hc2 : mc2 ≤ 100000 ∧ ms2 ≤ 1000000) : W p l e room_1 s m #[Value.ref b] below meth c H locs 146 20899 (lw_Z below #[Value.ref b] s) (F0 m 1564 ls []) := by
  have hx := C.hx
  have hb := C.hb
  have hml := C.hml
  have hown := C.hown
  have hE := C.hE
  have hz := C.hz
  have hA : ∀ q, s.heap.size ≤ q → LA s q := LA_new
  refine lv_aload_n hx hb dL_law_1564 rfl (lv_at hl 4 rfl) ?_
  refine lv_aload_n hx hb dL_law_1565 rfl (lv_at hl 5 rfl) ?_
  refine lv_iload hx hb dL_law_1566 (lv_at hl 0 rfl) ?_
  refine lv_iconst (v := 1) hx hb dL_law_1568 (by decide) ?_
  refine x_iadd (v := 1) hx hb dL_law_1569 (by decide) ?_
  refine x_sld (z := a1) hx hb C.hX C.hbl C.hbA hS (x_in (by decide)) (k := 1) (by decide) x1 dL_law_1570 ?_
  refine lv_aload_n hx hb dL_law_1571 rfl (lv_at hl 2 rfl) ?_
  refine g_i (wr := WM g qm v) (rSW (rest := []) hx hb hml hown hE hP hD hS hA hz (M1 H.size) (kSW_L_setSwing hE (e952 hE) hrc1 hrs1 hR1) is1 hi1 hn1 rfl hl.1 rfl (lv_room (Nat.le_of_ble_eq_true rfl)) dL_law_1572 ⟨by rw [rm_c]; omega, by rw [rm_s]; omega⟩) hP hD hS hA is1 [48, 49, 50, 51, 52, 53, 54, 55, 56, 57, 58, 59, 60, 61, 62, 63, 64, 65, 66, 67, 68, 69, 70, 71] hi1 rfl (by decide) hd1 (fun u1 H locs hP hD hS => ?_)
  refine lv_istore (lv' := [(6, .int K), (5, .int 0), (4, .ref qd), (3, .ref qo), (2, .ref qm), (1, .ref qx), (0, .ref b)]) hx hb dL_law_1575 hl (by decide) rfl (fun ls hl => ?_)
  refine lv_aload_n hx hb dL_law_1577 rfl (lv_at hl 4 rfl) ?_
  refine lv_aload_n hx hb dL_law_1578 rfl (lv_at hl 6 rfl) ?_
  refine lv_iload hx hb dL_law_1579 (lv_at hl 1 rfl) ?_
  refine lv_iconst (v := 1) hx hb dL_law_1581 (by decide) ?_
  refine x_iadd (v := 1) hx hb dL_law_1582 (by decide) ?_
  refine x_sld (z := a1) hx hb C.hX C.hbl C.hbA hS (x_in (by decide)) (k := 1) (by decide) x1 dL_law_1583 ?_
  refine g_i (wr := []) (rV (rest := []) hx hb hml hown hE hP hD 23 rfl rfl (M2 H.size) (kV_X10_setSwing hE (e1624 hE) hrc2 hrs2 hR2) is2 (sub_app hi2) hn2 rfl hl.1 rfl (lv_room (Nat.le_of_ble_eq_true rfl)) dL_law_1584 ⟨by rw [rm_c]; omega, by rw [rm_s]; omega⟩) hP hD hS hA is2 [] (sub_app hi2) rfl (by decide) (fun i hi => absurd hi List.not_mem_nil) (fun u2 H locs hP hD hS => ?_)
  refine lv_istore (lv' := [(7, .int r2), (6, .int K), (5, .int 0), (4, .ref qd), (3, .ref qo), (2, .ref qm), (1, .ref qx), (0, .ref b)]) hx hb dL_law_1587 hl (by decide) rfl (fun ls hl => ?_)
  refine lv_aload_n hx hb dL_law_1589 rfl (lv_at hl 5 rfl) ?_
  refine g_i (wr := []) (rV (rest := []) hx hb hml hown hE hP hD 0 rfl rfl (h_thrown l g qm fs2 T hT H.size) (kV_X10_thrown hE (e1412 hE) rfl rfl ⟨(Nat.le_of_ble_eq_true rfl), (Nat.le_of_ble_eq_true rfl)⟩) [0] rfl (by decide) rfl hl.1 rfl (lv_room (Nat.le_of_ble_eq_true rfl)) dL_law_1590 ⟨by rw [rm_c]; omega, by rw [rm_s]; omega⟩) hP hD hS hA [0] [] rfl rfl (by decide) (by decide) (fun u3 H locs hP hD hS => ?_)
  refine lv_iload hx hb dL_law_1593 (lv_at hl 1 rfl) ?_
  refine lv_icmp_eq (tgt := 1600) hx hb dL_law_1595 (by decide) (fun _ => ?_) (fun h => absurd hTK h)
  refine lv_iload hx hb dL_law_1600 (lv_at hl 1 rfl) ?_
  refine lv_if_ne (tgt := 1617) hx hb dL_law_1602 (by decide) (fun _ => ?_) (fun h => absurd h hK)
  refine lv_goto (tgt := 2958) hx hb dL_law_1617 (by decide) ?_
  exact lw_end C hS (lv_sub hl [2, 7] rfl) (by omega) (by omega)

set_option maxHeartbeats 4000000 in
set_option maxRecDepth 100000 in
theorem loK_setTempo (C : L0 p l s m meth c b 6 xs g) (hP : va_P g.1 vwCl (WL g qx u qm v qo qd) H) (hD : va_D (LA s) (WL g qx u qm v qo qd)) (hS : va_S (LA s) s.heap H locs) (hl : lv_has ls 9 [(5, .int 0), (4, .ref qd), (3, .ref qo), (2, .ref qm), (1, .ref qx), (0, .ref b)]) {a1 a2 : Int32} (x1 : xs 1 = a1) (x2 : xs 2 = a2) {ws1 ws2 : va_W} {rm1 rm2 : Room} {mc1 ms1 mc2 ms2 : Nat} {fs2 : List Value} {po1 : (Nat → Nat) → va_W} {K T : Int32} (hK : ¬ K = 0) (hTK : T = K) {r2 : Int32} (hT : fs2[6]? = some (.int T)) (is1 : List Nat) (hi1 : is1.map (fun i => (WL g qx u qm v qo qd)[i]?) = ws1.map some) (hn1 : va_nd is1 = true) (hd1 : ∀ i ∈ [48, 49, 50, 51, 52, 53, 54, 55, 56, 57, 58, 59, 60, 61, 62, 63, 64, 65, 66, 67, 68, 69, 70, 71], i ∉ is1) (M1 : ∀ sz, Met l yL_setTempo [Cond.codeWith yL_setTempo cL_setTempo 5 (some .int) [(0, 10, 13, 15), (0, 10, 17, 17)]] rm1 (va_Pc [.ref qx, .int a1, .int a2, .ref qo] (PZ g sz ws1)) (QI g ws1 sz K po1) mc1 ms1 (va_A ws1 sz)) (hrc1 : rm1.cells = mc1) (hrs1 : rm1.slots = ms1) (hR1 : rm1.frames + 1 ≤ room_1.frames ∧ 8 + (5 + 11) + rm1.locals ≤ room_1.locals) (hc1 : mc1 ≤ 100000 ∧ ms1 ≤ 1000000) (is2 : List Nat) (hi2 : is2.map (fun i => (WM g qm v)[i]?) = ws2.map some) (hn2 : va_nd is2 = true) (hd2 : ∀ i ∈ is2, i < 24) (M2 : ∀ sz, Met l yX10_setTempo [Cond.code yX10_setTempo cX10_setTempo 6 (some .int)] rm2 (va_Pc [.ref qm, .int a1, .int a2] (PX g sz ws2)) (QI g ws2 sz r2 (fun _ => [(qm, .inr (12, fs2))])) mc2 ms2 (va_A ws2 sz)) (hrc2 : rm2.cells = mc2) (hrs2 : rm2.slots = ms2) (hR2 : rm2.frames + 1 ≤ room_1.frames ∧ 8 + (6 + 11) + rm2.locals ≤ room_1.locals) (hc2 : mc2 ≤ 100000 ∧ ms2 ≤ 1000000) : W p l e room_1 s m #[Value.ref b] below meth c H locs 146 20899 (lw_Z below #[Value.ref b] s) (F0 m 1328 ls []) := by
  have hx := C.hx
  have hb := C.hb
  have hml := C.hml
  have hown := C.hown
  have hE := C.hE
  have hz := C.hz
  have hA : ∀ q, s.heap.size ≤ q → LA s q := LA_new
  refine lv_aload_n hx hb dL_law_1328 rfl (lv_at hl 4 rfl) ?_
  refine lv_aload_n hx hb dL_law_1329 rfl (lv_at hl 5 rfl) ?_
  refine lv_iload hx hb dL_law_1330 (lv_at hl 0 rfl) ?_
  refine lv_iconst (v := 1) hx hb dL_law_1332 (by decide) ?_
  refine x_iadd (v := 1) hx hb dL_law_1333 (by decide) ?_
  refine x_sld (z := a1) hx hb C.hX C.hbl C.hbA hS (x_in (by decide)) (k := 1) (by decide) x1 dL_law_1334 ?_
  refine lv_aload_n hx hb dL_law_1335 rfl (lv_at hl 5 rfl) ?_
  refine lv_iload hx hb dL_law_1336 (lv_at hl 0 rfl) ?_
  refine lv_iconst (v := 2) hx hb dL_law_1338 (by decide) ?_
  refine x_iadd (v := 2) hx hb dL_law_1339 (by decide) ?_
  refine x_sld (z := a2) hx hb C.hX C.hbl C.hbA hS (x_in (by decide)) (k := 2) (by decide) x2 dL_law_1340 ?_
  refine lv_aload_n hx hb dL_law_1341 rfl (lv_at hl 2 rfl) ?_
  refine g_i (wr := WM g qm v) (rSW (rest := []) hx hb hml hown hE hP hD hS hA hz (M1 H.size) (kSW_L_setTempo hE (e901 hE) hrc1 hrs1 hR1) is1 hi1 hn1 rfl hl.1 rfl (lv_room (Nat.le_of_ble_eq_true rfl)) dL_law_1342 ⟨by rw [rm_c]; omega, by rw [rm_s]; omega⟩) hP hD hS hA is1 [48, 49, 50, 51, 52, 53, 54, 55, 56, 57, 58, 59, 60, 61, 62, 63, 64, 65, 66, 67, 68, 69, 70, 71] hi1 rfl (by decide) hd1 (fun u1 H locs hP hD hS => ?_)
  refine lv_istore (lv' := [(6, .int K), (5, .int 0), (4, .ref qd), (3, .ref qo), (2, .ref qm), (1, .ref qx), (0, .ref b)]) hx hb dL_law_1345 hl (by decide) rfl (fun ls hl => ?_)
  refine lv_aload_n hx hb dL_law_1347 rfl (lv_at hl 4 rfl) ?_
  refine lv_aload_n hx hb dL_law_1348 rfl (lv_at hl 6 rfl) ?_
  refine lv_iload hx hb dL_law_1349 (lv_at hl 1 rfl) ?_
  refine lv_iconst (v := 1) hx hb dL_law_1351 (by decide) ?_
  refine x_iadd (v := 1) hx hb dL_law_1352 (by decide) ?_
  refine x_sld (z := a1) hx hb C.hX C.hbl C.hbA hS (x_in (by decide)) (k := 1) (by decide) x1 dL_law_1353 ?_
  refine lv_aload_n hx hb dL_law_1354 rfl (lv_at hl 6 rfl) ?_
  refine lv_iload hx hb dL_law_1355 (lv_at hl 1 rfl) ?_
  refine lv_iconst (v := 2) hx hb dL_law_1357 (by decide) ?_
  refine x_iadd (v := 2) hx hb dL_law_1358 (by decide) ?_
  refine x_sld (z := a2) hx hb C.hX C.hbl C.hbA hS (x_in (by decide)) (k := 2) (by decide) x2 dL_law_1359 ?_
  refine g_i (wr := []) (rV (rest := []) hx hb hml hown hE hP hD 23 rfl rfl (M2 H.size) (kV_X10_setTempo hE (e1608 hE) hrc2 hrs2 hR2) is2 (sub_app hi2) hn2 rfl hl.1 rfl (lv_room (Nat.le_of_ble_eq_true rfl)) dL_law_1360 ⟨by rw [rm_c]; omega, by rw [rm_s]; omega⟩) hP hD hS hA is2 [] (sub_app hi2) rfl (by decide) (fun i hi => absurd hi List.not_mem_nil) (fun u2 H locs hP hD hS => ?_)
  refine lv_istore (lv' := [(7, .int r2), (6, .int K), (5, .int 0), (4, .ref qd), (3, .ref qo), (2, .ref qm), (1, .ref qx), (0, .ref b)]) hx hb dL_law_1363 hl (by decide) rfl (fun ls hl => ?_)
  refine lv_aload_n hx hb dL_law_1365 rfl (lv_at hl 5 rfl) ?_
  refine g_i (wr := []) (rV (rest := []) hx hb hml hown hE hP hD 0 rfl rfl (h_thrown l g qm fs2 T hT H.size) (kV_X10_thrown hE (e1412 hE) rfl rfl ⟨(Nat.le_of_ble_eq_true rfl), (Nat.le_of_ble_eq_true rfl)⟩) [0] rfl (by decide) rfl hl.1 rfl (lv_room (Nat.le_of_ble_eq_true rfl)) dL_law_1366 ⟨by rw [rm_c]; omega, by rw [rm_s]; omega⟩) hP hD hS hA [0] [] rfl rfl (by decide) (by decide) (fun u3 H locs hP hD hS => ?_)
  refine lv_iload hx hb dL_law_1369 (lv_at hl 1 rfl) ?_
  refine lv_icmp_eq (tgt := 1376) hx hb dL_law_1371 (by decide) (fun _ => ?_) (fun h => absurd hTK h)
  refine lv_iload hx hb dL_law_1376 (lv_at hl 1 rfl) ?_
  refine lv_if_ne (tgt := 1393) hx hb dL_law_1378 (by decide) (fun _ => ?_) (fun h => absurd h hK)
  refine lv_goto (tgt := 2958) hx hb dL_law_1393 (by decide) ?_
  exact lw_end C hS (lv_sub hl [2, 7] rfl) (by omega) (by omega)

set_option maxHeartbeats 4000000 in
set_option maxRecDepth 100000 in
theorem loK_setVoices (C : L0 p l s m meth c b 6 xs g) (hP : va_P g.1 vwCl (WL g qx u qm v qo qd) H) (hD : va_D (LA s) (WL g qx u qm v qo qd)) (hS : va_S (LA s) s.heap H locs) (hl : lv_has ls 9 [(5, .int 0), (4, .ref qd), (3, .ref qo), (2, .ref qm), (1, .ref qx), (0, .ref b)]) {a1 : Int32} (x1 : xs 1 = a1) {ws1 ws2 : va_W} {rm1 rm2 : Room} {mc1 ms1 mc2 ms2 : Nat} {fs2 : List Value} {po1 : (Nat → Nat) → va_W} {K T : Int32} (hK : ¬ K = 0) (hTK : T = K) {r2 : Int32} (hT : fs2[6]? = some (.int T)) (is1 : List Nat) (hi1 : is1.map (fun i => (WL g qx u qm v qo qd)[i]?) = ws1.map some) (hn1 : va_nd is1 = true) (hd1 : ∀ i ∈ [48, 49, 50, 51, 52, 53, 54, 55, 56, 57, 58, 59, 60, 61, 62, 63, 64, 65, 66, 67, 68, 69, 70, 71], i ∉ is1) (M1 : ∀ sz, Met l yL_setVoices [Cond.codeWith yL_setVoices cL_setVoices 4 (some .int) [(0, 9, 12, 15)]] rm1 (va_Pc [.ref qx, .int a1, .ref qo] (PZ g sz ws1)) (QI g ws1 sz K po1) mc1 ms1 (va_A ws1 sz)) (hrc1 : rm1.cells = mc1) (hrs1 : rm1.slots = ms1) (hR1 : rm1.frames + 1 ≤ room_1.frames ∧ 8 + (4 + 11) + rm1.locals ≤ room_1.locals) (hc1 : mc1 ≤ 100000 ∧ ms1 ≤ 1000000) (is2 : List Nat) (hi2 : is2.map (fun i => (WM g qm v)[i]?) = ws2.map some) (hn2 : va_nd is2 = true) (hd2 : ∀ i ∈ is2, i < 24) (M2 : ∀ sz, Met l yX10_setVoices [Cond.code yX10_setVoices cX10_setVoices 2 (some .int)] rm2 (va_Pc [.ref qm, .int a1] (PX g sz ws2)) (QI g ws2 sz r2 (fun _ => [(qm, .inr (12, fs2))])) mc2 ms2 (va_A ws2 sz)) (hrc2 : rm2.cells = mc2) (hrs2 : rm2.slots = ms2) (hR2 : rm2.frames + 1 ≤ room_1.frames ∧ 8 + (2 + 11) + rm2.locals ≤ room_1.locals) (hc2 : mc2 ≤ 100000 ∧ ms2 ≤ 1000000) : W p l e room_1 s m #[Value.ref b] below meth c H locs 146 20899 (lw_Z below #[Value.ref b] s) (F0 m 2000 ls []) := by
  have hx := C.hx
  have hb := C.hb
  have hml := C.hml
  have hown := C.hown
  have hE := C.hE
  have hz := C.hz
  have hA : ∀ q, s.heap.size ≤ q → LA s q := LA_new
  refine lv_aload_n hx hb dL_law_2000 rfl (lv_at hl 4 rfl) ?_
  refine lv_aload_n hx hb dL_law_2001 rfl (lv_at hl 5 rfl) ?_
  refine lv_iload hx hb dL_law_2002 (lv_at hl 0 rfl) ?_
  refine lv_iconst (v := 1) hx hb dL_law_2004 (by decide) ?_
  refine x_iadd (v := 1) hx hb dL_law_2005 (by decide) ?_
  refine x_sld (z := a1) hx hb C.hX C.hbl C.hbA hS (x_in (by decide)) (k := 1) (by decide) x1 dL_law_2006 ?_
  refine lv_aload_n hx hb dL_law_2007 rfl (lv_at hl 2 rfl) ?_
  refine g_i (wr := WM g qm v) (rSW (rest := []) hx hb hml hown hE hP hD hS hA hz (M1 H.size) (kSW_L_setVoices hE (e1023 hE) hrc1 hrs1 hR1) is1 hi1 hn1 rfl hl.1 rfl (lv_room (Nat.le_of_ble_eq_true rfl)) dL_law_2008 ⟨by rw [rm_c]; omega, by rw [rm_s]; omega⟩) hP hD hS hA is1 [48, 49, 50, 51, 52, 53, 54, 55, 56, 57, 58, 59, 60, 61, 62, 63, 64, 65, 66, 67, 68, 69, 70, 71] hi1 rfl (by decide) hd1 (fun u1 H locs hP hD hS => ?_)
  refine lv_istore (lv' := [(6, .int K), (5, .int 0), (4, .ref qd), (3, .ref qo), (2, .ref qm), (1, .ref qx), (0, .ref b)]) hx hb dL_law_2011 hl (by decide) rfl (fun ls hl => ?_)
  refine lv_aload_n hx hb dL_law_2013 rfl (lv_at hl 4 rfl) ?_
  refine lv_aload_n hx hb dL_law_2014 rfl (lv_at hl 6 rfl) ?_
  refine lv_iload hx hb dL_law_2015 (lv_at hl 1 rfl) ?_
  refine lv_iconst (v := 1) hx hb dL_law_2017 (by decide) ?_
  refine x_iadd (v := 1) hx hb dL_law_2018 (by decide) ?_
  refine x_sld (z := a1) hx hb C.hX C.hbl C.hbA hS (x_in (by decide)) (k := 1) (by decide) x1 dL_law_2019 ?_
  refine g_i (wr := []) (rV (rest := []) hx hb hml hown hE hP hD 23 rfl rfl (M2 H.size) (kV_X10_setVoices hE (e1656 hE) hrc2 hrs2 hR2) is2 (sub_app hi2) hn2 rfl hl.1 rfl (lv_room (Nat.le_of_ble_eq_true rfl)) dL_law_2020 ⟨by rw [rm_c]; omega, by rw [rm_s]; omega⟩) hP hD hS hA is2 [] (sub_app hi2) rfl (by decide) (fun i hi => absurd hi List.not_mem_nil) (fun u2 H locs hP hD hS => ?_)
  refine lv_istore (lv' := [(7, .int r2), (6, .int K), (5, .int 0), (4, .ref qd), (3, .ref qo), (2, .ref qm), (1, .ref qx), (0, .ref b)]) hx hb dL_law_2023 hl (by decide) rfl (fun ls hl => ?_)
  refine lv_aload_n hx hb dL_law_2025 rfl (lv_at hl 5 rfl) ?_
  refine g_i (wr := []) (rV (rest := []) hx hb hml hown hE hP hD 0 rfl rfl (h_thrown l g qm fs2 T hT H.size) (kV_X10_thrown hE (e1412 hE) rfl rfl ⟨(Nat.le_of_ble_eq_true rfl), (Nat.le_of_ble_eq_true rfl)⟩) [0] rfl (by decide) rfl hl.1 rfl (lv_room (Nat.le_of_ble_eq_true rfl)) dL_law_2026 ⟨by rw [rm_c]; omega, by rw [rm_s]; omega⟩) hP hD hS hA [0] [] rfl rfl (by decide) (by decide) (fun u3 H locs hP hD hS => ?_)
  refine lv_iload hx hb dL_law_2029 (lv_at hl 1 rfl) ?_
  refine lv_icmp_eq (tgt := 2036) hx hb dL_law_2031 (by decide) (fun _ => ?_) (fun h => absurd hTK h)
  refine lv_iload hx hb dL_law_2036 (lv_at hl 1 rfl) ?_
  refine lv_if_ne (tgt := 2053) hx hb dL_law_2038 (by decide) (fun _ => ?_) (fun h => absurd h hK)
  refine lv_goto (tgt := 2958) hx hb dL_law_2053 (by decide) ?_
  exact lw_end C hS (lv_sub hl [2, 7] rfl) (by omega) (by omega)

set_option maxHeartbeats 4000000 in
set_option maxRecDepth 100000 in
theorem loK_sounding (C : L0 p l s m meth c b 6 xs g) (hP : va_P g.1 vwCl (WL g qx u qm v qo qd) H) (hD : va_D (LA s) (WL g qx u qm v qo qd)) (hS : va_S (LA s) s.heap H locs) (hl : lv_has ls 9 [(5, .int 0), (4, .ref qd), (3, .ref qo), (2, .ref qm), (1, .ref qx), (0, .ref b)]) {a1 : Int32} (x1 : xs 1 = a1) {ws1 ws2 : va_W} {rm1 rm2 : Room} {mc1 ms1 mc2 ms2 : Nat} {fs2 : List Value} {po1 : (Nat → Nat) → va_W} {K T : Int32} (hK : ¬ K = 0) (hTK : T = K) {r2 : Int32} (hT : fs2[6]? = some (.int T)) (is1 : List Nat) (hi1 : is1.map (fun i => (WL g qx u qm v qo qd)[i]?) = ws1.map some) (hn1 : va_nd is1 = true) (hd1 : ∀ i ∈ [48, 49, 50, 51, 52, 53, 54, 55, 56, 57, 58, 59, 60, 61, 62, 63, 64, 65, 66, 67, 68, 69, 70, 71], i ∉ is1) (M1 : ∀ sz, Met l yL_sounding [Cond.codeWith yL_sounding cL_sounding 4 (some .int) [(0, 9, 12, 15)]] rm1 (va_Pc [.ref qx, .int a1, .ref qo] (PZ g sz ws1)) (QI g ws1 sz K po1) mc1 ms1 (va_A ws1 sz)) (hrc1 : rm1.cells = mc1) (hrs1 : rm1.slots = ms1) (hR1 : rm1.frames + 1 ≤ room_1.frames ∧ 8 + (4 + 11) + rm1.locals ≤ room_1.locals) (hc1 : mc1 ≤ 100000 ∧ ms1 ≤ 1000000) (is2 : List Nat) (hi2 : is2.map (fun i => (WM g qm v)[i]?) = ws2.map some) (hn2 : va_nd is2 = true) (hd2 : ∀ i ∈ is2, i < 24) (M2 : ∀ sz, Met l yX10_sounding [Cond.code yX10_sounding cX10_sounding 2 (some .int)] rm2 (va_Pc [.ref qm, .int a1] (PX g sz ws2)) (QI g ws2 sz r2 (fun _ => [(qm, .inr (12, fs2))])) mc2 ms2 (va_A ws2 sz)) (hrc2 : rm2.cells = mc2) (hrs2 : rm2.slots = ms2) (hR2 : rm2.frames + 1 ≤ room_1.frames ∧ 8 + (2 + 11) + rm2.locals ≤ room_1.locals) (hc2 : mc2 ≤ 100000 ∧ ms2 ≤ 1000000) : W p l e room_1 s m #[Value.ref b] below meth c H locs 146 20899 (lw_Z below #[Value.ref b] s) (F0 m 2236 ls []) := by
  have hx := C.hx
  have hb := C.hb
  have hml := C.hml
  have hown := C.hown
  have hE := C.hE
  have hz := C.hz
  have hA : ∀ q, s.heap.size ≤ q → LA s q := LA_new
  refine lv_aload_n hx hb dL_law_2236 rfl (lv_at hl 4 rfl) ?_
  refine lv_aload_n hx hb dL_law_2237 rfl (lv_at hl 5 rfl) ?_
  refine lv_iload hx hb dL_law_2238 (lv_at hl 0 rfl) ?_
  refine lv_iconst (v := 1) hx hb dL_law_2240 (by decide) ?_
  refine x_iadd (v := 1) hx hb dL_law_2241 (by decide) ?_
  refine x_sld (z := a1) hx hb C.hX C.hbl C.hbA hS (x_in (by decide)) (k := 1) (by decide) x1 dL_law_2242 ?_
  refine lv_aload_n hx hb dL_law_2243 rfl (lv_at hl 2 rfl) ?_
  refine g_i (wr := WM g qm v) (rSW (rest := []) hx hb hml hown hE hP hD hS hA hz (M1 H.size) (kSW_L_sounding hE (e1056 hE) hrc1 hrs1 hR1) is1 hi1 hn1 rfl hl.1 rfl (lv_room (Nat.le_of_ble_eq_true rfl)) dL_law_2244 ⟨by rw [rm_c]; omega, by rw [rm_s]; omega⟩) hP hD hS hA is1 [48, 49, 50, 51, 52, 53, 54, 55, 56, 57, 58, 59, 60, 61, 62, 63, 64, 65, 66, 67, 68, 69, 70, 71] hi1 rfl (by decide) hd1 (fun u1 H locs hP hD hS => ?_)
  refine lv_istore (lv' := [(6, .int K), (5, .int 0), (4, .ref qd), (3, .ref qo), (2, .ref qm), (1, .ref qx), (0, .ref b)]) hx hb dL_law_2247 hl (by decide) rfl (fun ls hl => ?_)
  refine lv_aload_n hx hb dL_law_2249 rfl (lv_at hl 4 rfl) ?_
  refine lv_aload_n hx hb dL_law_2250 rfl (lv_at hl 6 rfl) ?_
  refine lv_iload hx hb dL_law_2251 (lv_at hl 1 rfl) ?_
  refine lv_iconst (v := 1) hx hb dL_law_2253 (by decide) ?_
  refine x_iadd (v := 1) hx hb dL_law_2254 (by decide) ?_
  refine x_sld (z := a1) hx hb C.hX C.hbl C.hbA hS (x_in (by decide)) (k := 1) (by decide) x1 dL_law_2255 ?_
  refine g_i (wr := []) (rV (rest := []) hx hb hml hown hE hP hD 23 rfl rfl (M2 H.size) (kV_X10_sounding hE (e1672 hE) hrc2 hrs2 hR2) is2 (sub_app hi2) hn2 rfl hl.1 rfl (lv_room (Nat.le_of_ble_eq_true rfl)) dL_law_2256 ⟨by rw [rm_c]; omega, by rw [rm_s]; omega⟩) hP hD hS hA is2 [] (sub_app hi2) rfl (by decide) (fun i hi => absurd hi List.not_mem_nil) (fun u2 H locs hP hD hS => ?_)
  refine lv_istore (lv' := [(7, .int r2), (6, .int K), (5, .int 0), (4, .ref qd), (3, .ref qo), (2, .ref qm), (1, .ref qx), (0, .ref b)]) hx hb dL_law_2259 hl (by decide) rfl (fun ls hl => ?_)
  refine lv_aload_n hx hb dL_law_2261 rfl (lv_at hl 5 rfl) ?_
  refine g_i (wr := []) (rV (rest := []) hx hb hml hown hE hP hD 0 rfl rfl (h_thrown l g qm fs2 T hT H.size) (kV_X10_thrown hE (e1412 hE) rfl rfl ⟨(Nat.le_of_ble_eq_true rfl), (Nat.le_of_ble_eq_true rfl)⟩) [0] rfl (by decide) rfl hl.1 rfl (lv_room (Nat.le_of_ble_eq_true rfl)) dL_law_2262 ⟨by rw [rm_c]; omega, by rw [rm_s]; omega⟩) hP hD hS hA [0] [] rfl rfl (by decide) (by decide) (fun u3 H locs hP hD hS => ?_)
  refine lv_iload hx hb dL_law_2265 (lv_at hl 1 rfl) ?_
  refine lv_icmp_eq (tgt := 2272) hx hb dL_law_2267 (by decide) (fun _ => ?_) (fun h => absurd hTK h)
  refine lv_iload hx hb dL_law_2272 (lv_at hl 1 rfl) ?_
  refine lv_if_ne (tgt := 2289) hx hb dL_law_2274 (by decide) (fun _ => ?_) (fun h => absurd h hK)
  refine lv_goto (tgt := 2958) hx hb dL_law_2289 (by decide) ?_
  exact lw_end C hS (lv_sub hl [2, 7] rfl) (by omega) (by omega)

set_option maxHeartbeats 4000000 in
set_option maxRecDepth 100000 in
theorem loK_tempo (C : L0 p l s m meth c b 6 xs g) (hP : va_P g.1 vwCl (WL g qx u qm v qo qd) H) (hD : va_D (LA s) (WL g qx u qm v qo qd)) (hS : va_S (LA s) s.heap H locs) (hl : lv_has ls 9 [(5, .int 0), (4, .ref qd), (3, .ref qo), (2, .ref qm), (1, .ref qx), (0, .ref b)]) {a1 : Int32} (x1 : xs 1 = a1) {ws1 ws2 : va_W} {rm1 rm2 : Room} {mc1 ms1 mc2 ms2 : Nat} {fs2 : List Value} {po1 : (Nat → Nat) → va_W} {K T : Int32} (hK : ¬ K = 0) (hTK : T = K) {r2 : Int32} (hT : fs2[6]? = some (.int T)) (is1 : List Nat) (hi1 : is1.map (fun i => (WL g qx u qm v qo qd)[i]?) = ws1.map some) (hn1 : va_nd is1 = true) (hd1 : ∀ i ∈ [48, 49, 50, 51, 52, 53, 54, 55, 56, 57, 58, 59, 60, 61, 62, 63, 64, 65, 66, 67, 68, 69, 70, 71], i ∉ is1) (M1 : ∀ sz, Met l yL_tempo [Cond.codeWith yL_tempo cL_tempo 4 (some .int) [(0, 9, 12, 15)]] rm1 (va_Pc [.ref qx, .int a1, .ref qo] (PZ g sz ws1)) (QI g ws1 sz K po1) mc1 ms1 (va_A ws1 sz)) (hrc1 : rm1.cells = mc1) (hrs1 : rm1.slots = ms1) (hR1 : rm1.frames + 1 ≤ room_1.frames ∧ 8 + (4 + 11) + rm1.locals ≤ room_1.locals) (hc1 : mc1 ≤ 100000 ∧ ms1 ≤ 1000000) (is2 : List Nat) (hi2 : is2.map (fun i => (WM g qm v)[i]?) = ws2.map some) (hn2 : va_nd is2 = true) (hd2 : ∀ i ∈ is2, i < 24) (M2 : ∀ sz, Met l yX10_tempo [Cond.code yX10_tempo cX10_tempo 2 (some .int)] rm2 (va_Pc [.ref qm, .int a1] (PX g sz ws2)) (QI g ws2 sz r2 (fun _ => [(qm, .inr (12, fs2))])) mc2 ms2 (va_A ws2 sz)) (hrc2 : rm2.cells = mc2) (hrs2 : rm2.slots = ms2) (hR2 : rm2.frames + 1 ≤ room_1.frames ∧ 8 + (2 + 11) + rm2.locals ≤ room_1.locals) (hc2 : mc2 ≤ 100000 ∧ ms2 ≤ 1000000) : W p l e room_1 s m #[Value.ref b] below meth c H locs 146 20899 (lw_Z below #[Value.ref b] s) (F0 m 1452 ls []) := by
  have hx := C.hx
  have hb := C.hb
  have hml := C.hml
  have hown := C.hown
  have hE := C.hE
  have hz := C.hz
  have hA : ∀ q, s.heap.size ≤ q → LA s q := LA_new
  refine lv_aload_n hx hb dL_law_1452 rfl (lv_at hl 4 rfl) ?_
  refine lv_aload_n hx hb dL_law_1453 rfl (lv_at hl 5 rfl) ?_
  refine lv_iload hx hb dL_law_1454 (lv_at hl 0 rfl) ?_
  refine lv_iconst (v := 1) hx hb dL_law_1456 (by decide) ?_
  refine x_iadd (v := 1) hx hb dL_law_1457 (by decide) ?_
  refine x_sld (z := a1) hx hb C.hX C.hbl C.hbA hS (x_in (by decide)) (k := 1) (by decide) x1 dL_law_1458 ?_
  refine lv_aload_n hx hb dL_law_1459 rfl (lv_at hl 2 rfl) ?_
  refine g_i (wr := WM g qm v) (rSW (rest := []) hx hb hml hown hE hP hD hS hA hz (M1 H.size) (kSW_L_tempo hE (e935 hE) hrc1 hrs1 hR1) is1 hi1 hn1 rfl hl.1 rfl (lv_room (Nat.le_of_ble_eq_true rfl)) dL_law_1460 ⟨by rw [rm_c]; omega, by rw [rm_s]; omega⟩) hP hD hS hA is1 [48, 49, 50, 51, 52, 53, 54, 55, 56, 57, 58, 59, 60, 61, 62, 63, 64, 65, 66, 67, 68, 69, 70, 71] hi1 rfl (by decide) hd1 (fun u1 H locs hP hD hS => ?_)
  refine lv_istore (lv' := [(6, .int K), (5, .int 0), (4, .ref qd), (3, .ref qo), (2, .ref qm), (1, .ref qx), (0, .ref b)]) hx hb dL_law_1463 hl (by decide) rfl (fun ls hl => ?_)
  refine lv_aload_n hx hb dL_law_1465 rfl (lv_at hl 4 rfl) ?_
  refine lv_aload_n hx hb dL_law_1466 rfl (lv_at hl 6 rfl) ?_
  refine lv_iload hx hb dL_law_1467 (lv_at hl 1 rfl) ?_
  refine lv_iconst (v := 1) hx hb dL_law_1469 (by decide) ?_
  refine x_iadd (v := 1) hx hb dL_law_1470 (by decide) ?_
  refine x_sld (z := a1) hx hb C.hX C.hbl C.hbA hS (x_in (by decide)) (k := 1) (by decide) x1 dL_law_1471 ?_
  refine g_i (wr := []) (rV (rest := []) hx hb hml hown hE hP hD 23 rfl rfl (M2 H.size) (kV_X10_tempo hE (e1616 hE) hrc2 hrs2 hR2) is2 (sub_app hi2) hn2 rfl hl.1 rfl (lv_room (Nat.le_of_ble_eq_true rfl)) dL_law_1472 ⟨by rw [rm_c]; omega, by rw [rm_s]; omega⟩) hP hD hS hA is2 [] (sub_app hi2) rfl (by decide) (fun i hi => absurd hi List.not_mem_nil) (fun u2 H locs hP hD hS => ?_)
  refine lv_istore (lv' := [(7, .int r2), (6, .int K), (5, .int 0), (4, .ref qd), (3, .ref qo), (2, .ref qm), (1, .ref qx), (0, .ref b)]) hx hb dL_law_1475 hl (by decide) rfl (fun ls hl => ?_)
  refine lv_aload_n hx hb dL_law_1477 rfl (lv_at hl 5 rfl) ?_
  refine g_i (wr := []) (rV (rest := []) hx hb hml hown hE hP hD 0 rfl rfl (h_thrown l g qm fs2 T hT H.size) (kV_X10_thrown hE (e1412 hE) rfl rfl ⟨(Nat.le_of_ble_eq_true rfl), (Nat.le_of_ble_eq_true rfl)⟩) [0] rfl (by decide) rfl hl.1 rfl (lv_room (Nat.le_of_ble_eq_true rfl)) dL_law_1478 ⟨by rw [rm_c]; omega, by rw [rm_s]; omega⟩) hP hD hS hA [0] [] rfl rfl (by decide) (by decide) (fun u3 H locs hP hD hS => ?_)
  refine lv_iload hx hb dL_law_1481 (lv_at hl 1 rfl) ?_
  refine lv_icmp_eq (tgt := 1488) hx hb dL_law_1483 (by decide) (fun _ => ?_) (fun h => absurd hTK h)
  refine lv_iload hx hb dL_law_1488 (lv_at hl 1 rfl) ?_
  refine lv_if_ne (tgt := 1505) hx hb dL_law_1490 (by decide) (fun _ => ?_) (fun h => absurd h hK)
  refine lv_goto (tgt := 2958) hx hb dL_law_1505 (by decide) ?_
  exact lw_end C hS (lv_sub hl [2, 7] rfl) (by omega) (by omega)

set_option maxHeartbeats 4000000 in
set_option maxRecDepth 100000 in
theorem loK_tickAt (C : L0 p l s m meth c b 6 xs g) (hP : va_P g.1 vwCl (WL g qx u qm v qo qd) H) (hD : va_D (LA s) (WL g qx u qm v qo qd)) (hS : va_S (LA s) s.heap H locs) (hl : lv_has ls 9 [(5, .int 0), (4, .ref qd), (3, .ref qo), (2, .ref qm), (1, .ref qx), (0, .ref b)]) {a1 : Int32} (x1 : xs 1 = a1) {ws1 ws2 : va_W} {rm1 rm2 : Room} {mc1 ms1 mc2 ms2 : Nat} {fs2 : List Value} {po1 : (Nat → Nat) → va_W} {K T : Int32} (hK : ¬ K = 0) (hTK : T = K) {r2 : Int32} (hT : fs2[6]? = some (.int T)) (is1 : List Nat) (hi1 : is1.map (fun i => (WL g qx u qm v qo qd)[i]?) = ws1.map some) (hn1 : va_nd is1 = true) (hd1 : ∀ i ∈ [48, 49, 50, 51, 52, 53, 54, 55, 56, 57, 58, 59, 60, 61, 62, 63, 64, 65, 66, 67, 68, 69, 70, 71], i ∉ is1) (M1 : ∀ sz, Met l yL_tickAt [Cond.codeWith yL_tickAt cL_tickAt 4 (some .int) [(0, 9, 12, 15)]] rm1 (va_Pc [.ref qx, .int a1, .ref qo] (PZ g sz ws1)) (QI g ws1 sz K po1) mc1 ms1 (va_A ws1 sz)) (hrc1 : rm1.cells = mc1) (hrs1 : rm1.slots = ms1) (hR1 : rm1.frames + 1 ≤ room_1.frames ∧ 8 + (4 + 11) + rm1.locals ≤ room_1.locals) (hc1 : mc1 ≤ 100000 ∧ ms1 ≤ 1000000) (is2 : List Nat) (hi2 : is2.map (fun i => (WM g qm v)[i]?) = ws2.map some) (hn2 : va_nd is2 = true) (hd2 : ∀ i ∈ is2, i < 24) (M2 : ∀ sz, Met l yX10_tickAt [Cond.code yX10_tickAt cX10_tickAt 5 (some .int)] rm2 (va_Pc [.ref qm, .int a1] (PX g sz ws2)) (QI g ws2 sz r2 (fun _ => [(qm, .inr (12, fs2))])) mc2 ms2 (va_A ws2 sz)) (hrc2 : rm2.cells = mc2) (hrs2 : rm2.slots = ms2) (hR2 : rm2.frames + 1 ≤ room_1.frames ∧ 8 + (5 + 11) + rm2.locals ≤ room_1.locals) (hc2 : mc2 ≤ 100000 ∧ ms2 ≤ 1000000) : W p l e room_1 s m #[Value.ref b] below meth c H locs 146 20899 (lw_Z below #[Value.ref b] s) (F0 m 1704 ls []) := by
  have hx := C.hx
  have hb := C.hb
  have hml := C.hml
  have hown := C.hown
  have hE := C.hE
  have hz := C.hz
  have hA : ∀ q, s.heap.size ≤ q → LA s q := LA_new
  refine lv_aload_n hx hb dL_law_1704 rfl (lv_at hl 4 rfl) ?_
  refine lv_aload_n hx hb dL_law_1705 rfl (lv_at hl 5 rfl) ?_
  refine lv_iload hx hb dL_law_1706 (lv_at hl 0 rfl) ?_
  refine lv_iconst (v := 1) hx hb dL_law_1708 (by decide) ?_
  refine x_iadd (v := 1) hx hb dL_law_1709 (by decide) ?_
  refine x_sld (z := a1) hx hb C.hX C.hbl C.hbA hS (x_in (by decide)) (k := 1) (by decide) x1 dL_law_1710 ?_
  refine lv_aload_n hx hb dL_law_1711 rfl (lv_at hl 2 rfl) ?_
  refine g_i (wr := WM g qm v) (rSW (rest := []) hx hb hml hown hE hP hD hS hA hz (M1 H.size) (kSW_L_tickAt hE (e968 hE) hrc1 hrs1 hR1) is1 hi1 hn1 rfl hl.1 rfl (lv_room (Nat.le_of_ble_eq_true rfl)) dL_law_1712 ⟨by rw [rm_c]; omega, by rw [rm_s]; omega⟩) hP hD hS hA is1 [48, 49, 50, 51, 52, 53, 54, 55, 56, 57, 58, 59, 60, 61, 62, 63, 64, 65, 66, 67, 68, 69, 70, 71] hi1 rfl (by decide) hd1 (fun u1 H locs hP hD hS => ?_)
  refine lv_istore (lv' := [(6, .int K), (5, .int 0), (4, .ref qd), (3, .ref qo), (2, .ref qm), (1, .ref qx), (0, .ref b)]) hx hb dL_law_1715 hl (by decide) rfl (fun ls hl => ?_)
  refine lv_aload_n hx hb dL_law_1717 rfl (lv_at hl 4 rfl) ?_
  refine lv_aload_n hx hb dL_law_1718 rfl (lv_at hl 6 rfl) ?_
  refine lv_iload hx hb dL_law_1719 (lv_at hl 1 rfl) ?_
  refine lv_iconst (v := 1) hx hb dL_law_1721 (by decide) ?_
  refine x_iadd (v := 1) hx hb dL_law_1722 (by decide) ?_
  refine x_sld (z := a1) hx hb C.hX C.hbl C.hbA hS (x_in (by decide)) (k := 1) (by decide) x1 dL_law_1723 ?_
  refine g_i (wr := []) (rV (rest := []) hx hb hml hown hE hP hD 23 rfl rfl (M2 H.size) (kV_X10_tickAt hE (e1636 hE) hrc2 hrs2 hR2) is2 (sub_app hi2) hn2 rfl hl.1 rfl (lv_room (Nat.le_of_ble_eq_true rfl)) dL_law_1724 ⟨by rw [rm_c]; omega, by rw [rm_s]; omega⟩) hP hD hS hA is2 [] (sub_app hi2) rfl (by decide) (fun i hi => absurd hi List.not_mem_nil) (fun u2 H locs hP hD hS => ?_)
  refine lv_istore (lv' := [(7, .int r2), (6, .int K), (5, .int 0), (4, .ref qd), (3, .ref qo), (2, .ref qm), (1, .ref qx), (0, .ref b)]) hx hb dL_law_1727 hl (by decide) rfl (fun ls hl => ?_)
  refine lv_aload_n hx hb dL_law_1729 rfl (lv_at hl 5 rfl) ?_
  refine g_i (wr := []) (rV (rest := []) hx hb hml hown hE hP hD 0 rfl rfl (h_thrown l g qm fs2 T hT H.size) (kV_X10_thrown hE (e1412 hE) rfl rfl ⟨(Nat.le_of_ble_eq_true rfl), (Nat.le_of_ble_eq_true rfl)⟩) [0] rfl (by decide) rfl hl.1 rfl (lv_room (Nat.le_of_ble_eq_true rfl)) dL_law_1730 ⟨by rw [rm_c]; omega, by rw [rm_s]; omega⟩) hP hD hS hA [0] [] rfl rfl (by decide) (by decide) (fun u3 H locs hP hD hS => ?_)
  refine lv_iload hx hb dL_law_1733 (lv_at hl 1 rfl) ?_
  refine lv_icmp_eq (tgt := 1740) hx hb dL_law_1735 (by decide) (fun _ => ?_) (fun h => absurd hTK h)
  refine lv_iload hx hb dL_law_1740 (lv_at hl 1 rfl) ?_
  refine lv_if_ne (tgt := 1757) hx hb dL_law_1742 (by decide) (fun _ => ?_) (fun h => absurd h hK)
  refine lv_goto (tgt := 2958) hx hb dL_law_1757 (by decide) ?_
  exact lw_end C hS (lv_sub hl [2, 7] rfl) (by omega) (by omega)

set_option maxHeartbeats 4000000 in
set_option maxRecDepth 100000 in
theorem loK_timeOf0 (C : L0 p l s m meth c b 6 xs g) (hP : va_P g.1 vwCl (WL g qx u qm v qo qd) H) (hD : va_D (LA s) (WL g qx u qm v qo qd)) (hS : va_S (LA s) s.heap H locs) (hl : lv_has ls 9 [(5, .int 0), (4, .ref qd), (3, .ref qo), (2, .ref qm), (1, .ref qx), (0, .ref b)]) {a1 a2 : Int32} (x1 : xs 1 = a1) (x2 : xs 2 = a2) (hz9 : a2 = 0) {ws1 ws2 : va_W} {rm1 rm2 : Room} {mc1 ms1 mc2 ms2 : Nat} {fs2 : List Value} {po1 : (Nat → Nat) → va_W} {K T : Int32} (hK : ¬ K = 0) (hTK : T = K) {r2 : Int32} (hT : fs2[6]? = some (.int T)) (is1 : List Nat) (hi1 : is1.map (fun i => (WL g qx u qm v qo qd)[i]?) = ws1.map some) (hn1 : va_nd is1 = true) (hd1 : ∀ i ∈ [48, 49, 50, 51, 52, 53, 54, 55, 56, 57, 58, 59, 60, 61, 62, 63, 64, 65, 66, 67, 68, 69, 70, 71], i ∉ is1) (M1 : ∀ sz, Met l yL_timeOf [Cond.codeWith yL_timeOf cL_timeOf 5 (some .int) [(0, 10, 13, 15)]] rm1 (va_Pc [.ref qx, .int a1, .int 0, .ref qo] (PZ g sz ws1)) (QI g ws1 sz K po1) mc1 ms1 (va_A ws1 sz)) (hrc1 : rm1.cells = mc1) (hrs1 : rm1.slots = ms1) (hR1 : rm1.frames + 1 ≤ room_1.frames ∧ 8 + (5 + 11) + rm1.locals ≤ room_1.locals) (hc1 : mc1 ≤ 100000 ∧ ms1 ≤ 1000000) (is2 : List Nat) (hi2 : is2.map (fun i => (WM g qm v)[i]?) = ws2.map some) (hn2 : va_nd is2 = true) (hd2 : ∀ i ∈ is2, i < 24) (M2 : ∀ sz, Met l yX10_timeOf [Cond.code yX10_timeOf cX10_timeOf 3 (some .int)] rm2 (va_Pc [.ref qm, .int a1, .int 0] (PX g sz ws2)) (QI g ws2 sz r2 (fun _ => [(qm, .inr (12, fs2))])) mc2 ms2 (va_A ws2 sz)) (hrc2 : rm2.cells = mc2) (hrs2 : rm2.slots = ms2) (hR2 : rm2.frames + 1 ≤ room_1.frames ∧ 8 + (3 + 11) + rm2.locals ≤ room_1.locals) (hc2 : mc2 ≤ 100000 ∧ ms2 ≤ 1000000) : W p l e room_1 s m #[Value.ref b] below meth c H locs 146 20899 (lw_Z below #[Value.ref b] s) (F0 m 1620 ls []) := by
  have hx := C.hx
  have hb := C.hb
  have hml := C.hml
  have hown := C.hown
  have hE := C.hE
  have hz := C.hz
  have hA : ∀ q, s.heap.size ≤ q → LA s q := LA_new
  refine lv_aload_n hx hb dL_law_1620 rfl (lv_at hl 4 rfl) ?_
  refine lv_aload_n hx hb dL_law_1621 rfl (lv_at hl 5 rfl) ?_
  refine lv_iload hx hb dL_law_1622 (lv_at hl 0 rfl) ?_
  refine lv_iconst (v := 1) hx hb dL_law_1624 (by decide) ?_
  refine x_iadd (v := 1) hx hb dL_law_1625 (by decide) ?_
  refine x_sld (z := a1) hx hb C.hX C.hbl C.hbA hS (x_in (by decide)) (k := 1) (by decide) x1 dL_law_1626 ?_
  refine lv_aload_n hx hb dL_law_1627 rfl (lv_at hl 5 rfl) ?_
  refine lv_iload hx hb dL_law_1628 (lv_at hl 0 rfl) ?_
  refine lv_iconst (v := 2) hx hb dL_law_1630 (by decide) ?_
  refine x_iadd (v := 2) hx hb dL_law_1631 (by decide) ?_
  refine x_sld (z := a2) hx hb C.hX C.hbl C.hbA hS (x_in (by decide)) (k := 2) (by decide) x2 dL_law_1632 ?_
  refine lv_if_eq (tgt := 1640) hx hb dL_law_1633 (by decide) (fun _ => ?_) (fun h => absurd hz9 h)
  refine lv_iconst (v := 0) hx hb dL_law_1640 (by decide) ?_
  refine lv_aload_n hx hb dL_law_1641 rfl (lv_at hl 2 rfl) ?_
  refine g_i (wr := WM g qm v) (rSW (rest := []) hx hb hml hown hE hP hD hS hA hz (M1 H.size) (kSW_L_timeOf hE (e959 hE) hrc1 hrs1 hR1) is1 hi1 hn1 rfl hl.1 rfl (lv_room (Nat.le_of_ble_eq_true rfl)) dL_law_1642 ⟨by rw [rm_c]; omega, by rw [rm_s]; omega⟩) hP hD hS hA is1 [48, 49, 50, 51, 52, 53, 54, 55, 56, 57, 58, 59, 60, 61, 62, 63, 64, 65, 66, 67, 68, 69, 70, 71] hi1 rfl (by decide) hd1 (fun u1 H locs hP hD hS => ?_)
  refine lv_istore (lv' := [(6, .int K), (5, .int 0), (4, .ref qd), (3, .ref qo), (2, .ref qm), (1, .ref qx), (0, .ref b)]) hx hb dL_law_1645 hl (by decide) rfl (fun ls hl => ?_)
  refine lv_aload_n hx hb dL_law_1647 rfl (lv_at hl 4 rfl) ?_
  refine lv_aload_n hx hb dL_law_1648 rfl (lv_at hl 6 rfl) ?_
  refine lv_iload hx hb dL_law_1649 (lv_at hl 1 rfl) ?_
  refine lv_iconst (v := 1) hx hb dL_law_1651 (by decide) ?_
  refine x_iadd (v := 1) hx hb dL_law_1652 (by decide) ?_
  refine x_sld (z := a1) hx hb C.hX C.hbl C.hbA hS (x_in (by decide)) (k := 1) (by decide) x1 dL_law_1653 ?_
  refine lv_aload_n hx hb dL_law_1654 rfl (lv_at hl 6 rfl) ?_
  refine lv_iload hx hb dL_law_1655 (lv_at hl 1 rfl) ?_
  refine lv_iconst (v := 2) hx hb dL_law_1657 (by decide) ?_
  refine x_iadd (v := 2) hx hb dL_law_1658 (by decide) ?_
  refine x_sld (z := a2) hx hb C.hX C.hbl C.hbA hS (x_in (by decide)) (k := 2) (by decide) x2 dL_law_1659 ?_
  refine lv_if_eq (tgt := 1667) hx hb dL_law_1660 (by decide) (fun _ => ?_) (fun h => absurd hz9 h)
  refine lv_iconst (v := 0) hx hb dL_law_1667 (by decide) ?_
  refine g_i (wr := []) (rV (rest := []) hx hb hml hown hE hP hD 23 rfl rfl (M2 H.size) (kV_X10_timeOf hE (e1632 hE) hrc2 hrs2 hR2) is2 (sub_app hi2) hn2 rfl hl.1 rfl (lv_room (Nat.le_of_ble_eq_true rfl)) dL_law_1668 ⟨by rw [rm_c]; omega, by rw [rm_s]; omega⟩) hP hD hS hA is2 [] (sub_app hi2) rfl (by decide) (fun i hi => absurd hi List.not_mem_nil) (fun u2 H locs hP hD hS => ?_)
  refine lv_istore (lv' := [(7, .int r2), (6, .int K), (5, .int 0), (4, .ref qd), (3, .ref qo), (2, .ref qm), (1, .ref qx), (0, .ref b)]) hx hb dL_law_1671 hl (by decide) rfl (fun ls hl => ?_)
  refine lv_aload_n hx hb dL_law_1673 rfl (lv_at hl 5 rfl) ?_
  refine g_i (wr := []) (rV (rest := []) hx hb hml hown hE hP hD 0 rfl rfl (h_thrown l g qm fs2 T hT H.size) (kV_X10_thrown hE (e1412 hE) rfl rfl ⟨(Nat.le_of_ble_eq_true rfl), (Nat.le_of_ble_eq_true rfl)⟩) [0] rfl (by decide) rfl hl.1 rfl (lv_room (Nat.le_of_ble_eq_true rfl)) dL_law_1674 ⟨by rw [rm_c]; omega, by rw [rm_s]; omega⟩) hP hD hS hA [0] [] rfl rfl (by decide) (by decide) (fun u3 H locs hP hD hS => ?_)
  refine lv_iload hx hb dL_law_1677 (lv_at hl 1 rfl) ?_
  refine lv_icmp_eq (tgt := 1684) hx hb dL_law_1679 (by decide) (fun _ => ?_) (fun h => absurd hTK h)
  refine lv_iload hx hb dL_law_1684 (lv_at hl 1 rfl) ?_
  refine lv_if_ne (tgt := 1701) hx hb dL_law_1686 (by decide) (fun _ => ?_) (fun h => absurd h hK)
  refine lv_goto (tgt := 2958) hx hb dL_law_1701 (by decide) ?_
  exact lw_end C hS (lv_sub hl [2, 7] rfl) (by omega) (by omega)

set_option maxHeartbeats 4000000 in
set_option maxRecDepth 100000 in
theorem loK_timeOf1 (C : L0 p l s m meth c b 6 xs g) (hP : va_P g.1 vwCl (WL g qx u qm v qo qd) H) (hD : va_D (LA s) (WL g qx u qm v qo qd)) (hS : va_S (LA s) s.heap H locs) (hl : lv_has ls 9 [(5, .int 0), (4, .ref qd), (3, .ref qo), (2, .ref qm), (1, .ref qx), (0, .ref b)]) {a1 a2 : Int32} (x1 : xs 1 = a1) (x2 : xs 2 = a2) (hz9 : ¬ a2 = 0) {ws1 ws2 : va_W} {rm1 rm2 : Room} {mc1 ms1 mc2 ms2 : Nat} {fs2 : List Value} {po1 : (Nat → Nat) → va_W} {K T : Int32} (hK : ¬ K = 0) (hTK : T = K) {r2 : Int32} (hT : fs2[6]? = some (.int T)) (is1 : List Nat) (hi1 : is1.map (fun i => (WL g qx u qm v qo qd)[i]?) = ws1.map some) (hn1 : va_nd is1 = true) (hd1 : ∀ i ∈ [48, 49, 50, 51, 52, 53, 54, 55, 56, 57, 58, 59, 60, 61, 62, 63, 64, 65, 66, 67, 68, 69, 70, 71], i ∉ is1) (M1 : ∀ sz, Met l yL_timeOf [Cond.codeWith yL_timeOf cL_timeOf 5 (some .int) [(0, 10, 13, 15)]] rm1 (va_Pc [.ref qx, .int a1, .int 1, .ref qo] (PZ g sz ws1)) (QI g ws1 sz K po1) mc1 ms1 (va_A ws1 sz)) (hrc1 : rm1.cells = mc1) (hrs1 : rm1.slots = ms1) (hR1 : rm1.frames + 1 ≤ room_1.frames ∧ 8 + (5 + 11) + rm1.locals ≤ room_1.locals) (hc1 : mc1 ≤ 100000 ∧ ms1 ≤ 1000000) (is2 : List Nat) (hi2 : is2.map (fun i => (WM g qm v)[i]?) = ws2.map some) (hn2 : va_nd is2 = true) (hd2 : ∀ i ∈ is2, i < 24) (M2 : ∀ sz, Met l yX10_timeOf [Cond.code yX10_timeOf cX10_timeOf 3 (some .int)] rm2 (va_Pc [.ref qm, .int a1, .int 1] (PX g sz ws2)) (QI g ws2 sz r2 (fun _ => [(qm, .inr (12, fs2))])) mc2 ms2 (va_A ws2 sz)) (hrc2 : rm2.cells = mc2) (hrs2 : rm2.slots = ms2) (hR2 : rm2.frames + 1 ≤ room_1.frames ∧ 8 + (3 + 11) + rm2.locals ≤ room_1.locals) (hc2 : mc2 ≤ 100000 ∧ ms2 ≤ 1000000) : W p l e room_1 s m #[Value.ref b] below meth c H locs 146 20899 (lw_Z below #[Value.ref b] s) (F0 m 1620 ls []) := by
  have hx := C.hx
  have hb := C.hb
  have hml := C.hml
  have hown := C.hown
  have hE := C.hE
  have hz := C.hz
  have hA : ∀ q, s.heap.size ≤ q → LA s q := LA_new
  refine lv_aload_n hx hb dL_law_1620 rfl (lv_at hl 4 rfl) ?_
  refine lv_aload_n hx hb dL_law_1621 rfl (lv_at hl 5 rfl) ?_
  refine lv_iload hx hb dL_law_1622 (lv_at hl 0 rfl) ?_
  refine lv_iconst (v := 1) hx hb dL_law_1624 (by decide) ?_
  refine x_iadd (v := 1) hx hb dL_law_1625 (by decide) ?_
  refine x_sld (z := a1) hx hb C.hX C.hbl C.hbA hS (x_in (by decide)) (k := 1) (by decide) x1 dL_law_1626 ?_
  refine lv_aload_n hx hb dL_law_1627 rfl (lv_at hl 5 rfl) ?_
  refine lv_iload hx hb dL_law_1628 (lv_at hl 0 rfl) ?_
  refine lv_iconst (v := 2) hx hb dL_law_1630 (by decide) ?_
  refine x_iadd (v := 2) hx hb dL_law_1631 (by decide) ?_
  refine x_sld (z := a2) hx hb C.hX C.hbl C.hbA hS (x_in (by decide)) (k := 2) (by decide) x2 dL_law_1632 ?_
  refine lv_if_eq (tgt := 1640) hx hb dL_law_1633 (by decide) (fun h => absurd h hz9) (fun _ => ?_)
  refine lv_iconst (v := 1) hx hb dL_law_1636 (by decide) ?_
  refine lv_goto (tgt := 1641) hx hb dL_law_1637 (by decide) ?_
  refine lv_aload_n hx hb dL_law_1641 rfl (lv_at hl 2 rfl) ?_
  refine g_i (wr := WM g qm v) (rSW (rest := []) hx hb hml hown hE hP hD hS hA hz (M1 H.size) (kSW_L_timeOf hE (e959 hE) hrc1 hrs1 hR1) is1 hi1 hn1 rfl hl.1 rfl (lv_room (Nat.le_of_ble_eq_true rfl)) dL_law_1642 ⟨by rw [rm_c]; omega, by rw [rm_s]; omega⟩) hP hD hS hA is1 [48, 49, 50, 51, 52, 53, 54, 55, 56, 57, 58, 59, 60, 61, 62, 63, 64, 65, 66, 67, 68, 69, 70, 71] hi1 rfl (by decide) hd1 (fun u1 H locs hP hD hS => ?_)
  refine lv_istore (lv' := [(6, .int K), (5, .int 0), (4, .ref qd), (3, .ref qo), (2, .ref qm), (1, .ref qx), (0, .ref b)]) hx hb dL_law_1645 hl (by decide) rfl (fun ls hl => ?_)
  refine lv_aload_n hx hb dL_law_1647 rfl (lv_at hl 4 rfl) ?_
  refine lv_aload_n hx hb dL_law_1648 rfl (lv_at hl 6 rfl) ?_
  refine lv_iload hx hb dL_law_1649 (lv_at hl 1 rfl) ?_
  refine lv_iconst (v := 1) hx hb dL_law_1651 (by decide) ?_
  refine x_iadd (v := 1) hx hb dL_law_1652 (by decide) ?_
  refine x_sld (z := a1) hx hb C.hX C.hbl C.hbA hS (x_in (by decide)) (k := 1) (by decide) x1 dL_law_1653 ?_
  refine lv_aload_n hx hb dL_law_1654 rfl (lv_at hl 6 rfl) ?_
  refine lv_iload hx hb dL_law_1655 (lv_at hl 1 rfl) ?_
  refine lv_iconst (v := 2) hx hb dL_law_1657 (by decide) ?_
  refine x_iadd (v := 2) hx hb dL_law_1658 (by decide) ?_
  refine x_sld (z := a2) hx hb C.hX C.hbl C.hbA hS (x_in (by decide)) (k := 2) (by decide) x2 dL_law_1659 ?_
  refine lv_if_eq (tgt := 1667) hx hb dL_law_1660 (by decide) (fun h => absurd h hz9) (fun _ => ?_)
  refine lv_iconst (v := 1) hx hb dL_law_1663 (by decide) ?_
  refine lv_goto (tgt := 1668) hx hb dL_law_1664 (by decide) ?_
  refine g_i (wr := []) (rV (rest := []) hx hb hml hown hE hP hD 23 rfl rfl (M2 H.size) (kV_X10_timeOf hE (e1632 hE) hrc2 hrs2 hR2) is2 (sub_app hi2) hn2 rfl hl.1 rfl (lv_room (Nat.le_of_ble_eq_true rfl)) dL_law_1668 ⟨by rw [rm_c]; omega, by rw [rm_s]; omega⟩) hP hD hS hA is2 [] (sub_app hi2) rfl (by decide) (fun i hi => absurd hi List.not_mem_nil) (fun u2 H locs hP hD hS => ?_)
  refine lv_istore (lv' := [(7, .int r2), (6, .int K), (5, .int 0), (4, .ref qd), (3, .ref qo), (2, .ref qm), (1, .ref qx), (0, .ref b)]) hx hb dL_law_1671 hl (by decide) rfl (fun ls hl => ?_)
  refine lv_aload_n hx hb dL_law_1673 rfl (lv_at hl 5 rfl) ?_
  refine g_i (wr := []) (rV (rest := []) hx hb hml hown hE hP hD 0 rfl rfl (h_thrown l g qm fs2 T hT H.size) (kV_X10_thrown hE (e1412 hE) rfl rfl ⟨(Nat.le_of_ble_eq_true rfl), (Nat.le_of_ble_eq_true rfl)⟩) [0] rfl (by decide) rfl hl.1 rfl (lv_room (Nat.le_of_ble_eq_true rfl)) dL_law_1674 ⟨by rw [rm_c]; omega, by rw [rm_s]; omega⟩) hP hD hS hA [0] [] rfl rfl (by decide) (by decide) (fun u3 H locs hP hD hS => ?_)
  refine lv_iload hx hb dL_law_1677 (lv_at hl 1 rfl) ?_
  refine lv_icmp_eq (tgt := 1684) hx hb dL_law_1679 (by decide) (fun _ => ?_) (fun h => absurd hTK h)
  refine lv_iload hx hb dL_law_1684 (lv_at hl 1 rfl) ?_
  refine lv_if_ne (tgt := 1701) hx hb dL_law_1686 (by decide) (fun _ => ?_) (fun h => absurd h hK)
  refine lv_goto (tgt := 2958) hx hb dL_law_1701 (by decide) ?_
  exact lw_end C hS (lv_sub hl [2, 7] rfl) (by omega) (by omega)

set_option maxHeartbeats 4000000 in
set_option maxRecDepth 100000 in
theorem loK_undo (C : L0 p l s m meth c b 6 xs g) (hP : va_P g.1 vwCl (WL g qx u qm v qo qd) H) (hD : va_D (LA s) (WL g qx u qm v qo qd)) (hS : va_S (LA s) s.heap H locs) (hl : lv_has ls 9 [(5, .int 0), (4, .ref qd), (3, .ref qo), (2, .ref qm), (1, .ref qx), (0, .ref b)]) {ws1 ws2 : va_W} {rm1 rm2 : Room} {mc1 ms1 mc2 ms2 : Nat} {fs2 : List Value} {po1 : (Nat → Nat) → va_W} {K T : Int32} (hK : ¬ K = 0) (hTK : T = K) {r2 : Int32} (hT : fs2[6]? = some (.int T)) (is1 : List Nat) (hi1 : is1.map (fun i => (WL g qx u qm v qo qd)[i]?) = ws1.map some) (hn1 : va_nd is1 = true) (hd1 : ∀ i ∈ [48, 49, 50, 51, 52, 53, 54, 55, 56, 57, 58, 59, 60, 61, 62, 63, 64, 65, 66, 67, 68, 69, 70, 71], i ∉ is1) (M1 : ∀ sz, Met l yL_undo [Cond.codeWith yL_undo cL_undo 3 (some .int) [(0, 8, 11, 39)]] rm1 (va_Pc [.ref qx, .ref qo] (PZ g sz ws1)) (QI g ws1 sz K po1) mc1 ms1 (va_A ws1 sz)) (hrc1 : rm1.cells = mc1) (hrs1 : rm1.slots = ms1) (hR1 : rm1.frames + 1 ≤ room_1.frames ∧ 8 + (3 + 11) + rm1.locals ≤ room_1.locals) (hc1 : mc1 ≤ 100000 ∧ ms1 ≤ 1000000) (is2 : List Nat) (hi2 : is2.map (fun i => (WM g qm v)[i]?) = ws2.map some) (hn2 : va_nd is2 = true) (hd2 : ∀ i ∈ is2, i < 24) (M2 : ∀ sz, Met l yX10_undo [Cond.code yX10_undo cX10_undo 2 (some .int)] rm2 (va_Pc [.ref qm] (PX g sz ws2)) (QI g ws2 sz r2 (fun _ => [(qm, .inr (12, fs2))])) mc2 ms2 (va_A ws2 sz)) (hrc2 : rm2.cells = mc2) (hrs2 : rm2.slots = ms2) (hR2 : rm2.frames + 1 ≤ room_1.frames ∧ 8 + (2 + 11) + rm2.locals ≤ room_1.locals) (hc2 : mc2 ≤ 100000 ∧ ms2 ≤ 1000000) : W p l e room_1 s m #[Value.ref b] below meth c H locs 146 20899 (lw_Z below #[Value.ref b] s) (F0 m 2857 ls []) := by
  have hx := C.hx
  have hb := C.hb
  have hml := C.hml
  have hown := C.hown
  have hE := C.hE
  have hz := C.hz
  have hA : ∀ q, s.heap.size ≤ q → LA s q := LA_new
  refine lv_aload_n hx hb dL_law_2857 rfl (lv_at hl 4 rfl) ?_
  refine lv_aload_n hx hb dL_law_2858 rfl (lv_at hl 2 rfl) ?_
  refine g_i (wr := WM g qm v) (rSW (rest := []) hx hb hml hown hE hP hD hS hA hz (M1 H.size) (kSW_L_undo hE (e1266 hE) hrc1 hrs1 hR1) is1 hi1 hn1 rfl hl.1 rfl (lv_room (Nat.le_of_ble_eq_true rfl)) dL_law_2859 ⟨by rw [rm_c]; omega, by rw [rm_s]; omega⟩) hP hD hS hA is1 [48, 49, 50, 51, 52, 53, 54, 55, 56, 57, 58, 59, 60, 61, 62, 63, 64, 65, 66, 67, 68, 69, 70, 71] hi1 rfl (by decide) hd1 (fun u1 H locs hP hD hS => ?_)
  refine lv_istore (lv' := [(6, .int K), (5, .int 0), (4, .ref qd), (3, .ref qo), (2, .ref qm), (1, .ref qx), (0, .ref b)]) hx hb dL_law_2862 hl (by decide) rfl (fun ls hl => ?_)
  refine lv_aload_n hx hb dL_law_2864 rfl (lv_at hl 4 rfl) ?_
  refine g_i (wr := []) (rV (rest := []) hx hb hml hown hE hP hD 23 rfl rfl (M2 H.size) (kV_X10_undo hE (e1772 hE) hrc2 hrs2 hR2) is2 (sub_app hi2) hn2 rfl hl.1 rfl (lv_room (Nat.le_of_ble_eq_true rfl)) dL_law_2865 ⟨by rw [rm_c]; omega, by rw [rm_s]; omega⟩) hP hD hS hA is2 [] (sub_app hi2) rfl (by decide) (fun i hi => absurd hi List.not_mem_nil) (fun u2 H locs hP hD hS => ?_)
  refine lv_istore (lv' := [(7, .int r2), (6, .int K), (5, .int 0), (4, .ref qd), (3, .ref qo), (2, .ref qm), (1, .ref qx), (0, .ref b)]) hx hb dL_law_2868 hl (by decide) rfl (fun ls hl => ?_)
  refine lv_aload_n hx hb dL_law_2870 rfl (lv_at hl 5 rfl) ?_
  refine g_i (wr := []) (rV (rest := []) hx hb hml hown hE hP hD 0 rfl rfl (h_thrown l g qm fs2 T hT H.size) (kV_X10_thrown hE (e1412 hE) rfl rfl ⟨(Nat.le_of_ble_eq_true rfl), (Nat.le_of_ble_eq_true rfl)⟩) [0] rfl (by decide) rfl hl.1 rfl (lv_room (Nat.le_of_ble_eq_true rfl)) dL_law_2871 ⟨by rw [rm_c]; omega, by rw [rm_s]; omega⟩) hP hD hS hA [0] [] rfl rfl (by decide) (by decide) (fun u3 H locs hP hD hS => ?_)
  refine lv_iload hx hb dL_law_2874 (lv_at hl 1 rfl) ?_
  refine lv_icmp_eq (tgt := 2881) hx hb dL_law_2876 (by decide) (fun _ => ?_) (fun h => absurd hTK h)
  refine lv_iload hx hb dL_law_2881 (lv_at hl 1 rfl) ?_
  refine lv_if_ne (tgt := 2898) hx hb dL_law_2883 (by decide) (fun _ => ?_) (fun h => absurd h hK)
  refine lv_goto (tgt := 2958) hx hb dL_law_2898 (by decide) ?_
  exact lw_end C hS (lv_sub hl [2, 7] rfl) (by omega) (by omega)

end LAW9
