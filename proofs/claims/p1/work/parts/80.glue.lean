theorem sub_app {W0 X w1 : va_W} {is : List Nat} (h : is.map (fun i => W0[i]?) = w1.map some) : is.map (fun i => (W0 ++ X)[i]?) = w1.map some := by
  rw [← h]
  refine List.map_congr_left (fun i hi => ?_)
  have h1 : W0[i]? ∈ w1.map some := by rw [← h]; exact List.mem_map.mpr ⟨i, hi, rfl⟩
  obtain ⟨z, -, hz⟩ := List.mem_map.mp h1
  have h2 : i < W0.length := (List.getElem?_eq_some_iff.mp hz.symm).1
  rw [List.getElem?_append_left h2]
theorem rm_c : room_1.cells = 600006 := rfl
theorem rm_s : room_1.slots = 7302016 := rfl
theorem i_split {x k k1 : Int32} (e : k1.toInt = k.toInt + 1) (h : k ≤ x) : x = k ∨ k1 ≤ x := by
  have h1 := Int32.le_iff_toInt_le.mp h
  by_cases hq : x.toInt = k.toInt
  · exact Or.inl (Int32.toInt_inj.mp hq)
  · exact Or.inr (Int32.le_iff_toInt_le.mpr (by omega))
def LA (s : State) : Nat → Prop := fun q => s.heap.size ≤ q
structure L0 (p : Program) (l : Launch) (s : State) (m : MethodId) (meth : Method) (c : Code) (b N : Nat) (xs : Nat → Int32) (g : gG) : Prop where
  hx : p.tables.exec = Jvm.exec
  hb : c.code = cL_law
  hr : meth.sig.returnType = ret
  hml : c.maxLocals = 9
  hown : s.vm.findClass RL = some m.cls
  hX : va_X b N xs s s.heap
  hbl : b < s.heap.size
  hlocks : meth.locks = false
  hE : EV g s
  hz : ZZ (LA s) s s.heap
  hlx : l.stackTraces = false

def WL (g : gG) (qx : Nat) (u : Nat → Nat) (qm : Nat) (v : Nat → Nat) (qo qd : Nat) : va_W := [(qx, .inr (11, [.ref (u 0), .ref (u 92), .ref (u 101), .ref (u 109), .ref (u 113), .ref (u 115), .ref (u 117), .int 0, .int 0, .int 0, .int (-1)])), ((u 0), .inr (10, [.ref (u 1), .int 0, .int 0])), ((u 1), .inl (g.2 3, 10, .inr (.inr (.inr (.inr (va_up (va_up (va_up (va_up (va_up (va_up (va_up (va_up (va_up (va_up (fun _ => none) 0 (some (u 2))) 1 (some (u 11))) 2 (some (u 20))) 3 (some (u 29))) 4 (some (u 38))) 5 (some (u 47))) 6 (some (u 56))) 7 (some (u 65))) 8 (some (u 74))) 9 (some (u 83)))))))), ((u 4), .inl (g.2 0, 384, .inl (fun _ => 0))), ((u 9), .inl (g.2 0, 60, .inl (fun _ => 0))), ((u 5), .inl (g.2 0, 40, .inl (upd (upd (upd (upd (upd (upd (upd (upd (fillF 40 0 (fun _ => 0)) 4 1) 9 1) 14 1) 19 1) 24 1) 29 1) 34 1) 39 1))), ((u 3), .inr (5, [.ref (u 4), .ref (u 5)])), ((u 8), .inl (g.2 0, 10, .inl (upd (fun _ => 0) 0 100))), ((u 7), .inl (g.2 0, 10, .inl (fun _ => 0))), ((u 6), .inr (9, [.ref (u 7), .ref (u 8), .int 1, .int 0])), ((u 2), .inr (8, [.ref (u 3), .ref (u 6), .ref (u 9), .ref (u 10), .int 0, .int 4, .int 0])), ((u 10), .inl (g.2 0, 20, .inl (upd (upd (upd (upd (upd (upd (upd (upd (fun _ => 0) 2 100) 4 5) 7 100) 9 5) 12 100) 14 5) 17 100) 19 5))), ((u 13), .inl (g.2 0, 384, .inl (fun _ => 0))), ((u 18), .inl (g.2 0, 60, .inl (fun _ => 0))), ((u 14), .inl (g.2 0, 40, .inl (upd (upd (upd (upd (upd (upd (upd (upd (fillF 40 0 (fun _ => 0)) 4 1) 9 1) 14 1) 19 1) 24 1) 29 1) 34 1) 39 1))), ((u 12), .inr (5, [.ref (u 13), .ref (u 14)])), ((u 17), .inl (g.2 0, 10, .inl (upd (fun _ => 0) 0 100))), ((u 16), .inl (g.2 0, 10, .inl (fun _ => 0))), ((u 15), .inr (9, [.ref (u 16), .ref (u 17), .int 1, .int 0])), ((u 11), .inr (8, [.ref (u 12), .ref (u 15), .ref (u 18), .ref (u 19), .int 0, .int 4, .int 0])), ((u 19), .inl (g.2 0, 20, .inl (upd (upd (upd (upd (upd (upd (upd (upd (fun _ => 0) 2 100) 4 5) 7 100) 9 5) 12 100) 14 5) 17 100) 19 5))), ((u 94), .inl (g.2 0, 384, .inl (fun _ => 0))), ((u 99), .inl (g.2 0, 60, .inl (fun _ => 0))), ((u 95), .inl (g.2 0, 40, .inl (upd (upd (upd (upd (upd (upd (upd (upd (fillF 40 0 (fun _ => 0)) 4 1) 9 1) 14 1) 19 1) 24 1) 29 1) 34 1) 39 1))), ((u 93), .inr (5, [.ref (u 94), .ref (u 95)])), ((u 98), .inl (g.2 0, 10, .inl (upd (fun _ => 0) 0 100))), ((u 97), .inl (g.2 0, 10, .inl (fun _ => 0))), ((u 96), .inr (9, [.ref (u 97), .ref (u 98), .int 1, .int 0])), ((u 92), .inr (8, [.ref (u 93), .ref (u 96), .ref (u 99), .ref (u 100), .int 0, .int 4, .int 0])), ((u 100), .inl (g.2 0, 20, .inl (upd (upd (upd (upd (upd (upd (upd (upd (fun _ => 0) 2 100) 4 5) 7 100) 9 5) 12 100) 14 5) 17 100) 19 5))), ((u 101), .inr (7, [.ref (u 102), .ref (u 103), .ref (u 104), .ref (u 105), .ref (u 106), .ref (u 107), .int 0, .int 0, .int 0, .int 0])), ((u 102), .inl (g.2 0, 2700, .inl (fun _ => 0))), ((u 103), .inl (g.2 0, 300, .inl (fun _ => 0))), ((u 104), .inl (g.2 0, 300, .inl (fun _ => 0))), ((u 105), .inl (g.2 0, 8, .inl (fun _ => 0))), ((u 106), .inl (g.2 1, 300, .inr (.inl (fun _ => 0)))), ((u 107), .inr (3, [.ref (u 108)])), ((u 108), .inl (g.2 1, 300, .inr (.inl (fun _ => 0)))), ((u 109), .inr (2, [.ref (u 110), .ref (u 111), .int 0])), ((u 110), .inl (g.2 1, 600, .inr (.inl (fun _ => 0)))), ((u 111), .inr (3, [.ref (u 112)])), ((u 112), .inl (g.2 1, 600, .inr (.inl (fun _ => 0)))), ((u 113), .inr (4, [.ref (u 114), .int 0])), ((u 114), .inl (g.2 2, 60, .inl (fun _ => 0))), ((u 115), .inr (4, [.ref (u 116), .int 0])), ((u 116), .inl (g.2 2, 128, .inl (fun _ => 0))), ((u 117), .inr (6, [.ref (u 118), .int 0, .int 0])), ((u 118), .inl (g.2 0, 84, .inl (fun _ => 0))), ((v 1), .inl (g.2 0, 497, .inl (fun _ => 0))), ((v 2), .inl (g.2 0, 497, .inl (fun _ => 0))), ((v 3), .inl (g.2 0, 3976, .inl (fun _ => 0))), ((v 4), .inl (g.2 0, 8, .inl (fun _ => 0))), ((v 5), .inl (g.2 0, 8, .inl (fun _ => 0))), ((v 6), .inl (g.2 0, 8, .inl (fun _ => 0))), ((v 7), .inl (g.2 0, 8, .inl (fun _ => 0))), ((v 8), .inl (g.2 0, 300, .inl (fun _ => 0))), ((v 9), .inl (g.2 0, 300, .inl (fun _ => 0))), ((v 10), .inl (g.2 0, 300, .inl (fun _ => 0))), ((v 11), .inl (g.2 0, 300, .inl (fun _ => 0))), ((v 12), .inl (g.2 0, 300, .inl (fun _ => 0))), ((v 13), .inl (g.2 0, 300, .inl (fun _ => 0))), ((v 14), .inl (g.2 0, 300, .inl (fun _ => 0))), ((v 15), .inl (g.2 0, 300, .inl (fun _ => 0))), ((v 16), .inl (g.2 0, 300, .inl (fun _ => 0))), ((v 17), .inl (g.2 0, 300, .inl (fun _ => 0))), ((v 18), .inl (g.2 0, 8, .inl (fun _ => 0))), ((v 19), .inl (g.2 0, 600, .inl (fun _ => 0))), ((v 20), .inl (g.2 0, 60, .inl (fun _ => 0))), ((v 21), .inl (g.2 0, 240, .inl (fun _ => 0))), ((v 22), .inl (g.2 0, 120, .inl (fun _ => 0))), ((v 0), .inl (g.2 0, 497, .inl (upd (upd (upd (upd (upd (upd (upd (upd (upd (upd (upd (fillF 497 0 (fun _ => 0)) 453 1) 455 100) 476 100) 478 5) 481 100) 483 5) 486 100) 488 5) 491 100) 493 5) 495 4))), (qm, .inr (12, [.ref (v 0), .ref (v 1), .ref (v 2), .int 0, .ref (v 3), .int 0, .int 0, .ref (v 4), .ref (v 5), .ref (v 6), .ref (v 7), .int 0, .int 0, .int 0, .int 0, .ref (v 8), .ref (v 9), .ref (v 10), .ref (v 11), .ref (v 12), .ref (v 13), .ref (v 14), .ref (v 15), .ref (v 16), .ref (v 17), .ref (v 18), .int 0, .ref (v 19), .int 0, .ref (v 20), .int 0, .int 0, .int (-1), .int 0, .ref (v 21), .int 0, .ref (v 22)])), (qo, .inl (g.2 1, 1, .inr (.inl (fun _ => 0)))), (qd, .inl (g.2 4, 1, .inr (.inr (.inr (.inl (fun _ => 0))))))]
def WM (g : gG) (qm : Nat) (v : Nat → Nat) : va_W := [((v 1), .inl (g.2 0, 497, .inl (fun _ => 0))), ((v 2), .inl (g.2 0, 497, .inl (fun _ => 0))), ((v 3), .inl (g.2 0, 3976, .inl (fun _ => 0))), ((v 4), .inl (g.2 0, 8, .inl (fun _ => 0))), ((v 5), .inl (g.2 0, 8, .inl (fun _ => 0))), ((v 6), .inl (g.2 0, 8, .inl (fun _ => 0))), ((v 7), .inl (g.2 0, 8, .inl (fun _ => 0))), ((v 8), .inl (g.2 0, 300, .inl (fun _ => 0))), ((v 9), .inl (g.2 0, 300, .inl (fun _ => 0))), ((v 10), .inl (g.2 0, 300, .inl (fun _ => 0))), ((v 11), .inl (g.2 0, 300, .inl (fun _ => 0))), ((v 12), .inl (g.2 0, 300, .inl (fun _ => 0))), ((v 13), .inl (g.2 0, 300, .inl (fun _ => 0))), ((v 14), .inl (g.2 0, 300, .inl (fun _ => 0))), ((v 15), .inl (g.2 0, 300, .inl (fun _ => 0))), ((v 16), .inl (g.2 0, 300, .inl (fun _ => 0))), ((v 17), .inl (g.2 0, 300, .inl (fun _ => 0))), ((v 18), .inl (g.2 0, 8, .inl (fun _ => 0))), ((v 19), .inl (g.2 0, 600, .inl (fun _ => 0))), ((v 20), .inl (g.2 0, 60, .inl (fun _ => 0))), ((v 21), .inl (g.2 0, 240, .inl (fun _ => 0))), ((v 22), .inl (g.2 0, 120, .inl (fun _ => 0))), ((v 0), .inl (g.2 0, 497, .inl (upd (upd (upd (upd (upd (upd (upd (upd (upd (upd (upd (fillF 497 0 (fun _ => 0)) 453 1) 455 100) 476 100) 478 5) 481 100) 483 5) 486 100) 488 5) 491 100) 493 5) 495 4))), (qm, .inr (12, [.ref (v 0), .ref (v 1), .ref (v 2), .int 0, .ref (v 3), .int 0, .int 0, .ref (v 4), .ref (v 5), .ref (v 6), .ref (v 7), .int 0, .int 0, .int 0, .int 0, .ref (v 8), .ref (v 9), .ref (v 10), .ref (v 11), .ref (v 12), .ref (v 13), .ref (v 14), .ref (v 15), .ref (v 16), .ref (v 17), .ref (v 18), .int 0, .ref (v 19), .int 0, .ref (v 20), .int 0, .int 0, .int (-1), .int 0, .ref (v 21), .int 0, .ref (v 22)]))]
theorem h_thrown (l : Launch) (g : gG) (qm : Nat) (fs : List Value) (T : Int32) (hT : fs[6]? = some (.int T)) (sz : Nat) : Met l yX10_thrown [Cond.code yX10_thrown cX10_thrown 1 (some .int)] ({ frames := 0, cells := 0, slots := 0, locals := 0 } : Room) (va_Pc [.ref qm] (PX g sz [(qm, .inr (12, fs))])) (QI g [(qm, .inr (12, fs))] sz T (fun _ => [(qm, .inr (12, fs))])) 0 0 (va_A [(qm, .inr (12, fs))] sz) := by
  refine ofN (by decide) (Nat.le_of_ble_eq_true rfl) rfl ?_
  intro p e s m args below meth c A ls hAe hsz hx hb hml hr hlocks hin hown hE hP hD hA hS hl
  have hown : s.vm.findClass RX10 = some m.cls := hown
  refine lv_aload_n hx hb dX10_thrown_0 rfl (lv_at hl 0 rfl) ?_
  refine gf_RX10_86 hx hb hown hE hP 0 rfl hT dX10_thrown_1 ?_
  exact x_zret hx hb hr rfl rfl hlocks hP hD hS hAe hsz (Nat.le_of_ble_eq_true rfl) (Nat.le_of_ble_eq_true rfl) (fun _ => 0) [0] (by decide) rfl dX10_thrown_4

section LAW9
variable {p : Program} {l : Launch} {e : Env} {s : State} {m : MethodId} {below : List Frame} {meth : Method} {c : Code} {g : gG} {H : Heap} {locs : List Loc} {ls : Array Slot} {cells slots b qx qm qo qd : Nat} {u v : Nat → Nat} {xs : Nat → Int32}
theorem L0.hbA {N : Nat} (C : L0 p l s m meth c b N xs g) : ¬ LA s b := Nat.not_le.mpr C.hbl
theorem LA_new : ∀ q, s.heap.size ≤ q → LA s q := fun _ h => h
theorem x_lcmp {Q : State → Prop} {R : Room} {args : Array Value} {cc : ByteArray} {pc : Nat} {rest : List Value} (hx : p.tables.exec = Jvm.exec) (hb : c.code = cc) {x : Int64} (hdg : decode cc pc = .ok (.lcmp, 1)) (k : W p l e R s m args below meth c H locs cells slots Q (F0 m (pc + 1) ls (.int 0 :: rest))) : W p l e R s m args below meth c H locs cells slots Q (F0 m pc ls (.long x :: .long x :: rest)) := by
  intro T hT X
  obtain ⟨t, a, b⟩ := k T hT X
  refine ⟨t, ?_, b⟩
  have h1 : ¬ (x > x) := Int64.lt_irrefl x
  jvm_step X.here [X.here.top, hx, hb, hdg, h1]
  exact a
theorem x_sld {Q : State → Prop} {R : Room} {args : Array Value} {cc : ByteArray} {pc N : Nat} {rest : List Value} {A : Nat → Prop} (hx : p.tables.exec = Jvm.exec) (hb : c.code = cc) (hX : va_X b N xs s s.heap) (hbl : b < s.heap.size) (hbA : ¬ A b) (hS : va_S A s.heap H locs) {i : Int32} (hin : vp_in i N) {k : Nat} (hk : i.toNatClampNeg = k) {z : Int32} (hz : xs k = z) (hdg : decode cc pc = .ok (.iaload, 1)) (kk : W p l e R s m args below meth c H locs cells slots Q (F0 m (pc + 1) ls (.int z :: rest))) : W p l e R s m args below meth c H locs cells slots Q (F0 m pc ls (.int i :: .ref b :: rest)) := by
  subst hk
  subst hz
  exact va_sld hx hb hX hbl hbA hS hin hdg kk

set_option maxRecDepth 100000 in
theorem lw_fin {N : Nat} (C : L0 p l s m meth c b N xs g) (hS : va_S (LA s) s.heap H locs) (hc : cells ≤ 600006) (hs : slots ≤ 7302016) : W p l e room_1 s m #[Value.ref b] below meth c H locs cells slots (lw_Z below #[Value.ref b] s) (F0 m 2964 ls []) := by
  have hx := C.hx
  have hb := C.hb
  refine lv_iconst (v := 1) hx hb dL_law_2964 (by decide) ?_
  refine va_forget (fun q hq => hS.2.2 q hq) ?_
  refine W.widen (k := 600006) (n := 7302016) hc hs ?_
  exact lw_ret (d0 := s.drawn) (Drawn.sameBut.refl s.drawn lw_cs) hx hb C.hr C.hlocks dL_law_2965
set_option maxRecDepth 100000 in
theorem lw_end (C : L0 p l s m meth c b 6 xs g) (hS : va_S (LA s) s.heap H locs) (hl : lv_has ls 9 [(5, .int 0), (0, .ref b)]) (hc : cells ≤ 600006) (hs : slots ≤ 7302016) : W p l e room_1 s m #[Value.ref b] below meth c H locs cells slots (lw_Z below #[Value.ref b] s) (F0 m 2958 ls []) := by
  have hx := C.hx
  have hb := C.hb
  refine lv_iinc (v := 6) (lv' := [(5, .int 6), (0, .ref b)]) hx hb dL_law_2958 hl (k := 0) rfl (by decide) (by decide) rfl (fun ls hl => ?_)
  refine lv_goto (tgt := 28) hx hb dL_law_2961 (by decide) ?_
  refine lv_iload hx hb dL_law_28 (lv_at hl 0 rfl) ?_
  refine lv_aload_n hx hb dL_law_30 rfl (lv_at hl 1 rfl) ?_
  refine va_slen hx hb C.hX C.hbl C.hbA hS dL_law_31 ?_
  refine lv_bipush (v := 6) hx hb dL_law_32 (by decide) ?_
  refine x_isub (v := 0) hx hb dL_law_34 (by decide) ?_
  refine lv_icmp_gt (tgt := 2964) hx hb dL_law_35 (by decide) (fun _ => ?_) (fun h => absurd (by decide) h)
  exact lw_fin C hS hc hs
theorem lw_sh {N : Nat} (h : N < 6) : Int32.ofNat N - 6 < 0 := by
  rcases (show N = 0 ∨ N = 1 ∨ N = 2 ∨ N = 3 ∨ N = 4 ∨ N = 5 by omega) with rfl | rfl | rfl | rfl | rfl | rfl <;> decide
set_option maxHeartbeats 4000000 in
set_option maxRecDepth 100000 in
theorem lo0_append (C : L0 p l s m meth c b 6 xs g) (hP : va_P g.1 vwCl (WL g qx u qm v qo qd) H) (hD : va_D (LA s) (WL g qx u qm v qo qd)) (hS : va_S (LA s) s.heap H locs) (hl : lv_has ls 9 [(5, .int 0), (4, .ref qd), (3, .ref qo), (2, .ref qm), (1, .ref qx), (0, .ref b)]) {a1 : Int32} {ch : Int32} (x1 : xs 1 = a1) (hch : i_chr a1 = ch) {ws1 ws2 : va_W} {rm1 rm2 : Room} {mc1 ms1 mc2 ms2 : Nat} {fs2 : List Value} {f : Nat → Int64} {r2 T : Int32} {B : Int64} (hTK : T = 0) (hB : f 0 = B) (hrB : r2.toInt64 = B) (hT : fs2[6]? = some (.int T)) (is1 : List Nat) (hi1 : is1.map (fun i => (WL g qx u qm v qo qd)[i]?) = ws1.map some) (hn1 : va_nd is1 = true) (hd1 : ∀ i ∈ [48, 49, 50, 51, 52, 53, 54, 55, 56, 57, 58, 59, 60, 61, 62, 63, 64, 65, 66, 67, 68, 69, 70, 71], i ∉ is1) (M1 : ∀ sz, Met l yL_append [Cond.codeWith yL_append cL_append 4 (some .int) [(0, 9, 12, 15), (0, 9, 15, 17)]] rm1 (va_Pc [.ref qx, .int ch, .ref qo] (PZ g sz ws1)) (QI g ws1 sz 0 (fun _ => [(qo, .inl (g.2 1, 1, .inr (.inl f)))])) mc1 ms1 (va_A ws1 sz)) (hrc1 : rm1.cells = mc1) (hrs1 : rm1.slots = ms1) (hR1 : rm1.frames + 1 ≤ room_1.frames ∧ 8 + (4 + 11) + rm1.locals ≤ room_1.locals) (hc1 : mc1 ≤ 100000 ∧ ms1 ≤ 1000000) (is2 : List Nat) (hi2 : is2.map (fun i => (WM g qm v)[i]?) = ws2.map some) (hn2 : va_nd is2 = true) (hd2 : ∀ i ∈ is2, i < 24) (M2 : ∀ sz, Met l yX10_append [Cond.code yX10_append cX10_append 2 (some .int)] rm2 (va_Pc [.ref qm, .int ch] (PX g sz ws2)) (QI g ws2 sz r2 (fun _ => [(qm, .inr (12, fs2))])) mc2 ms2 (va_A ws2 sz)) (hrc2 : rm2.cells = mc2) (hrs2 : rm2.slots = ms2) (hR2 : rm2.frames + 1 ≤ room_1.frames ∧ 8 + (2 + 11) + rm2.locals ≤ room_1.locals) (hc2 : mc2 ≤ 100000 ∧ ms2 ≤ 1000000) : W p l e room_1 s m #[Value.ref b] below meth c H locs 146 20899 (lw_Z below #[Value.ref b] s) (F0 m 2631 ls []) := by
  have hx := C.hx
  have hb := C.hb
  have hml := C.hml
  have hown := C.hown
  have hE := C.hE
  have hz := C.hz
  have hA : ∀ q, s.heap.size ≤ q → LA s q := LA_new
  refine lv_aload_n hx hb dL_law_2631 rfl (lv_at hl 4 rfl) ?_
  refine lv_aload_n hx hb dL_law_2632 rfl (lv_at hl 5 rfl) ?_
  refine lv_iload hx hb dL_law_2633 (lv_at hl 0 rfl) ?_
  refine lv_iconst (v := 1) hx hb dL_law_2635 (by decide) ?_
  refine x_iadd (v := 1) hx hb dL_law_2636 (by decide) ?_
  refine x_sld (z := a1) hx hb C.hX C.hbl C.hbA hS (x_in (by decide)) (k := 1) (by decide) x1 dL_law_2637 ?_
  refine lv_i2c (v := i_chr a1) hx hb dL_law_2638 rfl ?_
  refine x_top (v := ch) hch ?_
  refine lv_aload_n hx hb dL_law_2639 rfl (lv_at hl 2 rfl) ?_
  refine g_i (wr := WM g qm v) (rSW (rest := []) hx hb hml hown hE hP hD hS hA hz (M1 H.size) (kSW_L_append hE (e1150 hE) hrc1 hrs1 hR1) is1 hi1 hn1 rfl hl.1 rfl (lv_room (Nat.le_of_ble_eq_true rfl)) dL_law_2640 ⟨by rw [rm_c]; omega, by rw [rm_s]; omega⟩) hP hD hS hA is1 [48, 49, 50, 51, 52, 53, 54, 55, 56, 57, 58, 59, 60, 61, 62, 63, 64, 65, 66, 67, 68, 69, 70, 71] hi1 rfl (by decide) hd1 (fun u1 H locs hP hD hS => ?_)
  refine lv_istore (lv' := [(6, .int 0), (5, .int 0), (4, .ref qd), (3, .ref qo), (2, .ref qm), (1, .ref qx), (0, .ref b)]) hx hb dL_law_2643 hl (by decide) rfl (fun ls hl => ?_)
  refine lv_aload_n hx hb dL_law_2645 rfl (lv_at hl 4 rfl) ?_
  refine lv_aload_n hx hb dL_law_2646 rfl (lv_at hl 6 rfl) ?_
  refine lv_iload hx hb dL_law_2647 (lv_at hl 1 rfl) ?_
  refine lv_iconst (v := 1) hx hb dL_law_2649 (by decide) ?_
  refine x_iadd (v := 1) hx hb dL_law_2650 (by decide) ?_
  refine x_sld (z := a1) hx hb C.hX C.hbl C.hbA hS (x_in (by decide)) (k := 1) (by decide) x1 dL_law_2651 ?_
  refine lv_i2c (v := i_chr a1) hx hb dL_law_2652 rfl ?_
  refine x_top (v := ch) hch ?_
  refine g_i (wr := [(qo, .inl (g.2 1, 1, .inr (.inl f)))]) (rV (rest := []) hx hb hml hown hE hP hD 23 rfl rfl (M2 H.size) (kV_X10_append hE (e1724 hE) hrc2 hrs2 hR2) is2 (sub_app hi2) hn2 rfl hl.1 rfl (lv_room (Nat.le_of_ble_eq_true rfl)) dL_law_2653 ⟨by rw [rm_c]; omega, by rw [rm_s]; omega⟩) hP hD hS hA is2 [24] (sub_app hi2) rfl (by decide) (fun i hi h => absurd (hd2 i h) (by rw [List.mem_singleton.mp hi]; decide)) (fun u2 H locs hP hD hS => ?_)
  refine lv_istore (lv' := [(7, .int r2), (6, .int 0), (5, .int 0), (4, .ref qd), (3, .ref qo), (2, .ref qm), (1, .ref qx), (0, .ref b)]) hx hb dL_law_2656 hl (by decide) rfl (fun ls hl => ?_)
  refine lv_aload_n hx hb dL_law_2658 rfl (lv_at hl 5 rfl) ?_
  refine g_i (wr := [(qo, .inl (g.2 1, 1, .inr (.inl f)))]) (rV (rest := []) hx hb hml hown hE hP hD 1 rfl rfl (h_thrown l g qm fs2 T hT H.size) (kV_X10_thrown hE (e1412 hE) rfl rfl ⟨(Nat.le_of_ble_eq_true rfl), (Nat.le_of_ble_eq_true rfl)⟩) [1] rfl (by decide) rfl hl.1 rfl (lv_room (Nat.le_of_ble_eq_true rfl)) dL_law_2659 ⟨by rw [rm_c]; omega, by rw [rm_s]; omega⟩) hP hD hS hA [1] [0] rfl rfl (by decide) (by decide) (fun u3 H locs hP hD hS => ?_)
  refine lv_iload hx hb dL_law_2662 (lv_at hl 1 rfl) ?_
  refine lv_icmp_eq (tgt := 2669) hx hb dL_law_2664 (by decide) (fun _ => ?_) (fun h => absurd hTK h)
  refine lv_iload hx hb dL_law_2669 (lv_at hl 1 rfl) ?_
  refine lv_if_ne (tgt := 2686) hx hb dL_law_2671 (by decide) (fun h => absurd h (by decide)) (fun _ => ?_)
  refine lv_aload_n hx hb dL_law_2674 rfl (lv_at hl 4 rfl) ?_
  refine lv_iconst (v := 0) hx hb dL_law_2675 (by decide) ?_
  refine x_lald (v := B) hx hb hE hP 0 rfl 0 (x_in (by decide)) (by decide) hB dL_law_2676 ?_
  refine lv_iload hx hb dL_law_2677 (lv_at hl 0 rfl) ?_
  refine lv_i2l (v := B) hx hb dL_law_2679 hrB ?_
  refine x_lcmp hx hb dL_law_2680 ?_
  refine lv_if_eq (tgt := 2686) hx hb dL_law_2681 (by decide) (fun _ => ?_) (fun h => absurd rfl h)
  refine lv_goto (tgt := 2958) hx hb dL_law_2686 (by decide) ?_
  exact lw_end C hS (lv_sub hl [2, 7] rfl) (by omega) (by omega)

set_option maxHeartbeats 4000000 in
set_option maxRecDepth 100000 in
theorem lo0_setSwing (C : L0 p l s m meth c b 6 xs g) (hP : va_P g.1 vwCl (WL g qx u qm v qo qd) H) (hD : va_D (LA s) (WL g qx u qm v qo qd)) (hS : va_S (LA s) s.heap H locs) (hl : lv_has ls 9 [(5, .int 0), (4, .ref qd), (3, .ref qo), (2, .ref qm), (1, .ref qx), (0, .ref b)]) {a1 : Int32} (x1 : xs 1 = a1) {ws1 ws2 : va_W} {rm1 rm2 : Room} {mc1 ms1 mc2 ms2 : Nat} {fs2 : List Value} {f : Nat → Int64} {r2 T : Int32} {B : Int64} (hTK : T = 0) (hB : f 0 = B) (hrB : r2.toInt64 = B) (hT : fs2[6]? = some (.int T)) (is1 : List Nat) (hi1 : is1.map (fun i => (WL g qx u qm v qo qd)[i]?) = ws1.map some) (hn1 : va_nd is1 = true) (hd1 : ∀ i ∈ [48, 49, 50, 51, 52, 53, 54, 55, 56, 57, 58, 59, 60, 61, 62, 63, 64, 65, 66, 67, 68, 69, 70, 71], i ∉ is1) (M1 : ∀ sz, Met l yL_setSwing [Cond.codeWith yL_setSwing cL_setSwing 4 (some .int) [(0, 9, 12, 15)]] rm1 (va_Pc [.ref qx, .int a1, .ref qo] (PZ g sz ws1)) (QI g ws1 sz 0 (fun _ => [(qo, .inl (g.2 1, 1, .inr (.inl f)))])) mc1 ms1 (va_A ws1 sz)) (hrc1 : rm1.cells = mc1) (hrs1 : rm1.slots = ms1) (hR1 : rm1.frames + 1 ≤ room_1.frames ∧ 8 + (4 + 11) + rm1.locals ≤ room_1.locals) (hc1 : mc1 ≤ 100000 ∧ ms1 ≤ 1000000) (is2 : List Nat) (hi2 : is2.map (fun i => (WM g qm v)[i]?) = ws2.map some) (hn2 : va_nd is2 = true) (hd2 : ∀ i ∈ is2, i < 24) (M2 : ∀ sz, Met l yX10_setSwing [Cond.code yX10_setSwing cX10_setSwing 2 (some .int)] rm2 (va_Pc [.ref qm, .int a1] (PX g sz ws2)) (QI g ws2 sz r2 (fun _ => [(qm, .inr (12, fs2))])) mc2 ms2 (va_A ws2 sz)) (hrc2 : rm2.cells = mc2) (hrs2 : rm2.slots = ms2) (hR2 : rm2.frames + 1 ≤ room_1.frames ∧ 8 + (2 + 11) + rm2.locals ≤ room_1.locals) (hc2 : mc2 ≤ 100000 ∧ ms2 ≤ 1000000) : W p l e room_1 s m #[Value.ref b] below meth c H locs 146 20899 (lw_Z below #[Value.ref b] s) (F0 m 1564 ls []) := by
  have hx := C.hx
  have hb := C.hb
  have hml := C.hml
  have hown := C.hown
  have hE := C.hE
  have hz := C.hz
  have hA : ∀ q, s.heap.size ≤ q → LA s q := LA_new
  refine lv_aload_n hx hb dL_law_1564 rfl (lv_at hl 4 rfl) ?_
  refine lv_aload_n hx hb dL_law_1565 rfl (lv_at hl 5 rfl) ?_
  refine lv_iload hx hb dL_law_1566 (lv_at hl 0 rfl) ?_
  refine lv_iconst (v := 1) hx hb dL_law_1568 (by decide) ?_
  refine x_iadd (v := 1) hx hb dL_law_1569 (by decide) ?_
  refine x_sld (z := a1) hx hb C.hX C.hbl C.hbA hS (x_in (by decide)) (k := 1) (by decide) x1 dL_law_1570 ?_
  refine lv_aload_n hx hb dL_law_1571 rfl (lv_at hl 2 rfl) ?_
  refine g_i (wr := WM g qm v) (rSW (rest := []) hx hb hml hown hE hP hD hS hA hz (M1 H.size) (kSW_L_setSwing hE (e952 hE) hrc1 hrs1 hR1) is1 hi1 hn1 rfl hl.1 rfl (lv_room (Nat.le_of_ble_eq_true rfl)) dL_law_1572 ⟨by rw [rm_c]; omega, by rw [rm_s]; omega⟩) hP hD hS hA is1 [48, 49, 50, 51, 52, 53, 54, 55, 56, 57, 58, 59, 60, 61, 62, 63, 64, 65, 66, 67, 68, 69, 70, 71] hi1 rfl (by decide) hd1 (fun u1 H locs hP hD hS => ?_)
  refine lv_istore (lv' := [(6, .int 0), (5, .int 0), (4, .ref qd), (3, .ref qo), (2, .ref qm), (1, .ref qx), (0, .ref b)]) hx hb dL_law_1575 hl (by decide) rfl (fun ls hl => ?_)
  refine lv_aload_n hx hb dL_law_1577 rfl (lv_at hl 4 rfl) ?_
  refine lv_aload_n hx hb dL_law_1578 rfl (lv_at hl 6 rfl) ?_
  refine lv_iload hx hb dL_law_1579 (lv_at hl 1 rfl) ?_
  refine lv_iconst (v := 1) hx hb dL_law_1581 (by decide) ?_
  refine x_iadd (v := 1) hx hb dL_law_1582 (by decide) ?_
  refine x_sld (z := a1) hx hb C.hX C.hbl C.hbA hS (x_in (by decide)) (k := 1) (by decide) x1 dL_law_1583 ?_
  refine g_i (wr := [(qo, .inl (g.2 1, 1, .inr (.inl f)))]) (rV (rest := []) hx hb hml hown hE hP hD 23 rfl rfl (M2 H.size) (kV_X10_setSwing hE (e1624 hE) hrc2 hrs2 hR2) is2 (sub_app hi2) hn2 rfl hl.1 rfl (lv_room (Nat.le_of_ble_eq_true rfl)) dL_law_1584 ⟨by rw [rm_c]; omega, by rw [rm_s]; omega⟩) hP hD hS hA is2 [24] (sub_app hi2) rfl (by decide) (fun i hi h => absurd (hd2 i h) (by rw [List.mem_singleton.mp hi]; decide)) (fun u2 H locs hP hD hS => ?_)
  refine lv_istore (lv' := [(7, .int r2), (6, .int 0), (5, .int 0), (4, .ref qd), (3, .ref qo), (2, .ref qm), (1, .ref qx), (0, .ref b)]) hx hb dL_law_1587 hl (by decide) rfl (fun ls hl => ?_)
  refine lv_aload_n hx hb dL_law_1589 rfl (lv_at hl 5 rfl) ?_
  refine g_i (wr := [(qo, .inl (g.2 1, 1, .inr (.inl f)))]) (rV (rest := []) hx hb hml hown hE hP hD 1 rfl rfl (h_thrown l g qm fs2 T hT H.size) (kV_X10_thrown hE (e1412 hE) rfl rfl ⟨(Nat.le_of_ble_eq_true rfl), (Nat.le_of_ble_eq_true rfl)⟩) [1] rfl (by decide) rfl hl.1 rfl (lv_room (Nat.le_of_ble_eq_true rfl)) dL_law_1590 ⟨by rw [rm_c]; omega, by rw [rm_s]; omega⟩) hP hD hS hA [1] [0] rfl rfl (by decide) (by decide) (fun u3 H locs hP hD hS => ?_)
  refine lv_iload hx hb dL_law_1593 (lv_at hl 1 rfl) ?_
  refine lv_icmp_eq (tgt := 1600) hx hb dL_law_1595 (by decide) (fun _ => ?_) (fun h => absurd hTK h)
  refine lv_iload hx hb dL_law_1600 (lv_at hl 1 rfl) ?_
  refine lv_if_ne (tgt := 1617) hx hb dL_law_1602 (by decide) (fun h => absurd h (by decide)) (fun _ => ?_)
  refine lv_aload_n hx hb dL_law_1605 rfl (lv_at hl 4 rfl) ?_
  refine lv_iconst (v := 0) hx hb dL_law_1606 (by decide) ?_
  refine x_lald (v := B) hx hb hE hP 0 rfl 0 (x_in (by decide)) (by decide) hB dL_law_1607 ?_
  refine lv_iload hx hb dL_law_1608 (lv_at hl 0 rfl) ?_
  refine lv_i2l (v := B) hx hb dL_law_1610 hrB ?_
  refine x_lcmp hx hb dL_law_1611 ?_
  refine lv_if_eq (tgt := 1617) hx hb dL_law_1612 (by decide) (fun _ => ?_) (fun h => absurd rfl h)
  refine lv_goto (tgt := 2958) hx hb dL_law_1617 (by decide) ?_
  exact lw_end C hS (lv_sub hl [2, 7] rfl) (by omega) (by omega)

set_option maxHeartbeats 4000000 in
set_option maxRecDepth 100000 in
theorem lo0_tickAt (C : L0 p l s m meth c b 6 xs g) (hP : va_P g.1 vwCl (WL g qx u qm v qo qd) H) (hD : va_D (LA s) (WL g qx u qm v qo qd)) (hS : va_S (LA s) s.heap H locs) (hl : lv_has ls 9 [(5, .int 0), (4, .ref qd), (3, .ref qo), (2, .ref qm), (1, .ref qx), (0, .ref b)]) {a1 : Int32} (x1 : xs 1 = a1) {ws1 ws2 : va_W} {rm1 rm2 : Room} {mc1 ms1 mc2 ms2 : Nat} {fs2 : List Value} {f : Nat → Int64} {r2 T : Int32} {B : Int64} (hTK : T = 0) (hB : f 0 = B) (hrB : r2.toInt64 = B) (hT : fs2[6]? = some (.int T)) (is1 : List Nat) (hi1 : is1.map (fun i => (WL g qx u qm v qo qd)[i]?) = ws1.map some) (hn1 : va_nd is1 = true) (hd1 : ∀ i ∈ [48, 49, 50, 51, 52, 53, 54, 55, 56, 57, 58, 59, 60, 61, 62, 63, 64, 65, 66, 67, 68, 69, 70, 71], i ∉ is1) (M1 : ∀ sz, Met l yL_tickAt [Cond.codeWith yL_tickAt cL_tickAt 4 (some .int) [(0, 9, 12, 15)]] rm1 (va_Pc [.ref qx, .int a1, .ref qo] (PZ g sz ws1)) (QI g ws1 sz 0 (fun _ => [(qo, .inl (g.2 1, 1, .inr (.inl f)))])) mc1 ms1 (va_A ws1 sz)) (hrc1 : rm1.cells = mc1) (hrs1 : rm1.slots = ms1) (hR1 : rm1.frames + 1 ≤ room_1.frames ∧ 8 + (4 + 11) + rm1.locals ≤ room_1.locals) (hc1 : mc1 ≤ 100000 ∧ ms1 ≤ 1000000) (is2 : List Nat) (hi2 : is2.map (fun i => (WM g qm v)[i]?) = ws2.map some) (hn2 : va_nd is2 = true) (hd2 : ∀ i ∈ is2, i < 24) (M2 : ∀ sz, Met l yX10_tickAt [Cond.code yX10_tickAt cX10_tickAt 5 (some .int)] rm2 (va_Pc [.ref qm, .int a1] (PX g sz ws2)) (QI g ws2 sz r2 (fun _ => [(qm, .inr (12, fs2))])) mc2 ms2 (va_A ws2 sz)) (hrc2 : rm2.cells = mc2) (hrs2 : rm2.slots = ms2) (hR2 : rm2.frames + 1 ≤ room_1.frames ∧ 8 + (5 + 11) + rm2.locals ≤ room_1.locals) (hc2 : mc2 ≤ 100000 ∧ ms2 ≤ 1000000) : W p l e room_1 s m #[Value.ref b] below meth c H locs 146 20899 (lw_Z below #[Value.ref b] s) (F0 m 1704 ls []) := by
  have hx := C.hx
  have hb := C.hb
  have hml := C.hml
  have hown := C.hown
  have hE := C.hE
  have hz := C.hz
  have hA : ∀ q, s.heap.size ≤ q → LA s q := LA_new
  refine lv_aload_n hx hb dL_law_1704 rfl (lv_at hl 4 rfl) ?_
  refine lv_aload_n hx hb dL_law_1705 rfl (lv_at hl 5 rfl) ?_
  refine lv_iload hx hb dL_law_1706 (lv_at hl 0 rfl) ?_
  refine lv_iconst (v := 1) hx hb dL_law_1708 (by decide) ?_
  refine x_iadd (v := 1) hx hb dL_law_1709 (by decide) ?_
  refine x_sld (z := a1) hx hb C.hX C.hbl C.hbA hS (x_in (by decide)) (k := 1) (by decide) x1 dL_law_1710 ?_
  refine lv_aload_n hx hb dL_law_1711 rfl (lv_at hl 2 rfl) ?_
  refine g_i (wr := WM g qm v) (rSW (rest := []) hx hb hml hown hE hP hD hS hA hz (M1 H.size) (kSW_L_tickAt hE (e968 hE) hrc1 hrs1 hR1) is1 hi1 hn1 rfl hl.1 rfl (lv_room (Nat.le_of_ble_eq_true rfl)) dL_law_1712 ⟨by rw [rm_c]; omega, by rw [rm_s]; omega⟩) hP hD hS hA is1 [48, 49, 50, 51, 52, 53, 54, 55, 56, 57, 58, 59, 60, 61, 62, 63, 64, 65, 66, 67, 68, 69, 70, 71] hi1 rfl (by decide) hd1 (fun u1 H locs hP hD hS => ?_)
  refine lv_istore (lv' := [(6, .int 0), (5, .int 0), (4, .ref qd), (3, .ref qo), (2, .ref qm), (1, .ref qx), (0, .ref b)]) hx hb dL_law_1715 hl (by decide) rfl (fun ls hl => ?_)
  refine lv_aload_n hx hb dL_law_1717 rfl (lv_at hl 4 rfl) ?_
  refine lv_aload_n hx hb dL_law_1718 rfl (lv_at hl 6 rfl) ?_
  refine lv_iload hx hb dL_law_1719 (lv_at hl 1 rfl) ?_
  refine lv_iconst (v := 1) hx hb dL_law_1721 (by decide) ?_
  refine x_iadd (v := 1) hx hb dL_law_1722 (by decide) ?_
  refine x_sld (z := a1) hx hb C.hX C.hbl C.hbA hS (x_in (by decide)) (k := 1) (by decide) x1 dL_law_1723 ?_
  refine g_i (wr := [(qo, .inl (g.2 1, 1, .inr (.inl f)))]) (rV (rest := []) hx hb hml hown hE hP hD 23 rfl rfl (M2 H.size) (kV_X10_tickAt hE (e1636 hE) hrc2 hrs2 hR2) is2 (sub_app hi2) hn2 rfl hl.1 rfl (lv_room (Nat.le_of_ble_eq_true rfl)) dL_law_1724 ⟨by rw [rm_c]; omega, by rw [rm_s]; omega⟩) hP hD hS hA is2 [24] (sub_app hi2) rfl (by decide) (fun i hi h => absurd (hd2 i h) (by rw [List.mem_singleton.mp hi]; decide)) (fun u2 H locs hP hD hS => ?_)
  refine lv_istore (lv' := [(7, .int r2), (6, .int 0), (5, .int 0), (4, .ref qd), (3, .ref qo), (2, .ref qm), (1, .ref qx), (0, .ref b)]) hx hb dL_law_1727 hl (by decide) rfl (fun ls hl => ?_)
  refine lv_aload_n hx hb dL_law_1729 rfl (lv_at hl 5 rfl) ?_
  refine g_i (wr := [(qo, .inl (g.2 1, 1, .inr (.inl f)))]) (rV (rest := []) hx hb hml hown hE hP hD 1 rfl rfl (h_thrown l g qm fs2 T hT H.size) (kV_X10_thrown hE (e1412 hE) rfl rfl ⟨(Nat.le_of_ble_eq_true rfl), (Nat.le_of_ble_eq_true rfl)⟩) [1] rfl (by decide) rfl hl.1 rfl (lv_room (Nat.le_of_ble_eq_true rfl)) dL_law_1730 ⟨by rw [rm_c]; omega, by rw [rm_s]; omega⟩) hP hD hS hA [1] [0] rfl rfl (by decide) (by decide) (fun u3 H locs hP hD hS => ?_)
  refine lv_iload hx hb dL_law_1733 (lv_at hl 1 rfl) ?_
  refine lv_icmp_eq (tgt := 1740) hx hb dL_law_1735 (by decide) (fun _ => ?_) (fun h => absurd hTK h)
  refine lv_iload hx hb dL_law_1740 (lv_at hl 1 rfl) ?_
  refine lv_if_ne (tgt := 1757) hx hb dL_law_1742 (by decide) (fun h => absurd h (by decide)) (fun _ => ?_)
  refine lv_aload_n hx hb dL_law_1745 rfl (lv_at hl 4 rfl) ?_
  refine lv_iconst (v := 0) hx hb dL_law_1746 (by decide) ?_
  refine x_lald (v := B) hx hb hE hP 0 rfl 0 (x_in (by decide)) (by decide) hB dL_law_1747 ?_
  refine lv_iload hx hb dL_law_1748 (lv_at hl 0 rfl) ?_
  refine lv_i2l (v := B) hx hb dL_law_1750 hrB ?_
  refine x_lcmp hx hb dL_law_1751 ?_
  refine lv_if_eq (tgt := 1757) hx hb dL_law_1752 (by decide) (fun _ => ?_) (fun h => absurd rfl h)
  refine lv_goto (tgt := 2958) hx hb dL_law_1757 (by decide) ?_
  exact lw_end C hS (lv_sub hl [2, 7] rfl) (by omega) (by omega)

set_option maxHeartbeats 4000000 in
set_option maxRecDepth 100000 in
theorem loD_clear (C : L0 p l s m meth c b 6 xs g) (hP : va_P g.1 vwCl (WL g qx u qm v qo qd) H) (hD : va_D (LA s) (WL g qx u qm v qo qd)) (hS : va_S (LA s) s.heap H locs) (hl : lv_has ls 9 [(5, .int 0), (4, .ref qd), (3, .ref qo), (2, .ref qm), (1, .ref qx), (0, .ref b)]) {ws1 ws2 : va_W} {rm1 rm2 : Room} {mc1 ms1 mc2 ms2 : Nat} {fs2 : List Value} {po1 : (Nat → Nat) → va_W} {r1 r2 : Int32} (hr12 : r1 = r2) (is1 : List Nat) (hi1 : is1.map (fun i => (WL g qx u qm v qo qd)[i]?) = ws1.map some) (hn1 : va_nd is1 = true) (hd1 : ∀ i ∈ [48, 49, 50, 51, 52, 53, 54, 55, 56, 57, 58, 59, 60, 61, 62, 63, 64, 65, 66, 67, 68, 69, 70, 71], i ∉ is1) (M1 : ∀ sz, Met l yX9_clear [Cond.code yX9_clear cX9_clear 3 (some .int)] rm1 (va_Pc [.ref qx] (PX g sz ws1)) (QI g ws1 sz r1 po1) mc1 ms1 (va_A ws1 sz)) (hrc1 : rm1.cells = mc1) (hrs1 : rm1.slots = ms1) (hR1 : rm1.frames + 1 ≤ room_1.frames ∧ 8 + (3 + 11) + rm1.locals ≤ room_1.locals) (hc1 : mc1 ≤ 100000 ∧ ms1 ≤ 1000000) (is2 : List Nat) (hi2 : is2.map (fun i => (WM g qm v)[i]?) = ws2.map some) (hn2 : va_nd is2 = true) (hd2 : ∀ i ∈ is2, i < 24) (M2 : ∀ sz, Met l yX10_clear [Cond.code yX10_clear cX10_clear 2 (some .int)] rm2 (va_Pc [.ref qm] (PX g sz ws2)) (QI g ws2 sz r2 (fun _ => [(qm, .inr (12, fs2))])) mc2 ms2 (va_A ws2 sz)) (hrc2 : rm2.cells = mc2) (hrs2 : rm2.slots = ms2) (hR2 : rm2.frames + 1 ≤ room_1.frames ∧ 8 + (2 + 11) + rm2.locals ≤ room_1.locals) (hc2 : mc2 ≤ 100000 ∧ ms2 ≤ 1000000) : W p l e room_1 s m #[Value.ref b] below meth c H locs 146 20899 (lw_Z below #[Value.ref b] s) (F0 m 240 ls []) := by
  have hx := C.hx
  have hb := C.hb
  have hml := C.hml
  have hown := C.hown
  have hE := C.hE
  have hz := C.hz
  have hA : ∀ q, s.heap.size ≤ q → LA s q := LA_new
  refine lv_aload_n hx hb dL_law_240 rfl (lv_at hl 4 rfl) ?_
  refine g_i (wr := WM g qm v) (rV (rest := []) hx hb hml hown hE hP hD 0 rfl rfl (M1 H.size) (kV_X9_clear hE (e286 hE) hrc1 hrs1 hR1) is1 hi1 hn1 rfl hl.1 rfl (lv_room (Nat.le_of_ble_eq_true rfl)) dL_law_241 ⟨by rw [rm_c]; omega, by rw [rm_s]; omega⟩) hP hD hS hA is1 [48, 49, 50, 51, 52, 53, 54, 55, 56, 57, 58, 59, 60, 61, 62, 63, 64, 65, 66, 67, 68, 69, 70, 71] hi1 rfl (by decide) hd1 (fun u1 H locs hP hD hS => ?_)
  refine lv_aload_n hx hb dL_law_244 rfl (lv_at hl 3 rfl) ?_
  refine g_i (wr := []) (rV (rest := [.int r1]) hx hb hml hown hE hP hD 23 rfl rfl (M2 H.size) (kV_X10_clear hE (e1416 hE) hrc2 hrs2 hR2) is2 (sub_app hi2) hn2 rfl hl.1 rfl (lv_room (Nat.le_of_ble_eq_true rfl)) dL_law_245 ⟨by rw [rm_c]; omega, by rw [rm_s]; omega⟩) hP hD hS hA is2 [] (sub_app hi2) rfl (by decide) (fun i hi => absurd hi List.not_mem_nil) (fun u2 H locs hP hD hS => ?_)
  refine lv_icmp_eq (tgt := 2958) hx hb dL_law_248 (by decide) (fun _ => ?_) (fun h => absurd hr12 h)
  exact lw_end C hS (lv_sub hl [0, 5] rfl) (by omega) (by omega)

set_option maxHeartbeats 4000000 in
set_option maxRecDepth 100000 in
theorem loD_polyphony (C : L0 p l s m meth c b 6 xs g) (hP : va_P g.1 vwCl (WL g qx u qm v qo qd) H) (hD : va_D (LA s) (WL g qx u qm v qo qd)) (hS : va_S (LA s) s.heap H locs) (hl : lv_has ls 9 [(5, .int 0), (4, .ref qd), (3, .ref qo), (2, .ref qm), (1, .ref qx), (0, .ref b)]) {ws1 ws2 : va_W} {rm1 rm2 : Room} {mc1 ms1 mc2 ms2 : Nat} {fs2 : List Value} {po1 : (Nat → Nat) → va_W} {r1 r2 : Int32} (hr12 : r1 = r2) (is1 : List Nat) (hi1 : is1.map (fun i => (WL g qx u qm v qo qd)[i]?) = ws1.map some) (hn1 : va_nd is1 = true) (hd1 : ∀ i ∈ [48, 49, 50, 51, 52, 53, 54, 55, 56, 57, 58, 59, 60, 61, 62, 63, 64, 65, 66, 67, 68, 69, 70, 71], i ∉ is1) (M1 : ∀ sz, Met l yX9_polyphony [Cond.code yX9_polyphony cX9_polyphony 1 (some .int)] rm1 (va_Pc [.ref qx] (PX g sz ws1)) (QI g ws1 sz r1 po1) mc1 ms1 (va_A ws1 sz)) (hrc1 : rm1.cells = mc1) (hrs1 : rm1.slots = ms1) (hR1 : rm1.frames + 1 ≤ room_1.frames ∧ 8 + (1 + 11) + rm1.locals ≤ room_1.locals) (hc1 : mc1 ≤ 100000 ∧ ms1 ≤ 1000000) (is2 : List Nat) (hi2 : is2.map (fun i => (WM g qm v)[i]?) = ws2.map some) (hn2 : va_nd is2 = true) (hd2 : ∀ i ∈ is2, i < 24) (M2 : ∀ sz, Met l yX10_polyphony [Cond.code yX10_polyphony cX10_polyphony 5 (some .int)] rm2 (va_Pc [.ref qm] (PX g sz ws2)) (QI g ws2 sz r2 (fun _ => [(qm, .inr (12, fs2))])) mc2 ms2 (va_A ws2 sz)) (hrc2 : rm2.cells = mc2) (hrs2 : rm2.slots = ms2) (hR2 : rm2.frames + 1 ≤ room_1.frames ∧ 8 + (5 + 11) + rm2.locals ≤ room_1.locals) (hc2 : mc2 ≤ 100000 ∧ ms2 ≤ 1000000) : W p l e room_1 s m #[Value.ref b] below meth c H locs 146 20899 (lw_Z below #[Value.ref b] s) (F0 m 2360 ls []) := by
  have hx := C.hx
  have hb := C.hb
  have hml := C.hml
  have hown := C.hown
  have hE := C.hE
  have hz := C.hz
  have hA : ∀ q, s.heap.size ≤ q → LA s q := LA_new
  refine lv_aload_n hx hb dL_law_2360 rfl (lv_at hl 4 rfl) ?_
  refine g_i (wr := WM g qm v) (rV (rest := []) hx hb hml hown hE hP hD 0 rfl rfl (M1 H.size) (kV_X9_polyphony hE (e314 hE) hrc1 hrs1 hR1) is1 hi1 hn1 rfl hl.1 rfl (lv_room (Nat.le_of_ble_eq_true rfl)) dL_law_2361 ⟨by rw [rm_c]; omega, by rw [rm_s]; omega⟩) hP hD hS hA is1 [48, 49, 50, 51, 52, 53, 54, 55, 56, 57, 58, 59, 60, 61, 62, 63, 64, 65, 66, 67, 68, 69, 70, 71] hi1 rfl (by decide) hd1 (fun u1 H locs hP hD hS => ?_)
  refine lv_aload_n hx hb dL_law_2364 rfl (lv_at hl 3 rfl) ?_
  refine g_i (wr := []) (rV (rest := [.int r1]) hx hb hml hown hE hP hD 23 rfl rfl (M2 H.size) (kV_X10_polyphony hE (e1688 hE) hrc2 hrs2 hR2) is2 (sub_app hi2) hn2 rfl hl.1 rfl (lv_room (Nat.le_of_ble_eq_true rfl)) dL_law_2365 ⟨by rw [rm_c]; omega, by rw [rm_s]; omega⟩) hP hD hS hA is2 [] (sub_app hi2) rfl (by decide) (fun i hi => absurd hi List.not_mem_nil) (fun u2 H locs hP hD hS => ?_)
  refine lv_icmp_eq (tgt := 2958) hx hb dL_law_2368 (by decide) (fun _ => ?_) (fun h => absurd hr12 h)
  exact lw_end C hS (lv_sub hl [0, 5] rfl) (by omega) (by omega)

set_option maxHeartbeats 4000000 in
set_option maxRecDepth 100000 in
theorem loD_save (C : L0 p l s m meth c b 6 xs g) (hP : va_P g.1 vwCl (WL g qx u qm v qo qd) H) (hD : va_D (LA s) (WL g qx u qm v qo qd)) (hS : va_S (LA s) s.heap H locs) (hl : lv_has ls 9 [(5, .int 0), (4, .ref qd), (3, .ref qo), (2, .ref qm), (1, .ref qx), (0, .ref b)]) {ws1 ws2 : va_W} {rm1 rm2 : Room} {mc1 ms1 mc2 ms2 : Nat} {fs2 : List Value} {po1 : (Nat → Nat) → va_W} {r1 r2 : Int32} (hr12 : r1 = r2) (is1 : List Nat) (hi1 : is1.map (fun i => (WL g qx u qm v qo qd)[i]?) = ws1.map some) (hn1 : va_nd is1 = true) (hd1 : ∀ i ∈ [48, 49, 50, 51, 52, 53, 54, 55, 56, 57, 58, 59, 60, 61, 62, 63, 64, 65, 66, 67, 68, 69, 70, 71], i ∉ is1) (M1 : ∀ sz, Met l yX9_save [Cond.code yX9_save cX9_save 1 (some .int)] rm1 (va_Pc [.ref qx] (PX g sz ws1)) (QI g ws1 sz r1 po1) mc1 ms1 (va_A ws1 sz)) (hrc1 : rm1.cells = mc1) (hrs1 : rm1.slots = ms1) (hR1 : rm1.frames + 1 ≤ room_1.frames ∧ 8 + (1 + 11) + rm1.locals ≤ room_1.locals) (hc1 : mc1 ≤ 100000 ∧ ms1 ≤ 1000000) (is2 : List Nat) (hi2 : is2.map (fun i => (WM g qm v)[i]?) = ws2.map some) (hn2 : va_nd is2 = true) (hd2 : ∀ i ∈ is2, i < 24) (M2 : ∀ sz, Met l yX10_save [Cond.code yX10_save cX10_save 2 (some .int)] rm2 (va_Pc [.ref qm] (PX g sz ws2)) (QI g ws2 sz r2 (fun _ => [(qm, .inr (12, fs2))])) mc2 ms2 (va_A ws2 sz)) (hrc2 : rm2.cells = mc2) (hrs2 : rm2.slots = ms2) (hR2 : rm2.frames + 1 ≤ room_1.frames ∧ 8 + (2 + 11) + rm2.locals ≤ room_1.locals) (hc2 : mc2 ≤ 100000 ∧ ms2 ≤ 1000000) : W p l e room_1 s m #[Value.ref b] below meth c H locs 146 20899 (lw_Z below #[Value.ref b] s) (F0 m 2901 ls []) := by
  have hx := C.hx
  have hb := C.hb
  have hml := C.hml
  have hown := C.hown
  have hE := C.hE
  have hz := C.hz
  have hA : ∀ q, s.heap.size ≤ q → LA s q := LA_new
  refine lv_aload_n hx hb dL_law_2901 rfl (lv_at hl 4 rfl) ?_
  refine g_i (wr := WM g qm v) (rV (rest := []) hx hb hml hown hE hP hD 0 rfl rfl (M1 H.size) (kV_X9_save hE (e506 hE) hrc1 hrs1 hR1) is1 hi1 hn1 rfl hl.1 rfl (lv_room (Nat.le_of_ble_eq_true rfl)) dL_law_2902 ⟨by rw [rm_c]; omega, by rw [rm_s]; omega⟩) hP hD hS hA is1 [48, 49, 50, 51, 52, 53, 54, 55, 56, 57, 58, 59, 60, 61, 62, 63, 64, 65, 66, 67, 68, 69, 70, 71] hi1 rfl (by decide) hd1 (fun u1 H locs hP hD hS => ?_)
  refine lv_aload_n hx hb dL_law_2905 rfl (lv_at hl 3 rfl) ?_
  refine g_i (wr := []) (rV (rest := [.int r1]) hx hb hml hown hE hP hD 23 rfl rfl (M2 H.size) (kV_X10_save hE (e1776 hE) hrc2 hrs2 hR2) is2 (sub_app hi2) hn2 rfl hl.1 rfl (lv_room (Nat.le_of_ble_eq_true rfl)) dL_law_2906 ⟨by rw [rm_c]; omega, by rw [rm_s]; omega⟩) hP hD hS hA is2 [] (sub_app hi2) rfl (by decide) (fun i hi => absurd hi List.not_mem_nil) (fun u2 H locs hP hD hS => ?_)
  refine lv_icmp_eq (tgt := 2958) hx hb dL_law_2909 (by decide) (fun _ => ?_) (fun h => absurd hr12 h)
  exact lw_end C hS (lv_sub hl [0, 5] rfl) (by omega) (by omega)

set_option maxHeartbeats 4000000 in
set_option maxRecDepth 100000 in
theorem loK_append (C : L0 p l s m meth c b 6 xs g) (hP : va_P g.1 vwCl (WL g qx u qm v qo qd) H) (hD : va_D (LA s) (WL g qx u qm v qo qd)) (hS : va_S (LA s) s.heap H locs) (hl : lv_has ls 9 [(5, .int 0), (4, .ref qd), (3, .ref qo), (2, .ref qm), (1, .ref qx), (0, .ref b)]) {a1 : Int32} {ch : Int32} (x1 : xs 1 = a1) (hch : i_chr a1 = ch) {ws1 ws2 : va_W} {rm1 rm2 : Room} {mc1 ms1 mc2 ms2 : Nat} {fs2 : List Value} {po1 : (Nat → Nat) → va_W} {K T : Int32} (hK : ¬ K = 0) (hTK : T = K) {r2 : Int32} (hT : fs2[6]? = some (.int T)) (is1 : List Nat) (hi1 : is1.map (fun i => (WL g qx u qm v qo qd)[i]?) = ws1.map some) (hn1 : va_nd is1 = true) (hd1 : ∀ i ∈ [48, 49, 50, 51, 52, 53, 54, 55, 56, 57, 58, 59, 60, 61, 62, 63, 64, 65, 66, 67, 68, 69, 70, 71], i ∉ is1) (M1 : ∀ sz, Met l yL_append [Cond.codeWith yL_append cL_append 4 (some .int) [(0, 9, 12, 15), (0, 9, 15, 17)]] rm1 (va_Pc [.ref qx, .int ch, .ref qo] (PZ g sz ws1)) (QI g ws1 sz K po1) mc1 ms1 (va_A ws1 sz)) (hrc1 : rm1.cells = mc1) (hrs1 : rm1.slots = ms1) (hR1 : rm1.frames + 1 ≤ room_1.frames ∧ 8 + (4 + 11) + rm1.locals ≤ room_1.locals) (hc1 : mc1 ≤ 100000 ∧ ms1 ≤ 1000000) (is2 : List Nat) (hi2 : is2.map (fun i => (WM g qm v)[i]?) = ws2.map some) (hn2 : va_nd is2 = true) (hd2 : ∀ i ∈ is2, i < 24) (M2 : ∀ sz, Met l yX10_append [Cond.code yX10_append cX10_append 2 (some .int)] rm2 (va_Pc [.ref qm, .int ch] (PX g sz ws2)) (QI g ws2 sz r2 (fun _ => [(qm, .inr (12, fs2))])) mc2 ms2 (va_A ws2 sz)) (hrc2 : rm2.cells = mc2) (hrs2 : rm2.slots = ms2) (hR2 : rm2.frames + 1 ≤ room_1.frames ∧ 8 + (2 + 11) + rm2.locals ≤ room_1.locals) (hc2 : mc2 ≤ 100000 ∧ ms2 ≤ 1000000) : W p l e room_1 s m #[Value.ref b] below meth c H locs 146 20899 (lw_Z below #[Value.ref b] s) (F0 m 2631 ls []) := by
  have hx := C.hx
  have hb := C.hb
  have hml := C.hml
  have hown := C.hown
  have hE := C.hE
  have hz := C.hz
  have hA : ∀ q, s.heap.size ≤ q → LA s q := LA_new
  refine lv_aload_n hx hb dL_law_2631 rfl (lv_at hl 4 rfl) ?_
  refine lv_aload_n hx hb dL_law_2632 rfl (lv_at hl 5 rfl) ?_
  refine lv_iload hx hb dL_law_2633 (lv_at hl 0 rfl) ?_
  refine lv_iconst (v := 1) hx hb dL_law_2635 (by decide) ?_
  refine x_iadd (v := 1) hx hb dL_law_2636 (by decide) ?_
  refine x_sld (z := a1) hx hb C.hX C.hbl C.hbA hS (x_in (by decide)) (k := 1) (by decide) x1 dL_law_2637 ?_
  refine lv_i2c (v := i_chr a1) hx hb dL_law_2638 rfl ?_
  refine x_top (v := ch) hch ?_
  refine lv_aload_n hx hb dL_law_2639 rfl (lv_at hl 2 rfl) ?_
  refine g_i (wr := WM g qm v) (rSW (rest := []) hx hb hml hown hE hP hD hS hA hz (M1 H.size) (kSW_L_append hE (e1150 hE) hrc1 hrs1 hR1) is1 hi1 hn1 rfl hl.1 rfl (lv_room (Nat.le_of_ble_eq_true rfl)) dL_law_2640 ⟨by rw [rm_c]; omega, by rw [rm_s]; omega⟩) hP hD hS hA is1 [48, 49, 50, 51, 52, 53, 54, 55, 56, 57, 58, 59, 60, 61, 62, 63, 64, 65, 66, 67, 68, 69, 70, 71] hi1 rfl (by decide) hd1 (fun u1 H locs hP hD hS => ?_)
  refine lv_istore (lv' := [(6, .int K), (5, .int 0), (4, .ref qd), (3, .ref qo), (2, .ref qm), (1, .ref qx), (0, .ref b)]) hx hb dL_law_2643 hl (by decide) rfl (fun ls hl => ?_)
  refine lv_aload_n hx hb dL_law_2645 rfl (lv_at hl 4 rfl) ?_
  refine lv_aload_n hx hb dL_law_2646 rfl (lv_at hl 6 rfl) ?_
  refine lv_iload hx hb dL_law_2647 (lv_at hl 1 rfl) ?_
  refine lv_iconst (v := 1) hx hb dL_law_2649 (by decide) ?_
  refine x_iadd (v := 1) hx hb dL_law_2650 (by decide) ?_
  refine x_sld (z := a1) hx hb C.hX C.hbl C.hbA hS (x_in (by decide)) (k := 1) (by decide) x1 dL_law_2651 ?_
  refine lv_i2c (v := i_chr a1) hx hb dL_law_2652 rfl ?_
  refine x_top (v := ch) hch ?_
  refine g_i (wr := []) (rV (rest := []) hx hb hml hown hE hP hD 23 rfl rfl (M2 H.size) (kV_X10_append hE (e1724 hE) hrc2 hrs2 hR2) is2 (sub_app hi2) hn2 rfl hl.1 rfl (lv_room (Nat.le_of_ble_eq_true rfl)) dL_law_2653 ⟨by rw [rm_c]; omega, by rw [rm_s]; omega⟩) hP hD hS hA is2 [] (sub_app hi2) rfl (by decide) (fun i hi => absurd hi List.not_mem_nil) (fun u2 H locs hP hD hS => ?_)
  refine lv_istore (lv' := [(7, .int r2), (6, .int K), (5, .int 0), (4, .ref qd), (3, .ref qo), (2, .ref qm), (1, .ref qx), (0, .ref b)]) hx hb dL_law_2656 hl (by decide) rfl (fun ls hl => ?_)
  refine lv_aload_n hx hb dL_law_2658 rfl (lv_at hl 5 rfl) ?_
  refine g_i (wr := []) (rV (rest := []) hx hb hml hown hE hP hD 0 rfl rfl (h_thrown l g qm fs2 T hT H.size) (kV_X10_thrown hE (e1412 hE) rfl rfl ⟨(Nat.le_of_ble_eq_true rfl), (Nat.le_of_ble_eq_true rfl)⟩) [0] rfl (by decide) rfl hl.1 rfl (lv_room (Nat.le_of_ble_eq_true rfl)) dL_law_2659 ⟨by rw [rm_c]; omega, by rw [rm_s]; omega⟩) hP hD hS hA [0] [] rfl rfl (by decide) (by decide) (fun u3 H locs hP hD hS => ?_)
  refine lv_iload hx hb dL_law_2662 (lv_at hl 1 rfl) ?_
  refine lv_icmp_eq (tgt := 2669) hx hb dL_law_2664 (by decide) (fun _ => ?_) (fun h => absurd hTK h)
  refine lv_iload hx hb dL_law_2669 (lv_at hl 1 rfl) ?_
  refine lv_if_ne (tgt := 2686) hx hb dL_law_2671 (by decide) (fun _ => ?_) (fun h => absurd hK h)
  refine lv_goto (tgt := 2958) hx hb dL_law_2686 (by decide) ?_
  exact lw_end C hS (lv_sub hl [2, 7] rfl) (by omega) (by omega)

set_option maxHeartbeats 4000000 in
set_option maxRecDepth 100000 in
theorem loK_errorPosition (C : L0 p l s m meth c b 6 xs g) (hP : va_P g.1 vwCl (WL g qx u qm v qo qd) H) (hD : va_D (LA s) (WL g qx u qm v qo qd)) (hS : va_S (LA s) s.heap H locs) (hl : lv_has ls 9 [(5, .int 0), (4, .ref qd), (3, .ref qo), (2, .ref qm), (1, .ref qx), (0, .ref b)]) {ws1 ws2 : va_W} {rm1 rm2 : Room} {mc1 ms1 mc2 ms2 : Nat} {fs2 : List Value} {po1 : (Nat → Nat) → va_W} {K T : Int32} (hK : ¬ K = 0) (hTK : T = K) {r2 : Int32} (hT : fs2[6]? = some (.int T)) (is1 : List Nat) (hi1 : is1.map (fun i => (WL g qx u qm v qo qd)[i]?) = ws1.map some) (hn1 : va_nd is1 = true) (hd1 : ∀ i ∈ [48, 49, 50, 51, 52, 53, 54, 55, 56, 57, 58, 59, 60, 61, 62, 63, 64, 65, 66, 67, 68, 69, 70, 71], i ∉ is1) (M1 : ∀ sz, Met l yL_errorPosition [Cond.codeWith yL_errorPosition cL_errorPosition 3 (some .int) [(0, 8, 11, 39)]] rm1 (va_Pc [.ref qx, .ref qo] (PZ g sz ws1)) (QI g ws1 sz K po1) mc1 ms1 (va_A ws1 sz)) (hrc1 : rm1.cells = mc1) (hrs1 : rm1.slots = ms1) (hR1 : rm1.frames + 1 ≤ room_1.frames ∧ 8 + (3 + 11) + rm1.locals ≤ room_1.locals) (hc1 : mc1 ≤ 100000 ∧ ms1 ≤ 1000000) (is2 : List Nat) (hi2 : is2.map (fun i => (WM g qm v)[i]?) = ws2.map some) (hn2 : va_nd is2 = true) (hd2 : ∀ i ∈ is2, i < 24) (M2 : ∀ sz, Met l yX10_errorPosition [Cond.code yX10_errorPosition cX10_errorPosition 1 (some .int)] rm2 (va_Pc [.ref qm] (PX g sz ws2)) (QI g ws2 sz r2 (fun _ => [(qm, .inr (12, fs2))])) mc2 ms2 (va_A ws2 sz)) (hrc2 : rm2.cells = mc2) (hrs2 : rm2.slots = ms2) (hR2 : rm2.frames + 1 ≤ room_1.frames ∧ 8 + (1 + 11) + rm2.locals ≤ room_1.locals) (hc2 : mc2 ≤ 100000 ∧ ms2 ≤ 1000000) : W p l e room_1 s m #[Value.ref b] below meth c H locs 146 20899 (lw_Z below #[Value.ref b] s) (F0 m 2745 ls []) := by
  have hx := C.hx
  have hb := C.hb
  have hml := C.hml
  have hown := C.hown
  have hE := C.hE
  have hz := C.hz
  have hA : ∀ q, s.heap.size ≤ q → LA s q := LA_new
  refine lv_aload_n hx hb dL_law_2745 rfl (lv_at hl 4 rfl) ?_
  refine lv_aload_n hx hb dL_law_2746 rfl (lv_at hl 2 rfl) ?_
  refine g_i (wr := WM g qm v) (rSW (rest := []) hx hb hml hown hE hP hD hS hA hz (M1 H.size) (kSW_L_errorPosition hE (e1234 hE) hrc1 hrs1 hR1) is1 hi1 hn1 rfl hl.1 rfl (lv_room (Nat.le_of_ble_eq_true rfl)) dL_law_2747 ⟨by rw [rm_c]; omega, by rw [rm_s]; omega⟩) hP hD hS hA is1 [48, 49, 50, 51, 52, 53, 54, 55, 56, 57, 58, 59, 60, 61, 62, 63, 64, 65, 66, 67, 68, 69, 70, 71] hi1 rfl (by decide) hd1 (fun u1 H locs hP hD hS => ?_)
  refine lv_istore (lv' := [(6, .int K), (5, .int 0), (4, .ref qd), (3, .ref qo), (2, .ref qm), (1, .ref qx), (0, .ref b)]) hx hb dL_law_2750 hl (by decide) rfl (fun ls hl => ?_)
  refine lv_aload_n hx hb dL_law_2752 rfl (lv_at hl 4 rfl) ?_
  refine g_i (wr := []) (rV (rest := []) hx hb hml hown hE hP hD 23 rfl rfl (M2 H.size) (kV_X10_errorPosition hE (e1752 hE) hrc2 hrs2 hR2) is2 (sub_app hi2) hn2 rfl hl.1 rfl (lv_room (Nat.le_of_ble_eq_true rfl)) dL_law_2753 ⟨by rw [rm_c]; omega, by rw [rm_s]; omega⟩) hP hD hS hA is2 [] (sub_app hi2) rfl (by decide) (fun i hi => absurd hi List.not_mem_nil) (fun u2 H locs hP hD hS => ?_)
  refine lv_istore (lv' := [(7, .int r2), (6, .int K), (5, .int 0), (4, .ref qd), (3, .ref qo), (2, .ref qm), (1, .ref qx), (0, .ref b)]) hx hb dL_law_2756 hl (by decide) rfl (fun ls hl => ?_)
  refine lv_aload_n hx hb dL_law_2758 rfl (lv_at hl 5 rfl) ?_
  refine g_i (wr := []) (rV (rest := []) hx hb hml hown hE hP hD 0 rfl rfl (h_thrown l g qm fs2 T hT H.size) (kV_X10_thrown hE (e1412 hE) rfl rfl ⟨(Nat.le_of_ble_eq_true rfl), (Nat.le_of_ble_eq_true rfl)⟩) [0] rfl (by decide) rfl hl.1 rfl (lv_room (Nat.le_of_ble_eq_true rfl)) dL_law_2759 ⟨by rw [rm_c]; omega, by rw [rm_s]; omega⟩) hP hD hS hA [0] [] rfl rfl (by decide) (by decide) (fun u3 H locs hP hD hS => ?_)
  refine lv_iload hx hb dL_law_2762 (lv_at hl 1 rfl) ?_
  refine lv_icmp_eq (tgt := 2769) hx hb dL_law_2764 (by decide) (fun _ => ?_) (fun h => absurd hTK h)
  refine lv_iload hx hb dL_law_2769 (lv_at hl 1 rfl) ?_
  refine lv_if_ne (tgt := 2786) hx hb dL_law_2771 (by decide) (fun _ => ?_) (fun h => absurd hK h)
  refine lv_goto (tgt := 2958) hx hb dL_law_2786 (by decide) ?_
  exact lw_end C hS (lv_sub hl [2, 7] rfl) (by omega) (by omega)

set_option maxHeartbeats 4000000 in
set_option maxRecDepth 100000 in
theorem loK_lostShare (C : L0 p l s m meth c b 6 xs g) (hP : va_P g.1 vwCl (WL g qx u qm v qo qd) H) (hD : va_D (LA s) (WL g qx u qm v qo qd)) (hS : va_S (LA s) s.heap H locs) (hl : lv_has ls 9 [(5, .int 0), (4, .ref qd), (3, .ref qo), (2, .ref qm), (1, .ref qx), (0, .ref b)]) {ws1 ws2 : va_W} {rm1 rm2 : Room} {mc1 ms1 mc2 ms2 : Nat} {fs2 : List Value} {po1 : (Nat → Nat) → va_W} {K T : Int32} (hK : ¬ K = 0) (hTK : T = K) {r2 : UInt64} (hT : fs2[6]? = some (.int T)) (is1 : List Nat) (hi1 : is1.map (fun i => (WL g qx u qm v qo qd)[i]?) = ws1.map some) (hn1 : va_nd is1 = true) (hd1 : ∀ i ∈ [48, 49, 50, 51, 52, 53, 54, 55, 56, 57, 58, 59, 60, 61, 62, 63, 64, 65, 66, 67, 68, 69, 70, 71], i ∉ is1) (M1 : ∀ sz, Met l yL_lostShare [Cond.codeWith yL_lostShare cL_lostShare 3 (some .int) [(0, 7, 10, 124)]] rm1 (va_Pc [.ref qx, .ref qd] (PZ g sz ws1)) (QI g ws1 sz K po1) mc1 ms1 (va_A ws1 sz)) (hrc1 : rm1.cells = mc1) (hrs1 : rm1.slots = ms1) (hR1 : rm1.frames + 1 ≤ room_1.frames ∧ 8 + (3 + 11) + rm1.locals ≤ room_1.locals) (hc1 : mc1 ≤ 100000 ∧ ms1 ≤ 1000000) (is2 : List Nat) (hi2 : is2.map (fun i => (WM g qm v)[i]?) = ws2.map some) (hn2 : va_nd is2 = true) (hd2 : ∀ i ∈ is2, i < 24) (M2 : ∀ sz, Met l yX10_lostShare [Cond.code yX10_lostShare cX10_lostShare 3 (some .double)] rm2 (va_Pc [.ref qm] (PX g sz ws2)) (QD g ws2 sz r2 (fun _ => [(qm, .inr (12, fs2))])) mc2 ms2 (va_A ws2 sz)) (hrc2 : rm2.cells = mc2) (hrs2 : rm2.slots = ms2) (hR2 : rm2.frames + 1 ≤ room_1.frames ∧ 8 + (3 + 11) + rm2.locals ≤ room_1.locals) (hc2 : mc2 ≤ 100000 ∧ ms2 ≤ 1000000) : W p l e room_1 s m #[Value.ref b] below meth c H locs 146 20899 (lw_Z below #[Value.ref b] s) (F0 m 2429 ls []) := by
  have hx := C.hx
  have hb := C.hb
  have hml := C.hml
  have hown := C.hown
  have hE := C.hE
  have hz := C.hz
  have hA : ∀ q, s.heap.size ≤ q → LA s q := LA_new
  refine lv_aload_n hx hb dL_law_2429 rfl (lv_at hl 4 rfl) ?_
  refine lv_aload hx hb dL_law_2430 (lv_at hl 1 rfl) ?_
  refine g_i (wr := WM g qm v) (rSW (rest := []) hx hb hml hown hE hP hD hS hA hz (M1 H.size) (kSW_L_lostShare hE (e1094 hE) hrc1 hrs1 hR1) is1 hi1 hn1 rfl hl.1 rfl (lv_room (Nat.le_of_ble_eq_true rfl)) dL_law_2432 ⟨by rw [rm_c]; omega, by rw [rm_s]; omega⟩) hP hD hS hA is1 [48, 49, 50, 51, 52, 53, 54, 55, 56, 57, 58, 59, 60, 61, 62, 63, 64, 65, 66, 67, 68, 69, 70, 71] hi1 rfl (by decide) hd1 (fun u1 H locs hP hD hS => ?_)
  refine lv_istore (lv' := [(6, .int K), (5, .int 0), (4, .ref qd), (3, .ref qo), (2, .ref qm), (1, .ref qx), (0, .ref b)]) hx hb dL_law_2435 hl (by decide) rfl (fun ls hl => ?_)
  refine lv_aload_n hx hb dL_law_2437 rfl (lv_at hl 4 rfl) ?_
  refine g_d (wr := []) (rV (rest := []) hx hb hml hown hE hP hD 23 rfl rfl (M2 H.size) (kV_X10_lostShare hE (e1696 hE) hrc2 hrs2 hR2) is2 (sub_app hi2) hn2 rfl hl.1 rfl (lv_room (Nat.le_of_ble_eq_true rfl)) dL_law_2438 ⟨by rw [rm_c]; omega, by rw [rm_s]; omega⟩) hP hD hS hA is2 [] (sub_app hi2) rfl (by decide) (fun i hi => absurd hi List.not_mem_nil) (fun u2 H locs hP hD hS => ?_)
  refine lv_dstore (lv' := [(7, .double r2), (6, .int K), (5, .int 0), (4, .ref qd), (3, .ref qo), (2, .ref qm), (1, .ref qx), (0, .ref b)]) hx hb dL_law_2441 hl (by decide) rfl (fun ls hl => ?_)
  refine lv_aload_n hx hb dL_law_2443 rfl (lv_at hl 5 rfl) ?_
  refine g_i (wr := []) (rV (rest := []) hx hb hml hown hE hP hD 0 rfl rfl (h_thrown l g qm fs2 T hT H.size) (kV_X10_thrown hE (e1412 hE) rfl rfl ⟨(Nat.le_of_ble_eq_true rfl), (Nat.le_of_ble_eq_true rfl)⟩) [0] rfl (by decide) rfl hl.1 rfl (lv_room (Nat.le_of_ble_eq_true rfl)) dL_law_2444 ⟨by rw [rm_c]; omega, by rw [rm_s]; omega⟩) hP hD hS hA [0] [] rfl rfl (by decide) (by decide) (fun u3 H locs hP hD hS => ?_)
  refine lv_iload hx hb dL_law_2447 (lv_at hl 1 rfl) ?_
  refine lv_icmp_eq (tgt := 2454) hx hb dL_law_2449 (by decide) (fun _ => ?_) (fun h => absurd hTK h)
  refine lv_iload hx hb dL_law_2454 (lv_at hl 1 rfl) ?_
  refine lv_if_ne (tgt := 2491) hx hb dL_law_2456 (by decide) (fun _ => ?_) (fun h => absurd hK h)
  refine lv_goto (tgt := 2958) hx hb dL_law_2491 (by decide) ?_
  exact lw_end C hS (lv_sub hl [2, 7] rfl) (by omega) (by omega)

set_option maxHeartbeats 4000000 in
set_option maxRecDepth 100000 in
theorem loK_noteOn (C : L0 p l s m meth c b 6 xs g) (hP : va_P g.1 vwCl (WL g qx u qm v qo qd) H) (hD : va_D (LA s) (WL g qx u qm v qo qd)) (hS : va_S (LA s) s.heap H locs) (hl : lv_has ls 9 [(5, .int 0), (4, .ref qd), (3, .ref qo), (2, .ref qm), (1, .ref qx), (0, .ref b)]) {a1 a2 : Int32} (x1 : xs 1 = a1) (x2 : xs 2 = a2) {ws1 ws2 : va_W} {rm1 rm2 : Room} {mc1 ms1 mc2 ms2 : Nat} {fs2 : List Value} {po1 : (Nat → Nat) → va_W} {K T : Int32} (hK : ¬ K = 0) (hTK : T = K) {r2 : Int32} (hT : fs2[6]? = some (.int T)) (is1 : List Nat) (hi1 : is1.map (fun i => (WL g qx u qm v qo qd)[i]?) = ws1.map some) (hn1 : va_nd is1 = true) (hd1 : ∀ i ∈ [48, 49, 50, 51, 52, 53, 54, 55, 56, 57, 58, 59, 60, 61, 62, 63, 64, 65, 66, 67, 68, 69, 70, 71], i ∉ is1) (M1 : ∀ sz, Met l yL_noteOn [Cond.codeWith yL_noteOn cL_noteOn 5 (some .int) [(0, 10, 13, 13), (0, 10, 17, 15), (0, 10, 21, 39)]] rm1 (va_Pc [.ref qx, .int a1, .int a2, .ref qo] (PZ g sz ws1)) (QI g ws1 sz K po1) mc1 ms1 (va_A ws1 sz)) (hrc1 : rm1.cells = mc1) (hrs1 : rm1.slots = ms1) (hR1 : rm1.frames + 1 ≤ room_1.frames ∧ 8 + (5 + 11) + rm1.locals ≤ room_1.locals) (hc1 : mc1 ≤ 100000 ∧ ms1 ≤ 1000000) (is2 : List Nat) (hi2 : is2.map (fun i => (WM g qm v)[i]?) = ws2.map some) (hn2 : va_nd is2 = true) (hd2 : ∀ i ∈ is2, i < 24) (M2 : ∀ sz, Met l yX10_noteOn [Cond.code yX10_noteOn cX10_noteOn 4 (some .int)] rm2 (va_Pc [.ref qm, .int a1, .int a2] (PX g sz ws2)) (QI g ws2 sz r2 (fun _ => [(qm, .inr (12, fs2))])) mc2 ms2 (va_A ws2 sz)) (hrc2 : rm2.cells = mc2) (hrs2 : rm2.slots = ms2) (hR2 : rm2.frames + 1 ≤ room_1.frames ∧ 8 + (4 + 11) + rm2.locals ≤ room_1.locals) (hc2 : mc2 ≤ 100000 ∧ ms2 ≤ 1000000) : W p l e room_1 s m #[Value.ref b] below meth c H locs 146 20899 (lw_Z below #[Value.ref b] s) (F0 m 2292 ls []) := by
  have hx := C.hx
  have hb := C.hb
  have hml := C.hml
  have hown := C.hown
  have hE := C.hE
  have hz := C.hz
  have hA : ∀ q, s.heap.size ≤ q → LA s q := LA_new
  refine lv_aload_n hx hb dL_law_2292 rfl (lv_at hl 4 rfl) ?_
  refine lv_aload_n hx hb dL_law_2293 rfl (lv_at hl 5 rfl) ?_
  refine lv_iload hx hb dL_law_2294 (lv_at hl 0 rfl) ?_
  refine lv_iconst (v := 1) hx hb dL_law_2296 (by decide) ?_
  refine x_iadd (v := 1) hx hb dL_law_2297 (by decide) ?_
  refine x_sld (z := a1) hx hb C.hX C.hbl C.hbA hS (x_in (by decide)) (k := 1) (by decide) x1 dL_law_2298 ?_
  refine lv_aload_n hx hb dL_law_2299 rfl (lv_at hl 5 rfl) ?_
  refine lv_iload hx hb dL_law_2300 (lv_at hl 0 rfl) ?_
  refine lv_iconst (v := 2) hx hb dL_law_2302 (by decide) ?_
  refine x_iadd (v := 2) hx hb dL_law_2303 (by decide) ?_
  refine x_sld (z := a2) hx hb C.hX C.hbl C.hbA hS (x_in (by decide)) (k := 2) (by decide) x2 dL_law_2304 ?_
  refine lv_aload_n hx hb dL_law_2305 rfl (lv_at hl 2 rfl) ?_
  refine g_i (wr := WM g qm v) (rSW (rest := []) hx hb hml hown hE hP hD hS hA hz (M1 H.size) (kSW_L_noteOn hE (e1067 hE) hrc1 hrs1 hR1) is1 hi1 hn1 rfl hl.1 rfl (lv_room (Nat.le_of_ble_eq_true rfl)) dL_law_2306 ⟨by rw [rm_c]; omega, by rw [rm_s]; omega⟩) hP hD hS hA is1 [48, 49, 50, 51, 52, 53, 54, 55, 56, 57, 58, 59, 60, 61, 62, 63, 64, 65, 66, 67, 68, 69, 70, 71] hi1 rfl (by decide) hd1 (fun u1 H locs hP hD hS => ?_)
  refine lv_istore (lv' := [(6, .int K), (5, .int 0), (4, .ref qd), (3, .ref qo), (2, .ref qm), (1, .ref qx), (0, .ref b)]) hx hb dL_law_2309 hl (by decide) rfl (fun ls hl => ?_)
  refine lv_aload_n hx hb dL_law_2311 rfl (lv_at hl 4 rfl) ?_
  refine lv_aload_n hx hb dL_law_2312 rfl (lv_at hl 6 rfl) ?_
  refine lv_iload hx hb dL_law_2313 (lv_at hl 1 rfl) ?_
  refine lv_iconst (v := 1) hx hb dL_law_2315 (by decide) ?_
  refine x_iadd (v := 1) hx hb dL_law_2316 (by decide) ?_
  refine x_sld (z := a1) hx hb C.hX C.hbl C.hbA hS (x_in (by decide)) (k := 1) (by decide) x1 dL_law_2317 ?_
  refine lv_aload_n hx hb dL_law_2318 rfl (lv_at hl 6 rfl) ?_
  refine lv_iload hx hb dL_law_2319 (lv_at hl 1 rfl) ?_
  refine lv_iconst (v := 2) hx hb dL_law_2321 (by decide) ?_
  refine x_iadd (v := 2) hx hb dL_law_2322 (by decide) ?_
  refine x_sld (z := a2) hx hb C.hX C.hbl C.hbA hS (x_in (by decide)) (k := 2) (by decide) x2 dL_law_2323 ?_
  refine g_i (wr := []) (rV (rest := []) hx hb hml hown hE hP hD 23 rfl rfl (M2 H.size) (kV_X10_noteOn hE (e1680 hE) hrc2 hrs2 hR2) is2 (sub_app hi2) hn2 rfl hl.1 rfl (lv_room (Nat.le_of_ble_eq_true rfl)) dL_law_2324 ⟨by rw [rm_c]; omega, by rw [rm_s]; omega⟩) hP hD hS hA is2 [] (sub_app hi2) rfl (by decide) (fun i hi => absurd hi List.not_mem_nil) (fun u2 H locs hP hD hS => ?_)
  refine lv_istore (lv' := [(7, .int r2), (6, .int K), (5, .int 0), (4, .ref qd), (3, .ref qo), (2, .ref qm), (1, .ref qx), (0, .ref b)]) hx hb dL_law_2327 hl (by decide) rfl (fun ls hl => ?_)
  refine lv_aload_n hx hb dL_law_2329 rfl (lv_at hl 5 rfl) ?_
  refine g_i (wr := []) (rV (rest := []) hx hb hml hown hE hP hD 0 rfl rfl (h_thrown l g qm fs2 T hT H.size) (kV_X10_thrown hE (e1412 hE) rfl rfl ⟨(Nat.le_of_ble_eq_true rfl), (Nat.le_of_ble_eq_true rfl)⟩) [0] rfl (by decide) rfl hl.1 rfl (lv_room (Nat.le_of_ble_eq_true rfl)) dL_law_2330 ⟨by rw [rm_c]; omega, by rw [rm_s]; omega⟩) hP hD hS hA [0] [] rfl rfl (by decide) (by decide) (fun u3 H locs hP hD hS => ?_)
  refine lv_iload hx hb dL_law_2333 (lv_at hl 1 rfl) ?_
  refine lv_icmp_eq (tgt := 2340) hx hb dL_law_2335 (by decide) (fun _ => ?_) (fun h => absurd hTK h)
  refine lv_iload hx hb dL_law_2340 (lv_at hl 1 rfl) ?_
  refine lv_if_ne (tgt := 2357) hx hb dL_law_2342 (by decide) (fun _ => ?_) (fun h => absurd hK h)
  refine lv_goto (tgt := 2958) hx hb dL_law_2357 (by decide) ?_
  exact lw_end C hS (lv_sub hl [2, 7] rfl) (by omega) (by omega)

set_option maxHeartbeats 4000000 in
set_option maxRecDepth 100000 in
theorem loK_setSwing (C : L0 p l s m meth c b 6 xs g) (hP : va_P g.1 vwCl (WL g qx u qm v qo qd) H) (hD : va_D (LA s) (WL g qx u qm v qo qd)) (hS : va_S (LA s) s.heap H locs) (hl : lv_has ls 9 [(5, .int 0), (4, .ref qd), (3, .ref qo), (2, .ref qm), (1, .ref qx), (0, .ref b)]) {a1 : Int32} (x1 : xs 1 = a1) {ws1 ws2 : va_W} {rm1 rm2 : Room} {mc1 ms1 mc2 ms2 : Nat} {fs2 : List Value} {po1 : (Nat → Nat) → va_W} {K T : Int32} (hK : ¬ K = 0) (hTK : T = K) {r2 : Int32} (hT : fs2[6]? = some (.int T)) (is1 : List Nat) (hi1 : is1.map (fun i => (WL g qx u qm v qo qd)[i]?) = ws1.map some) (hn1 : va_nd is1 = true) (hd1 : ∀ i ∈ [48, 49, 50, 51, 52, 53, 54, 55, 56, 57, 58, 59, 60, 61, 62, 63, 64, 65, 66, 67, 68, 69, 70, 71], i ∉ is1) (M1 : ∀ sz, Met l yL_setSwing [Cond.codeWith yL_setSwing cL_setSwing 4 (some .int) [(0, 9, 12, 15)]] rm1 (va_Pc [.ref qx, .int a1, .ref qo] (PZ g sz ws1)) (QI g ws1 sz K po1) mc1 ms1 (va_A ws1 sz)) (hrc1 : rm1.cells = mc1) (hrs1 : rm1.slots = ms1) (hR1 : rm1.frames + 1 ≤ room_1.frames ∧ 8 + (4 + 11) + rm1.locals ≤ room_1.locals) (hc1 : mc1 ≤ 100000 ∧ ms1 ≤ 1000000) (is2 : List Nat) (hi2 : is2.map (fun i => (WM g qm v)[i]?) = ws2.map some) (hn2 : va_nd is2 = true) (hd2 : ∀ i ∈ is2, i < 24) (M2 : ∀ sz, Met l yX10_setSwing [Cond.code yX10_setSwing cX10_setSwing 2 (some .int)] rm2 (va_Pc [.ref qm, .int a1] (PX g sz ws2)) (QI g ws2 sz r2 (fun _ => [(qm, .inr (12, fs2))])) mc2 ms2 (va_A ws2 sz)) (hrc2 : rm2.cells = mc2) (hrs2 : rm2.slots = ms2) (hR2 : rm2.frames + 1 ≤ room_1.frames ∧ 8 + (2 + 11) + rm2.locals ≤ room_1.locals) (hc2 : mc2 ≤ 100000 ∧ ms2 ≤ 1000000) : W p l e room_1 s m #[Value.ref b] below meth c H locs 146 20899 (lw_Z below #[Value.ref b] s) (F0 m 1564 ls []) := by
  have hx := C.hx
  have hb := C.hb
  have hml := C.hml
  have hown := C.hown
  have hE := C.hE
  have hz := C.hz
  have hA : ∀ q, s.heap.size ≤ q → LA s q := LA_new
  refine lv_aload_n hx hb dL_law_1564 rfl (lv_at hl 4 rfl) ?_
  refine lv_aload_n hx hb dL_law_1565 rfl (lv_at hl 5 rfl) ?_
  refine lv_iload hx hb dL_law_1566 (lv_at hl 0 rfl) ?_
  refine lv_iconst (v := 1) hx hb dL_law_1568 (by decide) ?_
  refine x_iadd (v := 1) hx hb dL_law_1569 (by decide) ?_
  refine x_sld (z := a1) hx hb C.hX C.hbl C.hbA hS (x_in (by decide)) (k := 1) (by decide) x1 dL_law_1570 ?_
  refine lv_aload_n hx hb dL_law_1571 rfl (lv_at hl 2 rfl) ?_
  refine g_i (wr := WM g qm v) (rSW (rest := []) hx hb hml hown hE hP hD hS hA hz (M1 H.size) (kSW_L_setSwing hE (e952 hE) hrc1 hrs1 hR1) is1 hi1 hn1 rfl hl.1 rfl (lv_room (Nat.le_of_ble_eq_true rfl)) dL_law_1572 ⟨by rw [rm_c]; omega, by rw [rm_s]; omega⟩) hP hD hS hA is1 [48, 49, 50, 51, 52, 53, 54, 55, 56, 57, 58, 59, 60, 61, 62, 63, 64, 65, 66, 67, 68, 69, 70, 71] hi1 rfl (by decide) hd1 (fun u1 H locs hP hD hS => ?_)
  refine lv_istore (lv' := [(6, .int K), (5, .int 0), (4, .ref qd), (3, .ref qo), (2, .ref qm), (1, .ref qx), (0, .ref b)]) hx hb dL_law_1575 hl (by decide) rfl (fun ls hl => ?_)
  refine lv_aload_n hx hb dL_law_1577 rfl (lv_at hl 4 rfl) ?_
  refine lv_aload_n hx hb dL_law_1578 rfl (lv_at hl 6 rfl) ?_
  refine lv_iload hx hb dL_law_1579 (lv_at hl 1 rfl) ?_
  refine lv_iconst (v := 1) hx hb dL_law_1581 (by decide) ?_
  refine x_iadd (v := 1) hx hb dL_law_1582 (by decide) ?_
  refine x_sld (z := a1) hx hb C.hX C.hbl C.hbA hS (x_in (by decide)) (k := 1) (by decide) x1 dL_law_1583 ?_
  refine g_i (wr := []) (rV (rest := []) hx hb hml hown hE hP hD 23 rfl rfl (M2 H.size) (kV_X10_setSwing hE (e1624 hE) hrc2 hrs2 hR2) is2 (sub_app hi2) hn2 rfl hl.1 rfl (lv_room (Nat.le_of_ble_eq_true rfl)) dL_law_1584 ⟨by rw [rm_c]; omega, by rw [rm_s]; omega⟩) hP hD hS hA is2 [] (sub_app hi2) rfl (by decide) (fun i hi => absurd hi List.not_mem_nil) (fun u2 H locs hP hD hS => ?_)
  refine lv_istore (lv' := [(7, .int r2), (6, .int K), (5, .int 0), (4, .ref qd), (3, .ref qo), (2, .ref qm), (1, .ref qx), (0, .ref b)]) hx hb dL_law_1587 hl (by decide) rfl (fun ls hl => ?_)
  refine lv_aload_n hx hb dL_law_1589 rfl (lv_at hl 5 rfl) ?_
  refine g_i (wr := []) (rV (rest := []) hx hb hml hown hE hP hD 0 rfl rfl (h_thrown l g qm fs2 T hT H.size) (kV_X10_thrown hE (e1412 hE) rfl rfl ⟨(Nat.le_of_ble_eq_true rfl), (Nat.le_of_ble_eq_true rfl)⟩) [0] rfl (by decide) rfl hl.1 rfl (lv_room (Nat.le_of_ble_eq_true rfl)) dL_law_1590 ⟨by rw [rm_c]; omega, by rw [rm_s]; omega⟩) hP hD hS hA [0] [] rfl rfl (by decide) (by decide) (fun u3 H locs hP hD hS => ?_)
  refine lv_iload hx hb dL_law_1593 (lv_at hl 1 rfl) ?_
  refine lv_icmp_eq (tgt := 1600) hx hb dL_law_1595 (by decide) (fun _ => ?_) (fun h => absurd hTK h)
  refine lv_iload hx hb dL_law_1600 (lv_at hl 1 rfl) ?_
  refine lv_if_ne (tgt := 1617) hx hb dL_law_1602 (by decide) (fun _ => ?_) (fun h => absurd hK h)
  refine lv_goto (tgt := 2958) hx hb dL_law_1617 (by decide) ?_
  exact lw_end C hS (lv_sub hl [2, 7] rfl) (by omega) (by omega)

set_option maxHeartbeats 4000000 in
set_option maxRecDepth 100000 in
theorem loK_tickAt (C : L0 p l s m meth c b 6 xs g) (hP : va_P g.1 vwCl (WL g qx u qm v qo qd) H) (hD : va_D (LA s) (WL g qx u qm v qo qd)) (hS : va_S (LA s) s.heap H locs) (hl : lv_has ls 9 [(5, .int 0), (4, .ref qd), (3, .ref qo), (2, .ref qm), (1, .ref qx), (0, .ref b)]) {a1 : Int32} (x1 : xs 1 = a1) {ws1 ws2 : va_W} {rm1 rm2 : Room} {mc1 ms1 mc2 ms2 : Nat} {fs2 : List Value} {po1 : (Nat → Nat) → va_W} {K T : Int32} (hK : ¬ K = 0) (hTK : T = K) {r2 : Int32} (hT : fs2[6]? = some (.int T)) (is1 : List Nat) (hi1 : is1.map (fun i => (WL g qx u qm v qo qd)[i]?) = ws1.map some) (hn1 : va_nd is1 = true) (hd1 : ∀ i ∈ [48, 49, 50, 51, 52, 53, 54, 55, 56, 57, 58, 59, 60, 61, 62, 63, 64, 65, 66, 67, 68, 69, 70, 71], i ∉ is1) (M1 : ∀ sz, Met l yL_tickAt [Cond.codeWith yL_tickAt cL_tickAt 4 (some .int) [(0, 9, 12, 15)]] rm1 (va_Pc [.ref qx, .int a1, .ref qo] (PZ g sz ws1)) (QI g ws1 sz K po1) mc1 ms1 (va_A ws1 sz)) (hrc1 : rm1.cells = mc1) (hrs1 : rm1.slots = ms1) (hR1 : rm1.frames + 1 ≤ room_1.frames ∧ 8 + (4 + 11) + rm1.locals ≤ room_1.locals) (hc1 : mc1 ≤ 100000 ∧ ms1 ≤ 1000000) (is2 : List Nat) (hi2 : is2.map (fun i => (WM g qm v)[i]?) = ws2.map some) (hn2 : va_nd is2 = true) (hd2 : ∀ i ∈ is2, i < 24) (M2 : ∀ sz, Met l yX10_tickAt [Cond.code yX10_tickAt cX10_tickAt 5 (some .int)] rm2 (va_Pc [.ref qm, .int a1] (PX g sz ws2)) (QI g ws2 sz r2 (fun _ => [(qm, .inr (12, fs2))])) mc2 ms2 (va_A ws2 sz)) (hrc2 : rm2.cells = mc2) (hrs2 : rm2.slots = ms2) (hR2 : rm2.frames + 1 ≤ room_1.frames ∧ 8 + (5 + 11) + rm2.locals ≤ room_1.locals) (hc2 : mc2 ≤ 100000 ∧ ms2 ≤ 1000000) : W p l e room_1 s m #[Value.ref b] below meth c H locs 146 20899 (lw_Z below #[Value.ref b] s) (F0 m 1704 ls []) := by
  have hx := C.hx
  have hb := C.hb
  have hml := C.hml
  have hown := C.hown
  have hE := C.hE
  have hz := C.hz
  have hA : ∀ q, s.heap.size ≤ q → LA s q := LA_new
  refine lv_aload_n hx hb dL_law_1704 rfl (lv_at hl 4 rfl) ?_
  refine lv_aload_n hx hb dL_law_1705 rfl (lv_at hl 5 rfl) ?_
  refine lv_iload hx hb dL_law_1706 (lv_at hl 0 rfl) ?_
  refine lv_iconst (v := 1) hx hb dL_law_1708 (by decide) ?_
  refine x_iadd (v := 1) hx hb dL_law_1709 (by decide) ?_
  refine x_sld (z := a1) hx hb C.hX C.hbl C.hbA hS (x_in (by decide)) (k := 1) (by decide) x1 dL_law_1710 ?_
  refine lv_aload_n hx hb dL_law_1711 rfl (lv_at hl 2 rfl) ?_
  refine g_i (wr := WM g qm v) (rSW (rest := []) hx hb hml hown hE hP hD hS hA hz (M1 H.size) (kSW_L_tickAt hE (e968 hE) hrc1 hrs1 hR1) is1 hi1 hn1 rfl hl.1 rfl (lv_room (Nat.le_of_ble_eq_true rfl)) dL_law_1712 ⟨by rw [rm_c]; omega, by rw [rm_s]; omega⟩) hP hD hS hA is1 [48, 49, 50, 51, 52, 53, 54, 55, 56, 57, 58, 59, 60, 61, 62, 63, 64, 65, 66, 67, 68, 69, 70, 71] hi1 rfl (by decide) hd1 (fun u1 H locs hP hD hS => ?_)
  refine lv_istore (lv' := [(6, .int K), (5, .int 0), (4, .ref qd), (3, .ref qo), (2, .ref qm), (1, .ref qx), (0, .ref b)]) hx hb dL_law_1715 hl (by decide) rfl (fun ls hl => ?_)
  refine lv_aload_n hx hb dL_law_1717 rfl (lv_at hl 4 rfl) ?_
  refine lv_aload_n hx hb dL_law_1718 rfl (lv_at hl 6 rfl) ?_
  refine lv_iload hx hb dL_law_1719 (lv_at hl 1 rfl) ?_
  refine lv_iconst (v := 1) hx hb dL_law_1721 (by decide) ?_
  refine x_iadd (v := 1) hx hb dL_law_1722 (by decide) ?_
  refine x_sld (z := a1) hx hb C.hX C.hbl C.hbA hS (x_in (by decide)) (k := 1) (by decide) x1 dL_law_1723 ?_
  refine g_i (wr := []) (rV (rest := []) hx hb hml hown hE hP hD 23 rfl rfl (M2 H.size) (kV_X10_tickAt hE (e1636 hE) hrc2 hrs2 hR2) is2 (sub_app hi2) hn2 rfl hl.1 rfl (lv_room (Nat.le_of_ble_eq_true rfl)) dL_law_1724 ⟨by rw [rm_c]; omega, by rw [rm_s]; omega⟩) hP hD hS hA is2 [] (sub_app hi2) rfl (by decide) (fun i hi => absurd hi List.not_mem_nil) (fun u2 H locs hP hD hS => ?_)
  refine lv_istore (lv' := [(7, .int r2), (6, .int K), (5, .int 0), (4, .ref qd), (3, .ref qo), (2, .ref qm), (1, .ref qx), (0, .ref b)]) hx hb dL_law_1727 hl (by decide) rfl (fun ls hl => ?_)
  refine lv_aload_n hx hb dL_law_1729 rfl (lv_at hl 5 rfl) ?_
  refine g_i (wr := []) (rV (rest := []) hx hb hml hown hE hP hD 0 rfl rfl (h_thrown l g qm fs2 T hT H.size) (kV_X10_thrown hE (e1412 hE) rfl rfl ⟨(Nat.le_of_ble_eq_true rfl), (Nat.le_of_ble_eq_true rfl)⟩) [0] rfl (by decide) rfl hl.1 rfl (lv_room (Nat.le_of_ble_eq_true rfl)) dL_law_1730 ⟨by rw [rm_c]; omega, by rw [rm_s]; omega⟩) hP hD hS hA [0] [] rfl rfl (by decide) (by decide) (fun u3 H locs hP hD hS => ?_)
  refine lv_iload hx hb dL_law_1733 (lv_at hl 1 rfl) ?_
  refine lv_icmp_eq (tgt := 1740) hx hb dL_law_1735 (by decide) (fun _ => ?_) (fun h => absurd hTK h)
  refine lv_iload hx hb dL_law_1740 (lv_at hl 1 rfl) ?_
  refine lv_if_ne (tgt := 1757) hx hb dL_law_1742 (by decide) (fun _ => ?_) (fun h => absurd hK h)
  refine lv_goto (tgt := 2958) hx hb dL_law_1757 (by decide) ?_
  exact lw_end C hS (lv_sub hl [2, 7] rfl) (by omega) (by omega)

end LAW9
