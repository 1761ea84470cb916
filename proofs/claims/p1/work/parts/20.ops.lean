set_option maxHeartbeats 4000000 in
set_option maxRecDepth 100000 in
theorem c70_X9_requireRange (l : Launch) (g : gG) (hlx : l.stackTraces = false) (x1 : Int32) (h2 : x1 < 0) (sz : Nat) : vx_Met l yX9_requireRange [Cond.code yX9_requireRange cX9_requireRange 3 none] ({ frames := 6, cells := 1, slots := 6, locals := 100 } : Room) (va_Pc [.int x1, .int 0, .int 40000000] (PZ g sz [])) NV (XW g [] sz "java/lang/IllegalArgumentException" []) 1 6 (va_A [] sz) := by
  refine ofX (by decide) (Nat.le_of_ble_eq_true rfl) rfl ?_
  intro p e s m args below meth c A ls hAe hsz hx hb hml hr hlocks hin hown hE hP hD hA hS hl hex hz
  have hown : s.vm.findClass RX9 = some m.cls := hown
  refine lv_iload_n hx hb dX9_requireRange_0 rfl (lv_at hl 0 rfl) ?_
  refine lv_iload_n hx hb dX9_requireRange_1 rfl (lv_at hl 1 rfl) ?_
  refine lv_icmp_lt (tgt := 10) hx hb dX9_requireRange_2 (by decide) (fun _ => ?_) (fun h => absurd h2 h)
  exact x_throwW (text := "a number is out of range") (names := ["java/lang/RuntimeException", "java/lang/Exception"]) hx hb hlx hown hE (by decide) (by decide) (e639 hE) (e20 hE) (by decide +kernel) (th_215 hE) tg_215_211 hz (by rw [hml]; exact hl.1) dX9_requireRange_10 dX9_requireRange_13 dX9_requireRange_14 dX9_requireRange_17 dX9_requireRange_20 hex (Nat.le_of_ble_eq_true rfl) (Nat.le_of_ble_eq_true rfl) (Nat.le_of_ble_eq_true rfl) (Nat.le_of_ble_eq_true rfl) hlocks hP hD hS hAe hsz (Nat.le_of_ble_eq_true rfl) (Nat.le_of_ble_eq_true rfl) [] (by decide) rfl

set_option maxHeartbeats 4000000 in
set_option maxRecDepth 100000 in
theorem c71_X9_requireTime (l : Launch) (g : gG) (hlx : l.stackTraces = false) (x1 : Int32) (h2 : x1 < 0) (sz : Nat) : vx_Met l yX9_requireTime [Cond.code yX9_requireTime cX9_requireTime 1 none] ({ frames := 7, cells := 1, slots := 6, locals := 122 } : Room) (va_Pc [.int x1] (PZ g sz [])) NV (XW g [] sz "java/lang/IllegalArgumentException" []) 1 6 (va_A [] sz) := by
  refine ofX (by decide) (Nat.le_of_ble_eq_true rfl) rfl ?_
  intro p e s m args below meth c A ls hAe hsz hx hb hml hr hlocks hin hown hE hP hD hA hS hl hex hz
  have hown : s.vm.findClass RX9 = some m.cls := hown
  refine lv_iload_n hx hb dX9_requireTime_0 rfl (lv_at hl 0 rfl) ?_
  refine lv_iconst (v := 0) hx hb dX9_requireTime_1 (by decide) ?_
  refine lv_ldcw (v := 40000000) hx hb hown (e978 hE) dX9_requireTime_2 ?_
  refine gx_v (wr := []) (rSx (rest := []) hx hb hml hown hE hP hD hS hA hz (c70_X9_requireRange l g hlx x1 h2 s.heap.size) (kS_X9_requireRange hE (e636 hE) rfl rfl ⟨(Nat.le_of_ble_eq_true rfl), (Nat.le_of_ble_eq_true rfl)⟩) [] rfl (by decide) rfl hl.1 rfl (lv_room (Nat.le_of_ble_eq_true rfl)) dX9_requireTime_5 ⟨(Nat.le_of_ble_eq_true rfl), (Nat.le_of_ble_eq_true rfl)⟩) hP hD hS hA [] [] rfl rfl (by decide) (by decide) (fun ce9 q9 H locs hP hD hS hq1 hq2 hq3 => ?_)
  exact x_out hex hlocks hq1 hq2 hq3 hP hD hS hAe hsz (Nat.le_of_ble_eq_true rfl) (Nat.le_of_ble_eq_true rfl) [] (by decide) rfl

set_option maxHeartbeats 4000000 in
set_option maxRecDepth 100000 in
theorem c72_X9_tickAt (l : Launch) (g : gG) (hlx : l.stackTraces = false) (q1 : Nat) (x2 : Int32) (h3 : x2 < 0) (sz : Nat) : vx_Met l yX9_tickAt [Cond.code yX9_tickAt cX9_tickAt 2 (some .int)] ({ frames := 8, cells := 1, slots := 6, locals := 142 } : Room) (va_Pc [.ref q1, .int x2] (PZ g sz [])) NI (XW g [] sz "java/lang/IllegalArgumentException" []) 1 6 (va_A [] sz) := by
  refine ofX (by decide) (Nat.le_of_ble_eq_true rfl) rfl ?_
  intro p e s m args below meth c A ls hAe hsz hx hb hml hr hlocks hin hown hE hP hD hA hS hl hex hz
  have hown : s.vm.findClass RX9 = some m.cls := hown
  refine lv_iload_n hx hb dX9_tickAt_0 rfl (lv_at hl 1 rfl) ?_
  refine gx_v (wr := []) (rSx (rest := []) hx hb hml hown hE hP hD hS hA hz (c71_X9_requireTime l g hlx x2 h3 s.heap.size) (kS_X9_requireTime hE (e975 hE) rfl rfl ⟨(Nat.le_of_ble_eq_true rfl), (Nat.le_of_ble_eq_true rfl)⟩) [] rfl (by decide) rfl hl.1 rfl (lv_room (Nat.le_of_ble_eq_true rfl)) dX9_tickAt_1 ⟨(Nat.le_of_ble_eq_true rfl), (Nat.le_of_ble_eq_true rfl)⟩) hP hD hS hA [] [] rfl rfl (by decide) (by decide) (fun ce9 q9 H locs hP hD hS hq1 hq2 hq3 => ?_)
  exact x_out hex hlocks hq1 hq2 hq3 hP hD hS hAe hsz (Nat.le_of_ble_eq_true rfl) (Nat.le_of_ble_eq_true rfl) [] (by decide) rfl

set_option maxHeartbeats 4000000 in
set_option maxRecDepth 100000 in
theorem c73_L_tickAt (l : Launch) (g : gG) (hlx : l.stackTraces = false) (q1 q3 : Nat) (x2 : Int32) (w5 w6 w7 w8 w9 w10 w11 w12 w13 w14 w15 : Value) (h4 : x2 < 0) (sz : Nat) : Met l yL_tickAt [Cond.codeWith yL_tickAt cL_tickAt 4 (some .int) [(0, 9, 12, 15)]] ({ frames := 9, cells := 1, slots := 6, locals := 163 } : Room) (va_Pc [.ref q1, .int x2, .ref q3] (PZ g sz [(q1, .inr (11, [w5, w6, w7, w8, w9, w10, w11, w12, w13, w14, w15]))])) (QI g [(q1, .inr (11, [w5, w6, w7, w8, w9, w10, w11, w12, w13, w14, w15]))] sz 1 (fun _ => [])) 1 6 (va_A [(q1, .inr (11, [w5, w6, w7, w8, w9, w10, w11, w12, w13, w14, w15]))] sz) := by
  refine ofH (by decide) (Nat.le_of_ble_eq_true rfl) rfl ?_
  intro p e s m args below meth c A ls hAe hsz hx hb hml hr hlocks hin hown hE hP hD hA hS hl htb hz
  have hown : s.vm.findClass RL = some m.cls := hown
  refine lv_aload_n hx hb dL_tickAt_0 rfl (lv_at hl 2 rfl) ?_
  refine lv_iconst (v := 0) hx hb dL_tickAt_1 (by decide) ?_
  refine lv_aload_n hx hb dL_tickAt_2 rfl (lv_at hl 0 rfl) ?_
  refine lv_iload_n hx hb dL_tickAt_3 rfl (lv_at hl 1 rfl) ?_
  refine gx_i (wr := [(q1, .inr (11, [w5, w6, w7, w8, w9, w10, w11, w12, w13, w14, w15]))]) (rVx (rest := [.int 0, .ref q3]) hx hb hml hown hE hP hD hS hA hz 0 rfl rfl (c72_X9_tickAt l g hlx q1 x2 h4 s.heap.size) (kV_X9_tickAt hE (e971 hE) rfl rfl ⟨(Nat.le_of_ble_eq_true rfl), (Nat.le_of_ble_eq_true rfl)⟩) [] rfl (by decide) rfl hl.1 rfl (lv_room (Nat.le_of_ble_eq_true rfl)) dL_tickAt_4 ⟨(Nat.le_of_ble_eq_true rfl), (Nat.le_of_ble_eq_true rfl)⟩) hP hD hS hA [] [0] rfl rfl (by decide) (by decide) (fun ce9 q9 H locs hP hD hS hq1 hq2 hq3 => ?_)
  have hP : va_P g.1 vwCl [(q1, .inr (11, [w5, w6, w7, w8, w9, w10, w11, w12, w13, w14, w15]))] H := hP
  have hD : va_D A [(q1, .inr (11, [w5, w6, w7, w8, w9, w10, w11, w12, w13, w14, w15]))] := hD
  refine x_catch (name := "java/lang/IllegalArgumentException") (hh := [(0, 9, 12, 15)]) (tgt := 12) hown htb [] ⟨0, 9, 12, 15⟩ [] rfl (fun _ h => nomatch h) rfl (by decide) (e611 hE) (e641 hE) hq1 hq2 hq3 rfl ?_
  refine lv_astore_n (lv' := [(3, .ref q9), (0, .ref q1), (1, .int x2), (2, .ref q3)]) hx hb dL_tickAt_12 rfl hl (by decide) rfl (fun ls hl => ?_)
  refine lv_iconst (v := 1) hx hb dL_tickAt_13 (by decide) ?_
  exact x_zret hx hb hr rfl rfl hlocks hP hD hS hAe hsz (Nat.le_of_ble_eq_true rfl) (Nat.le_of_ble_eq_true rfl) (fun _ => 0) [] (by decide) rfl dL_tickAt_14

set_option maxHeartbeats 4000000 in
set_option maxRecDepth 100000 in
theorem c74_X10_in (l : Launch) (g : gG) (x1 : Int32) (h2 : x1 < 0) (sz : Nat) : Met l yX10_in [Cond.code yX10_in cX10_in 3 (some .boolean)] ({ frames := 0, cells := 0, slots := 0, locals := 0 } : Room) (va_Pc [.int x1, .int 0, .int 40000000] (PX g sz [])) (QI g [] sz 0 (fun _ => [])) 0 0 (va_A [] sz) := by
  refine ofN (by decide) (Nat.le_of_ble_eq_true rfl) rfl ?_
  intro p e s m args below meth c A ls hAe hsz hx hb hml hr hlocks hin hown hE hP hD hA hS hl
  have hown : s.vm.findClass RX10 = some m.cls := hown
  refine lv_iload_n hx hb dX10_in_0 rfl (lv_at hl 0 rfl) ?_
  refine lv_iload_n hx hb dX10_in_1 rfl (lv_at hl 1 rfl) ?_
  refine lv_icmp_lt (tgt := 14) hx hb dX10_in_2 (by decide) (fun _ => ?_) (fun h => absurd h2 h)
  refine lv_iconst (v := 0) hx hb dX10_in_14 (by decide) ?_
  exact x_zret hx hb hr rfl rfl hlocks hP hD hS hAe hsz (Nat.le_of_ble_eq_true rfl) (Nat.le_of_ble_eq_true rfl) (fun _ => 0) [] (by decide) rfl dX10_in_15

set_option maxHeartbeats 4000000 in
set_option maxRecDepth 100000 in
theorem c75_X10_tickAt (l : Launch) (g : gG) (q1 : Nat) (x2 : Int32) (w4 w5 w6 w7 w8 w9 w10 w11 w12 w13 w14 w15 w16 w17 w18 w19 w20 w21 w22 w23 w24 w25 w26 w27 w28 w29 w30 w31 w32 w33 w34 w35 w36 w37 w38 w39 w40 : Value) (h3 : x2 < 0) (sz : Nat) : Met l yX10_tickAt [Cond.code yX10_tickAt cX10_tickAt 5 (some .int)] ({ frames := 1, cells := 0, slots := 0, locals := 22 } : Room) (va_Pc [.ref q1, .int x2] (PX g sz [(q1, .inr (12, [w4, w5, w6, w7, w8, w9, w10, w11, w12, w13, w14, w15, w16, w17, w18, w19, w20, w21, w22, w23, w24, w25, w26, w27, w28, w29, w30, w31, w32, w33, w34, w35, w36, w37, w38, w39, w40]))])) (QI g [(q1, .inr (12, [w4, w5, w6, w7, w8, w9, w10, w11, w12, w13, w14, w15, w16, w17, w18, w19, w20, w21, w22, w23, w24, w25, w26, w27, w28, w29, w30, w31, w32, w33, w34, w35, w36, w37, w38, w39, w40]))] sz 0 (fun _ => [(q1, .inr (12, [w4, w5, w6, w7, w8, w9, .int 1, w11, w12, w13, w14, w15, w16, w17, w18, w19, w20, w21, w22, w23, w24, w25, w26, w27, w28, w29, w30, w31, w32, w33, w34, w35, w36, w37, w38, w39, w40]))])) 0 0 (va_A [(q1, .inr (12, [w4, w5, w6, w7, w8, w9, w10, w11, w12, w13, w14, w15, w16, w17, w18, w19, w20, w21, w22, w23, w24, w25, w26, w27, w28, w29, w30, w31, w32, w33, w34, w35, w36, w37, w38, w39, w40]))] sz) := by
  refine ofN (by decide) (Nat.le_of_ble_eq_true rfl) rfl ?_
  intro p e s m args below meth c A ls hAe hsz hx hb hml hr hlocks hin hown hE hP hD hA hS hl
  have hown : s.vm.findClass RX10 = some m.cls := hown
  refine lv_aload_n hx hb dX10_tickAt_0 rfl (lv_at hl 0 rfl) ?_
  refine lv_iload_n hx hb dX10_tickAt_1 rfl (lv_at hl 1 rfl) ?_
  refine lv_iconst (v := 0) hx hb dX10_tickAt_2 (by decide) ?_
  refine lv_ldc (v := 40000000) hx hb hown (e1640 hE) dX10_tickAt_3 ?_
  refine g0_i (rS (rest := [.ref q1]) hx hb hml hown hE hP hD (c74_X10_in l g x2 h3 s.heap.size) (kS_X10_in hE (e1431 hE) rfl rfl ⟨(Nat.le_of_ble_eq_true rfl), (Nat.le_of_ble_eq_true rfl)⟩) [] rfl (by decide) rfl hl.1 rfl (lv_room (Nat.le_of_ble_eq_true rfl)) dX10_tickAt_5 ⟨(Nat.le_of_ble_eq_true rfl), (Nat.le_of_ble_eq_true rfl)⟩) hP hD hS hA (fun u9 H locs hP hS => ?_)
  refine lv_if_eq (tgt := 15) hx hb dX10_tickAt_8 (by decide) (fun _ => ?_) (fun h => absurd (by decide) h)
  refine lv_iconst (v := 1) hx hb dX10_tickAt_15 (by decide) ?_
  refine pf_RX10_86 (ws' := [(q1, .inr (12, [w4, w5, w6, w7, w8, w9, .int 1, w11, w12, w13, w14, w15, w16, w17, w18, w19, w20, w21, w22, w23, w24, w25, w26, w27, w28, w29, w30, w31, w32, w33, w34, w35, w36, w37, w38, w39, w40]))]) hx hb hown hE hP hD hS 0 rfl rfl rfl (Nat.le_of_ble_eq_true rfl) dX10_tickAt_16 rfl (fun H locs hP hD hS => ?_)
  refine lv_aload_n hx hb dX10_tickAt_19 rfl (lv_at hl 0 rfl) ?_
  refine gf_RX10_86 hx hb hown hE hP 0 rfl rfl dX10_tickAt_20 ?_
  refine lv_if_le (tgt := 28) hx hb dX10_tickAt_23 (by decide) (fun h => absurd h (by decide)) (fun _ => ?_)
  refine lv_iconst (v := 0) hx hb dX10_tickAt_26 (by decide) ?_
  exact x_zret hx hb hr rfl rfl hlocks hP hD hS hAe hsz (Nat.le_of_ble_eq_true rfl) (Nat.le_of_ble_eq_true rfl) (fun _ => 0) [0] (by decide) rfl dX10_tickAt_27

set_option maxHeartbeats 4000000 in
set_option maxRecDepth 100000 in
theorem c76_X9_requireRange (l : Launch) (g : gG) (x1 : Int32) (h2 : (0 : Int32) ≤ x1) (h3 : x1 ≤ 40000000) (sz : Nat) : Met l yX9_requireRange [Cond.code yX9_requireRange cX9_requireRange 3 none] ({ frames := 0, cells := 0, slots := 0, locals := 0 } : Room) (va_Pc [.int x1, .int 0, .int 40000000] (PX g sz [])) (QV g [] sz (fun _ => [])) 0 0 (va_A [] sz) := by
  refine ofN (by decide) (Nat.le_of_ble_eq_true rfl) rfl ?_
  intro p e s m args below meth c A ls hAe hsz hx hb hml hr hlocks hin hown hE hP hD hA hS hl
  have hown : s.vm.findClass RX9 = some m.cls := hown
  refine lv_iload_n hx hb dX9_requireRange_0 rfl (lv_at hl 0 rfl) ?_
  refine lv_iload_n hx hb dX9_requireRange_1 rfl (lv_at hl 1 rfl) ?_
  refine lv_icmp_lt (tgt := 10) hx hb dX9_requireRange_2 (by decide) (fun h => absurd h (i_nlt h2)) (fun _ => ?_)
  refine lv_iload_n hx hb dX9_requireRange_5 rfl (lv_at hl 0 rfl) ?_
  refine lv_iload_n hx hb dX9_requireRange_6 rfl (lv_at hl 2 rfl) ?_
  refine lv_icmp_le (tgt := 21) hx hb dX9_requireRange_7 (by decide) (fun _ => ?_) (fun h => absurd h3 h)
  exact x_vret hx hb hr hlocks hP hD hS hAe hsz (Nat.le_of_ble_eq_true rfl) (Nat.le_of_ble_eq_true rfl) (fun _ => 0) [] (by decide) rfl dX9_requireRange_21

set_option maxHeartbeats 4000000 in
set_option maxRecDepth 100000 in
theorem c77_X9_requireTime (l : Launch) (g : gG) (x1 : Int32) (h2 : (0 : Int32) ≤ x1) (h3 : x1 ≤ 40000000) (sz : Nat) : Met l yX9_requireTime [Cond.code yX9_requireTime cX9_requireTime 1 none] ({ frames := 1, cells := 0, slots := 0, locals := 22 } : Room) (va_Pc [.int x1] (PX g sz [])) (QV g [] sz (fun _ => [])) 0 0 (va_A [] sz) := by
  refine ofN (by decide) (Nat.le_of_ble_eq_true rfl) rfl ?_
  intro p e s m args below meth c A ls hAe hsz hx hb hml hr hlocks hin hown hE hP hD hA hS hl
  have hown : s.vm.findClass RX9 = some m.cls := hown
  refine lv_iload_n hx hb dX9_requireTime_0 rfl (lv_at hl 0 rfl) ?_
  refine lv_iconst (v := 0) hx hb dX9_requireTime_1 (by decide) ?_
  refine lv_ldcw (v := 40000000) hx hb hown (e978 hE) dX9_requireTime_2 ?_
  refine g0_v (rS (rest := []) hx hb hml hown hE hP hD (c76_X9_requireRange l g x1 h2 h3 s.heap.size) (kS_X9_requireRange hE (e636 hE) rfl rfl ⟨(Nat.le_of_ble_eq_true rfl), (Nat.le_of_ble_eq_true rfl)⟩) [] rfl (by decide) rfl hl.1 rfl (lv_room (Nat.le_of_ble_eq_true rfl)) dX9_requireTime_5 ⟨(Nat.le_of_ble_eq_true rfl), (Nat.le_of_ble_eq_true rfl)⟩) hP hD hS hA (fun u9 H locs hP hS => ?_)
  exact x_vret hx hb hr hlocks hP hD hS hAe hsz (Nat.le_of_ble_eq_true rfl) (Nat.le_of_ble_eq_true rfl) (fun _ => 0) [] (by decide) rfl dX9_requireTime_8

set_option maxHeartbeats 4000000 in
set_option maxRecDepth 100000 in
theorem c78_J9_floorMod_7cf53 (l : Launch) (g : gG) (sz : Nat) : Met l yJ9_floorMod_7cf53 [Cond.code yJ9_floorMod_7cf53 cJ9_floorMod_7cf53 3 (some .int)] ({ frames := 0, cells := 0, slots := 0, locals := 0 } : Room) (va_Pc [.int 0, .int 10] (PX g sz [])) (QI g [] sz 0 (fun _ => [])) 0 0 (va_A [] sz) := by
  refine ofN (by decide) (Nat.le_of_ble_eq_true rfl) rfl ?_
  intro p e s m args below meth c A ls hAe hsz hx hb hml hr hlocks hin hown hE hP hD hA hS hl
  have hown : s.vm.findClass RJ9 = some m.cls := hown
  refine lv_iload_n hx hb dJ9_floorMod_7cf53_0 rfl (lv_at hl 0 rfl) ?_
  refine lv_iload_n hx hb dJ9_floorMod_7cf53_1 rfl (lv_at hl 1 rfl) ?_
  refine lv_irem hx hb dJ9_floorMod_7cf53_2 (by decide) ?_
  refine x_top (v := 0) (by decide) ?_
  refine lv_istore_n (lv' := [(2, .int 0), (0, .int 0), (1, .int 10)]) hx hb dJ9_floorMod_7cf53_3 rfl hl (by decide) rfl (fun ls hl => ?_)
  refine lv_iload_n hx hb dJ9_floorMod_7cf53_4 rfl (lv_at hl 1 rfl) ?_
  refine lv_iload_n hx hb dJ9_floorMod_7cf53_5 rfl (lv_at hl 2 rfl) ?_
  refine x_ixor (v := 10) hx hb dJ9_floorMod_7cf53_6 (by decide) ?_
  refine lv_if_ge (tgt := 18) hx hb dJ9_floorMod_7cf53_7 (by decide) (fun _ => ?_) (fun h => absurd (by decide) h)
  refine lv_iload_n hx hb dJ9_floorMod_7cf53_18 rfl (lv_at hl 0 rfl) ?_
  exact x_zret hx hb hr rfl rfl hlocks hP hD hS hAe hsz (Nat.le_of_ble_eq_true rfl) (Nat.le_of_ble_eq_true rfl) (fun _ => 0) [] (by decide) rfl dJ9_floorMod_7cf53_19

set_option maxHeartbeats 4000000 in
set_option maxRecDepth 100000 in
theorem c79_X8_current (l : Launch) (g : gG) (q1 q5 q8 : Nat) (w4 : Value) (f6 : Nat → Option Nat) (hf7 : f6 0 = some q8) (sz : Nat) : Met l yX8_current [Cond.code yX8_current cX8_current 1 (some (.object "PatternSequencer$Song"))] ({ frames := 1, cells := 0, slots := 0, locals := 22 } : Room) (va_Pc [.ref q1] (PX g sz [(q5, .inl (g.2 3, 10, .inr (.inr (.inr (.inr f6))))), (q1, .inr (10, [.ref q5, .int 0, w4]))])) (QR g [(q5, .inl (g.2 3, 10, .inr (.inr (.inr (.inr f6))))), (q1, .inr (10, [.ref q5, .int 0, w4]))] sz q8 (fun _ => [(q5, .inl (g.2 3, 10, .inr (.inr (.inr (.inr f6))))), (q1, .inr (10, [.ref q5, .int 0, w4]))])) 0 0 (va_A [(q5, .inl (g.2 3, 10, .inr (.inr (.inr (.inr f6))))), (q1, .inr (10, [.ref q5, .int 0, w4]))] sz) := by
  refine ofN (by decide) (Nat.le_of_ble_eq_true rfl) rfl ?_
  intro p e s m args below meth c A ls hAe hsz hx hb hml hr hlocks hin hown hE hP hD hA hS hl
  have hown : s.vm.findClass RX8 = some m.cls := hown
  refine lv_aload_n hx hb dX8_current_0 rfl (lv_at hl 0 rfl) ?_
  refine gf_RX8_13 hx hb hown hE hP 1 rfl rfl dX8_current_1 ?_
  refine lv_aload_n hx hb dX8_current_4 rfl (lv_at hl 0 rfl) ?_
  refine gf_RX8_17 hx hb hown hE hP 1 rfl rfl dX8_current_5 ?_
  refine lv_bipush (v := 10) hx hb dX8_current_8 (by decide) ?_
  refine g0_i (rS (rest := [.ref q5]) hx hb hml hown hE hP hD (c78_J9_floorMod_7cf53 l g s.heap.size) (kS_J9_floorMod_7cf53 hE (e294 hE) rfl rfl ⟨(Nat.le_of_ble_eq_true rfl), (Nat.le_of_ble_eq_true rfl)⟩) [] rfl (by decide) rfl hl.1 rfl (lv_room (Nat.le_of_ble_eq_true rfl)) dX8_current_10 ⟨(Nat.le_of_ble_eq_true rfl), (Nat.le_of_ble_eq_true rfl)⟩) hP hD hS hA (fun u9 H locs hP hS => ?_)
  refine x_aald (v := q8) hx hb hE hP 0 rfl 0 (x_in (by decide)) (by decide) hf7 dX8_current_13 ?_
  exact x_aret hx hb hr (Or.inl ⟨_, rfl⟩) hlocks hP hD hS hAe hsz (Nat.le_of_ble_eq_true rfl) (Nat.le_of_ble_eq_true rfl) (fun _ => 0) [0, 1] (by decide) rfl dX8_current_14

set_option maxHeartbeats 4000000 in
set_option maxRecDepth 100000 in
theorem c80_X7_placeTick (l : Launch) (g : gG) (q1 q6 : Nat) (w3 w4 w5 : Value) (f7 : Nat → Int32) (hf8 : f7 0 = 0) (sz : Nat) : Met l yX7_placeTick [Cond.code yX7_placeTick cX7_placeTick 2 (some .int)] ({ frames := 0, cells := 0, slots := 0, locals := 0 } : Room) (va_Pc [.ref q1, .int 0] (PX g sz [(q6, .inl (g.2 0, 10, .inl f7)), (q1, .inr (9, [.ref q6, w3, w4, w5]))])) (QI g [(q6, .inl (g.2 0, 10, .inl f7)), (q1, .inr (9, [.ref q6, w3, w4, w5]))] sz 0 (fun _ => [(q6, .inl (g.2 0, 10, .inl f7)), (q1, .inr (9, [.ref q6, w3, w4, w5]))])) 0 0 (va_A [(q6, .inl (g.2 0, 10, .inl f7)), (q1, .inr (9, [.ref q6, w3, w4, w5]))] sz) := by
  refine ofN (by decide) (Nat.le_of_ble_eq_true rfl) rfl ?_
  intro p e s m args below meth c A ls hAe hsz hx hb hml hr hlocks hin hown hE hP hD hA hS hl
  have hown : s.vm.findClass RX7 = some m.cls := hown
  refine lv_iload_n hx hb dX7_placeTick_0 rfl (lv_at hl 1 rfl) ?_
  refine lv_if_lt (tgt := 22) hx hb dX7_placeTick_1 (by decide) (fun h => absurd h (by decide)) (fun _ => ?_)
  refine lv_iload_n hx hb dX7_placeTick_4 rfl (lv_at hl 1 rfl) ?_
  refine lv_aload_n hx hb dX7_placeTick_5 rfl (lv_at hl 0 rfl) ?_
  refine gf_RX7_9 hx hb hown hE hP 1 rfl rfl dX7_placeTick_6 ?_
  refine x_aleni (v := 10) hx hb hE hP 0 rfl rfl dX7_placeTick_9 ?_
  refine lv_icmp_ge (tgt := 22) hx hb dX7_placeTick_10 (by decide) (fun h => absurd h (by decide)) (fun _ => ?_)
  refine lv_aload_n hx hb dX7_placeTick_13 rfl (lv_at hl 0 rfl) ?_
  refine gf_RX7_9 hx hb hown hE hP 1 rfl rfl dX7_placeTick_14 ?_
  refine lv_iload_n hx hb dX7_placeTick_17 rfl (lv_at hl 1 rfl) ?_
  refine x_iald (v := 0) hx hb hE hP 0 rfl 0 (x_in (by decide)) (by decide) hf8 dX7_placeTick_18 ?_
  refine lv_goto (tgt := 23) hx hb dX7_placeTick_19 (by decide) ?_
  exact x_zret hx hb hr rfl rfl hlocks hP hD hS hAe hsz (Nat.le_of_ble_eq_true rfl) (Nat.le_of_ble_eq_true rfl) (fun _ => 0) [0, 1] (by decide) rfl dX7_placeTick_23

set_option maxHeartbeats 4000000 in
set_option maxRecDepth 100000 in
theorem c81_X7_placePace (l : Launch) (g : gG) (q1 q6 : Nat) (w2 w4 w5 : Value) (f7 : Nat → Int32) (hf8 : f7 0 = 100) (sz : Nat) : Met l yX7_placePace [Cond.code yX7_placePace cX7_placePace 2 (some .int)] ({ frames := 0, cells := 0, slots := 0, locals := 0 } : Room) (va_Pc [.ref q1, .int 0] (PX g sz [(q6, .inl (g.2 0, 10, .inl f7)), (q1, .inr (9, [w2, .ref q6, w4, w5]))])) (QI g [(q6, .inl (g.2 0, 10, .inl f7)), (q1, .inr (9, [w2, .ref q6, w4, w5]))] sz 100 (fun _ => [(q6, .inl (g.2 0, 10, .inl f7)), (q1, .inr (9, [w2, .ref q6, w4, w5]))])) 0 0 (va_A [(q6, .inl (g.2 0, 10, .inl f7)), (q1, .inr (9, [w2, .ref q6, w4, w5]))] sz) := by
  refine ofN (by decide) (Nat.le_of_ble_eq_true rfl) rfl ?_
  intro p e s m args below meth c A ls hAe hsz hx hb hml hr hlocks hin hown hE hP hD hA hS hl
  have hown : s.vm.findClass RX7 = some m.cls := hown
  refine lv_iload_n hx hb dX7_placePace_0 rfl (lv_at hl 1 rfl) ?_
  refine lv_if_lt (tgt := 22) hx hb dX7_placePace_1 (by decide) (fun h => absurd h (by decide)) (fun _ => ?_)
  refine lv_iload_n hx hb dX7_placePace_4 rfl (lv_at hl 1 rfl) ?_
  refine lv_aload_n hx hb dX7_placePace_5 rfl (lv_at hl 0 rfl) ?_
  refine gf_RX7_15 hx hb hown hE hP 1 rfl rfl dX7_placePace_6 ?_
  refine x_aleni (v := 10) hx hb hE hP 0 rfl rfl dX7_placePace_9 ?_
  refine lv_icmp_ge (tgt := 22) hx hb dX7_placePace_10 (by decide) (fun h => absurd h (by decide)) (fun _ => ?_)
  refine lv_aload_n hx hb dX7_placePace_13 rfl (lv_at hl 0 rfl) ?_
  refine gf_RX7_15 hx hb hown hE hP 1 rfl rfl dX7_placePace_14 ?_
  refine lv_iload_n hx hb dX7_placePace_17 rfl (lv_at hl 1 rfl) ?_
  refine x_iald (v := 100) hx hb hE hP 0 rfl 0 (x_in (by decide)) (by decide) hf8 dX7_placePace_18 ?_
  refine lv_goto (tgt := 23) hx hb dX7_placePace_19 (by decide) ?_
  exact x_zret hx hb hr rfl rfl hlocks hP hD hS hAe hsz (Nat.le_of_ble_eq_true rfl) (Nat.le_of_ble_eq_true rfl) (fun _ => 0) [0, 1] (by decide) rfl dX7_placePace_23

set_option maxHeartbeats 4000000 in
set_option maxRecDepth 100000 in
theorem c82_X7_lastTickBy (l : Launch) (g : gG) (q1 q8 q11 : Nat) (x2 : Int32) (w6 : Value) (f9 : Nat → Int32) (f12 : Nat → Int32) (hf10 : f9 0 = 0) (hf13 : f12 0 = 100) (h7 : (0 : Int32) ≤ x2) (h14 : (x2 / 100) < 30000) (sz : Nat) : Met l yX7_lastTickBy [Cond.code yX7_lastTickBy cX7_lastTickBy 8 (some .int)] ({ frames := 1, cells := 0, slots := 0, locals := 24 } : Room) (va_Pc [.ref q1, .int x2] (PX g sz [(q11, .inl (g.2 0, 10, .inl f12)), (q8, .inl (g.2 0, 10, .inl f9)), (q1, .inr (9, [.ref q8, .ref q11, .int 1, w6]))])) (QI g [(q11, .inl (g.2 0, 10, .inl f12)), (q8, .inl (g.2 0, 10, .inl f9)), (q1, .inr (9, [.ref q8, .ref q11, .int 1, w6]))] sz (x2 / 100) (fun _ => [(q8, .inl (g.2 0, 10, .inl f9)), (q11, .inl (g.2 0, 10, .inl f12)), (q1, .inr (9, [.ref q8, .ref q11, .int 1, w6]))])) 0 0 (va_A [(q11, .inl (g.2 0, 10, .inl f12)), (q8, .inl (g.2 0, 10, .inl f9)), (q1, .inr (9, [.ref q8, .ref q11, .int 1, w6]))] sz) := by
  refine ofN (by decide) (Nat.le_of_ble_eq_true rfl) rfl ?_
  intro p e s m args below meth c A ls hAe hsz hx hb hml hr hlocks hin hown hE hP hD hA hS hl
  have hown : s.vm.findClass RX7 = some m.cls := hown
  refine lv_iconst (v := 0) hx hb dX7_lastTickBy_0 (by decide) ?_
  refine lv_istore_n (lv' := [(2, .int 0), (0, .ref q1), (1, .int x2)]) hx hb dX7_lastTickBy_1 rfl hl (by decide) rfl (fun ls hl => ?_)
  refine lv_iconst (v := 0) hx hb dX7_lastTickBy_2 (by decide) ?_
  refine lv_istore_n (lv' := [(3, .int 0), (2, .int 0), (0, .ref q1), (1, .int x2)]) hx hb dX7_lastTickBy_3 rfl hl (by decide) rfl (fun ls hl => ?_)
  refine lv_iconst (v := 0) hx hb dX7_lastTickBy_4 (by decide) ?_
  refine lv_istore (lv' := [(4, .int 0), (3, .int 0), (2, .int 0), (0, .ref q1), (1, .int x2)]) hx hb dX7_lastTickBy_5 hl (by decide) rfl (fun ls hl => ?_)
  refine lv_iload hx hb dX7_lastTickBy_7 (lv_at hl 0 rfl) ?_
  refine lv_aload_n hx hb dX7_lastTickBy_9 rfl (lv_at hl 3 rfl) ?_
  refine gf_RX7_18 hx hb hown hE hP 2 rfl rfl dX7_lastTickBy_10 ?_
  refine lv_icmp_ge (tgt := 101) hx hb dX7_lastTickBy_13 (by decide) (fun h => absurd h (by decide)) (fun _ => ?_)
  refine lv_iload_n hx hb dX7_lastTickBy_16 rfl (lv_at hl 1 rfl) ?_
  refine lv_iload_n hx hb dX7_lastTickBy_17 rfl (lv_at hl 4 rfl) ?_
  refine lv_icmp_gt (tgt := 101) hx hb dX7_lastTickBy_18 (by decide) (fun h => absurd h (i_nlt h7)) (fun _ => ?_)
  refine lv_aload_n hx hb dX7_lastTickBy_21 rfl (lv_at hl 3 rfl) ?_
  refine lv_iload hx hb dX7_lastTickBy_22 (lv_at hl 0 rfl) ?_
  refine g_i (wr := [(q11, .inl (g.2 0, 10, .inl f12))]) (rV (rest := []) hx hb hml hown hE hP hD 2 rfl rfl (c80_X7_placeTick l g q1 q8 (.ref q11) (.int 1) w6 f9 (hf10) s.heap.size) (kV_X7_placeTick hE (e409 hE) rfl rfl ⟨(Nat.le_of_ble_eq_true rfl), (Nat.le_of_ble_eq_true rfl)⟩) [1, 2] rfl (by decide) rfl hl.1 rfl (lv_room (Nat.le_of_ble_eq_true rfl)) dX7_lastTickBy_24 ⟨(Nat.le_of_ble_eq_true rfl), (Nat.le_of_ble_eq_true rfl)⟩) hP hD hS hA [1, 2] [0] rfl rfl (by decide) (by decide) (fun u1 H locs hP hD hS => ?_)
  have hP : va_P g.1 vwCl [(q11, .inl (g.2 0, 10, .inl f12)), (q8, .inl (g.2 0, 10, .inl f9)), (q1, .inr (9, [.ref q8, .ref q11, .int 1, w6]))] H := hP
  have hD : va_D A [(q11, .inl (g.2 0, 10, .inl f12)), (q8, .inl (g.2 0, 10, .inl f9)), (q1, .inr (9, [.ref q8, .ref q11, .int 1, w6]))] := hD
  refine lv_istore (lv' := [(5, .int 0), (4, .int 0), (3, .int 0), (2, .int 0), (0, .ref q1), (1, .int x2)]) hx hb dX7_lastTickBy_27 hl (by decide) rfl (fun ls hl => ?_)
  refine lv_iload hx hb dX7_lastTickBy_29 (lv_at hl 1 rfl) ?_
  refine lv_iconst (v := 1) hx hb dX7_lastTickBy_31 (by decide) ?_
  refine x_iadd (v := 1) hx hb dX7_lastTickBy_32 (by decide) ?_
  refine lv_aload_n hx hb dX7_lastTickBy_33 rfl (lv_at hl 4 rfl) ?_
  refine gf_RX7_18 hx hb hown hE hP 2 rfl rfl dX7_lastTickBy_34 ?_
  refine lv_icmp_ge (tgt := 51) hx hb dX7_lastTickBy_37 (by decide) (fun _ => ?_) (fun h => absurd (by decide) h)
  refine lv_sipush (v := 30000) hx hb dX7_lastTickBy_51 (by decide) ?_
  refine lv_istore (lv' := [(6, .int 30000), (5, .int 0), (4, .int 0), (3, .int 0), (2, .int 0), (0, .ref q1), (1, .int x2)]) hx hb dX7_lastTickBy_54 hl (by decide) rfl (fun ls hl => ?_)
  refine lv_aload_n hx hb dX7_lastTickBy_56 rfl (lv_at hl 5 rfl) ?_
  refine lv_iload hx hb dX7_lastTickBy_57 (lv_at hl 2 rfl) ?_
  refine g_i (wr := [(q8, .inl (g.2 0, 10, .inl f9))]) (rV (rest := []) hx hb hml hown hE hP hD 2 rfl rfl (c81_X7_placePace l g q1 q11 (.ref q8) (.int 1) w6 f12 (hf13) H.size) (kV_X7_placePace hE (e413 hE) rfl rfl ⟨(Nat.le_of_ble_eq_true rfl), (Nat.le_of_ble_eq_true rfl)⟩) [0, 2] rfl (by decide) rfl hl.1 rfl (lv_room (Nat.le_of_ble_eq_true rfl)) dX7_lastTickBy_59 ⟨(Nat.le_of_ble_eq_true rfl), (Nat.le_of_ble_eq_true rfl)⟩) hP hD hS hA [0, 2] [1] rfl rfl (by decide) (by decide) (fun u2 H locs hP hD hS => ?_)
  have hP : va_P g.1 vwCl [(q8, .inl (g.2 0, 10, .inl f9)), (q11, .inl (g.2 0, 10, .inl f12)), (q1, .inr (9, [.ref q8, .ref q11, .int 1, w6]))] H := hP
  have hD : va_D A [(q8, .inl (g.2 0, 10, .inl f9)), (q11, .inl (g.2 0, 10, .inl f12)), (q1, .inr (9, [.ref q8, .ref q11, .int 1, w6]))] := hD
  refine lv_istore (lv' := [(7, .int 100), (6, .int 30000), (5, .int 0), (4, .int 0), (3, .int 0), (2, .int 0), (0, .ref q1), (1, .int x2)]) hx hb dX7_lastTickBy_62 hl (by decide) rfl (fun ls hl => ?_)
  refine lv_iload hx hb dX7_lastTickBy_64 (lv_at hl 0 rfl) ?_
  refine lv_if_le (tgt := 84) hx hb dX7_lastTickBy_66 (by decide) (fun h => absurd h (by decide)) (fun _ => ?_)
  refine lv_iload hx hb dX7_lastTickBy_69 (lv_at hl 1 rfl) ?_
  refine lv_iload hx hb dX7_lastTickBy_71 (lv_at hl 2 rfl) ?_
  refine lv_iload_n hx hb dX7_lastTickBy_73 rfl (lv_at hl 7 rfl) ?_
  refine lv_iload_n hx hb dX7_lastTickBy_74 rfl (lv_at hl 4 rfl) ?_
  refine x_isub (v := x2) hx hb dX7_lastTickBy_75 (Int32.sub_zero _) ?_
  refine lv_iload hx hb dX7_lastTickBy_76 (lv_at hl 0 rfl) ?_
  refine lv_idiv hx hb dX7_lastTickBy_78 (by decide) ?_
  refine x_top (v := (x2 / 100)) rfl ?_
  refine x_iadd (v := (x2 / 100)) hx hb dX7_lastTickBy_79 (Int32.zero_add _) ?_
  refine x_mmin (v := (x2 / 100)) hx hb (by rw [hml]; exact hl.1.symm) hown (e983 hE) (e362 hE) (e9 hE) (e363 hE) (Nat.le_of_ble_eq_true rfl) (Nat.le_of_ble_eq_true rfl) (Nat.le_of_ble_eq_true rfl) (Nat.le_of_ble_eq_true rfl) (if_pos h14) dX7_lastTickBy_80 ?_
  refine lv_istore_n (lv' := [(2, .int (x2 / 100)), (7, .int 100), (6, .int 30000), (5, .int 0), (4, .int 0), (3, .int 0), (0, .ref q1), (1, .int x2)]) hx hb dX7_lastTickBy_83 rfl hl (by decide) rfl (fun ls hl => ?_)
  refine lv_iload_n hx hb dX7_lastTickBy_84 rfl (lv_at hl 5 rfl) ?_
  refine lv_iload hx hb dX7_lastTickBy_85 (lv_at hl 2 rfl) ?_
  refine lv_iload hx hb dX7_lastTickBy_87 (lv_at hl 3 rfl) ?_
  refine x_isub (v := 30000) hx hb dX7_lastTickBy_89 (by decide) ?_
  refine lv_iload hx hb dX7_lastTickBy_90 (lv_at hl 1 rfl) ?_
  refine x_imul (v := 3000000) hx hb dX7_lastTickBy_92 (by decide) ?_
  refine x_iadd (v := 3000000) hx hb dX7_lastTickBy_93 (by decide) ?_
  refine lv_istore_n (lv' := [(3, .int 3000000), (2, .int (x2 / 100)), (7, .int 100), (6, .int 30000), (5, .int 0), (4, .int 0), (0, .ref q1), (1, .int x2)]) hx hb dX7_lastTickBy_94 rfl hl (by decide) rfl (fun ls hl => ?_)
  refine lv_iinc (v := 1) (lv' := [(4, .int 1), (3, .int 3000000), (2, .int (x2 / 100)), (7, .int 100), (6, .int 30000), (5, .int 0), (0, .ref q1), (1, .int x2)]) hx hb dX7_lastTickBy_95 hl (k := 5) rfl (by decide) (by decide) rfl (fun ls hl => ?_)
  refine lv_goto (tgt := 7) hx hb dX7_lastTickBy_98 (by decide) ?_
  refine lv_iload hx hb dX7_lastTickBy_7 (lv_at hl 0 rfl) ?_
  refine lv_aload_n hx hb dX7_lastTickBy_9 rfl (lv_at hl 6 rfl) ?_
  refine gf_RX7_18 hx hb hown hE hP 2 rfl rfl dX7_lastTickBy_10 ?_
  refine lv_icmp_ge (tgt := 101) hx hb dX7_lastTickBy_13 (by decide) (fun _ => ?_) (fun h => absurd (by decide) h)
  refine lv_iload_n hx hb dX7_lastTickBy_101 rfl (lv_at hl 2 rfl) ?_
  exact x_zret hx hb hr rfl rfl hlocks hP hD hS hAe hsz (Nat.le_of_ble_eq_true rfl) (Nat.le_of_ble_eq_true rfl) (fun _ => 0) [0, 1, 2] (by decide) rfl dX7_lastTickBy_102

set_option maxHeartbeats 4000000 in
set_option maxRecDepth 100000 in
theorem c83_X9_tickAt (l : Launch) (g : gG) (q1 q16 q20 q23 q31 q36 q39 : Nat) (x2 : Int32) (w6 w7 w8 w9 w10 w11 w12 w13 w14 w15 w19 w24 w26 w27 w28 w29 w30 w35 : Value) (f21 : Nat → Option Nat) (f37 : Nat → Int32) (f40 : Nat → Int32) (hf22 : f21 0 = some q23) (hf38 : f37 0 = 0) (hf41 : f40 0 = 100) (h3 : (0 : Int32) ≤ x2) (h4 : x2 ≤ 40000000) (h42 : (x2 / 100) < 30000) (sz : Nat) : Met l yX9_tickAt [Cond.code yX9_tickAt cX9_tickAt 2 (some .int)] ({ frames := 2, cells := 0, slots := 0, locals := 51 } : Room) (va_Pc [.ref q1, .int x2] (PX g sz [(q39, .inl (g.2 0, 10, .inl f40)), (q36, .inl (g.2 0, 10, .inl f37)), (q31, .inr (9, [.ref q36, .ref q39, .int 1, w35])), (q23, .inr (8, [w24, .ref q31, w26, w27, w28, w29, w30])), (q20, .inl (g.2 3, 10, .inr (.inr (.inr (.inr f21))))), (q16, .inr (10, [.ref q20, .int 0, w19])), (q1, .inr (11, [.ref q16, w6, w7, w8, w9, w10, w11, w12, w13, w14, w15]))])) (QI g [(q39, .inl (g.2 0, 10, .inl f40)), (q36, .inl (g.2 0, 10, .inl f37)), (q31, .inr (9, [.ref q36, .ref q39, .int 1, w35])), (q23, .inr (8, [w24, .ref q31, w26, w27, w28, w29, w30])), (q20, .inl (g.2 3, 10, .inr (.inr (.inr (.inr f21))))), (q16, .inr (10, [.ref q20, .int 0, w19])), (q1, .inr (11, [.ref q16, w6, w7, w8, w9, w10, w11, w12, w13, w14, w15]))] sz (x2 / 100) (fun _ => [(q23, .inr (8, [w24, .ref q31, w26, w27, w28, w29, w30])), (q1, .inr (11, [.ref q16, w6, w7, w8, w9, w10, w11, w12, w13, w14, w15])), (q20, .inl (g.2 3, 10, .inr (.inr (.inr (.inr f21))))), (q16, .inr (10, [.ref q20, .int 0, w19])), (q36, .inl (g.2 0, 10, .inl f37)), (q39, .inl (g.2 0, 10, .inl f40)), (q31, .inr (9, [.ref q36, .ref q39, .int 1, w35]))])) 0 0 (va_A [(q39, .inl (g.2 0, 10, .inl f40)), (q36, .inl (g.2 0, 10, .inl f37)), (q31, .inr (9, [.ref q36, .ref q39, .int 1, w35])), (q23, .inr (8, [w24, .ref q31, w26, w27, w28, w29, w30])), (q20, .inl (g.2 3, 10, .inr (.inr (.inr (.inr f21))))), (q16, .inr (10, [.ref q20, .int 0, w19])), (q1, .inr (11, [.ref q16, w6, w7, w8, w9, w10, w11, w12, w13, w14, w15]))] sz) := by
  refine ofN (by decide) (Nat.le_of_ble_eq_true rfl) rfl ?_
  intro p e s m args below meth c A ls hAe hsz hx hb hml hr hlocks hin hown hE hP hD hA hS hl
  have hown : s.vm.findClass RX9 = some m.cls := hown
  refine lv_iload_n hx hb dX9_tickAt_0 rfl (lv_at hl 1 rfl) ?_
  refine g0_v (rS (rest := []) hx hb hml hown hE hP hD (c77_X9_requireTime l g x2 h3 h4 s.heap.size) (kS_X9_requireTime hE (e975 hE) rfl rfl ⟨(Nat.le_of_ble_eq_true rfl), (Nat.le_of_ble_eq_true rfl)⟩) [] rfl (by decide) rfl hl.1 rfl (lv_room (Nat.le_of_ble_eq_true rfl)) dX9_tickAt_1 ⟨(Nat.le_of_ble_eq_true rfl), (Nat.le_of_ble_eq_true rfl)⟩) hP hD hS hA (fun u9 H locs hP hS => ?_)
  refine lv_aload_n hx hb dX9_tickAt_4 rfl (lv_at hl 0 rfl) ?_
  refine gf_RX9_12 hx hb hown hE hP 6 rfl rfl dX9_tickAt_5 ?_
  refine g_r (wr := [(q39, .inl (g.2 0, 10, .inl f40)), (q36, .inl (g.2 0, 10, .inl f37)), (q31, .inr (9, [.ref q36, .ref q39, .int 1, w35])), (q23, .inr (8, [w24, .ref q31, w26, w27, w28, w29, w30])), (q1, .inr (11, [.ref q16, w6, w7, w8, w9, w10, w11, w12, w13, w14, w15]))]) (rV (rest := []) hx hb hml hown hE hP hD 5 rfl rfl (c79_X8_current l g q16 q20 q23 w19 f21 (hf22) H.size) (kV_X8_current hE (e290 hE) rfl rfl ⟨(Nat.le_of_ble_eq_true rfl), (Nat.le_of_ble_eq_true rfl)⟩) [4, 5] rfl (by decide) rfl hl.1 rfl (lv_room (Nat.le_of_ble_eq_true rfl)) dX9_tickAt_8 ⟨(Nat.le_of_ble_eq_true rfl), (Nat.le_of_ble_eq_true rfl)⟩) hP hD hS hA [4, 5] [0, 1, 2, 3, 6] rfl rfl (by decide) (by decide) (fun u2 H locs hP hD hS => ?_)
  have hP : va_P g.1 vwCl [(q39, .inl (g.2 0, 10, .inl f40)), (q36, .inl (g.2 0, 10, .inl f37)), (q31, .inr (9, [.ref q36, .ref q39, .int 1, w35])), (q23, .inr (8, [w24, .ref q31, w26, w27, w28, w29, w30])), (q1, .inr (11, [.ref q16, w6, w7, w8, w9, w10, w11, w12, w13, w14, w15])), (q20, .inl (g.2 3, 10, .inr (.inr (.inr (.inr f21))))), (q16, .inr (10, [.ref q20, .int 0, w19]))] H := hP
  have hD : va_D A [(q39, .inl (g.2 0, 10, .inl f40)), (q36, .inl (g.2 0, 10, .inl f37)), (q31, .inr (9, [.ref q36, .ref q39, .int 1, w35])), (q23, .inr (8, [w24, .ref q31, w26, w27, w28, w29, w30])), (q1, .inr (11, [.ref q16, w6, w7, w8, w9, w10, w11, w12, w13, w14, w15])), (q20, .inl (g.2 3, 10, .inr (.inr (.inr (.inr f21))))), (q16, .inr (10, [.ref q20, .int 0, w19]))] := hD
  refine gf_RX9_193 hx hb hown hE hP 3 rfl rfl dX9_tickAt_11 ?_
  refine lv_iload_n hx hb dX9_tickAt_14 rfl (lv_at hl 1 rfl) ?_
  refine g_i (wr := [(q23, .inr (8, [w24, .ref q31, w26, w27, w28, w29, w30])), (q1, .inr (11, [.ref q16, w6, w7, w8, w9, w10, w11, w12, w13, w14, w15])), (q20, .inl (g.2 3, 10, .inr (.inr (.inr (.inr f21))))), (q16, .inr (10, [.ref q20, .int 0, w19]))]) (rV (rest := []) hx hb hml hown hE hP hD 2 rfl rfl (c82_X7_lastTickBy l g q31 q36 q39 x2 w35 f37 f40 (hf38) (hf41) h3 h42 H.size) (kV_X7_lastTickBy hE (e979 hE) rfl rfl ⟨(Nat.le_of_ble_eq_true rfl), (Nat.le_of_ble_eq_true rfl)⟩) [0, 1, 2] rfl (by decide) rfl hl.1 rfl (lv_room (Nat.le_of_ble_eq_true rfl)) dX9_tickAt_15 ⟨(Nat.le_of_ble_eq_true rfl), (Nat.le_of_ble_eq_true rfl)⟩) hP hD hS hA [0, 1, 2] [3, 4, 5, 6] rfl rfl (by decide) (by decide) (fun u3 H locs hP hD hS => ?_)
  have hP : va_P g.1 vwCl [(q23, .inr (8, [w24, .ref q31, w26, w27, w28, w29, w30])), (q1, .inr (11, [.ref q16, w6, w7, w8, w9, w10, w11, w12, w13, w14, w15])), (q20, .inl (g.2 3, 10, .inr (.inr (.inr (.inr f21))))), (q16, .inr (10, [.ref q20, .int 0, w19])), (q36, .inl (g.2 0, 10, .inl f37)), (q39, .inl (g.2 0, 10, .inl f40)), (q31, .inr (9, [.ref q36, .ref q39, .int 1, w35]))] H := hP
  have hD : va_D A [(q23, .inr (8, [w24, .ref q31, w26, w27, w28, w29, w30])), (q1, .inr (11, [.ref q16, w6, w7, w8, w9, w10, w11, w12, w13, w14, w15])), (q20, .inl (g.2 3, 10, .inr (.inr (.inr (.inr f21))))), (q16, .inr (10, [.ref q20, .int 0, w19])), (q36, .inl (g.2 0, 10, .inl f37)), (q39, .inl (g.2 0, 10, .inl f40)), (q31, .inr (9, [.ref q36, .ref q39, .int 1, w35]))] := hD
  exact x_zret hx hb hr rfl rfl hlocks hP hD hS hAe hsz (Nat.le_of_ble_eq_true rfl) (Nat.le_of_ble_eq_true rfl) (fun _ => 0) [0, 1, 2, 3, 4, 5, 6] (by decide) rfl dX9_tickAt_18

set_option maxHeartbeats 4000000 in
set_option maxRecDepth 100000 in
theorem c84_L_tickAt (l : Launch) (g : gG) (hlx : l.stackTraces = false) (q1 q3 q17 q21 q24 q32 q37 q40 : Nat) (x2 : Int32) (w7 w8 w9 w10 w11 w12 w13 w14 w15 w16 w20 w25 w27 w28 w29 w30 w31 w36 : Value) (f22 : Nat → Option Nat) (f38 : Nat → Int32) (f41 : Nat → Int32) (f44 : Nat → Int64) (hf23 : f22 0 = some q24) (hf39 : f38 0 = 0) (hf42 : f41 0 = 100) (h4 : (0 : Int32) ≤ x2) (h5 : x2 ≤ 40000000) (h43 : (x2 / 100) < 30000) (sz : Nat) : Met l yL_tickAt [Cond.codeWith yL_tickAt cL_tickAt 4 (some .int) [(0, 9, 12, 15)]] ({ frames := 3, cells := 0, slots := 0, locals := 72 } : Room) (va_Pc [.ref q1, .int x2, .ref q3] (PZ g sz [(q3, .inl (g.2 1, 1, .inr (.inl f44))), (q40, .inl (g.2 0, 10, .inl f41)), (q37, .inl (g.2 0, 10, .inl f38)), (q32, .inr (9, [.ref q37, .ref q40, .int 1, w36])), (q24, .inr (8, [w25, .ref q32, w27, w28, w29, w30, w31])), (q21, .inl (g.2 3, 10, .inr (.inr (.inr (.inr f22))))), (q17, .inr (10, [.ref q21, .int 0, w20])), (q1, .inr (11, [.ref q17, w7, w8, w9, w10, w11, w12, w13, w14, w15, w16]))])) (QI g [(q3, .inl (g.2 1, 1, .inr (.inl f44))), (q40, .inl (g.2 0, 10, .inl f41)), (q37, .inl (g.2 0, 10, .inl f38)), (q32, .inr (9, [.ref q37, .ref q40, .int 1, w36])), (q24, .inr (8, [w25, .ref q32, w27, w28, w29, w30, w31])), (q21, .inl (g.2 3, 10, .inr (.inr (.inr (.inr f22))))), (q17, .inr (10, [.ref q21, .int 0, w20])), (q1, .inr (11, [.ref q17, w7, w8, w9, w10, w11, w12, w13, w14, w15, w16]))] sz 0 (fun _ => [(q3, .inl (g.2 1, 1, .inr (.inl (vp_updL f44 0 ((x2 / 100)).toInt64))))])) 0 0 (va_A [(q3, .inl (g.2 1, 1, .inr (.inl f44))), (q40, .inl (g.2 0, 10, .inl f41)), (q37, .inl (g.2 0, 10, .inl f38)), (q32, .inr (9, [.ref q37, .ref q40, .int 1, w36])), (q24, .inr (8, [w25, .ref q32, w27, w28, w29, w30, w31])), (q21, .inl (g.2 3, 10, .inr (.inr (.inr (.inr f22))))), (q17, .inr (10, [.ref q21, .int 0, w20])), (q1, .inr (11, [.ref q17, w7, w8, w9, w10, w11, w12, w13, w14, w15, w16]))] sz) := by
  refine ofH (by decide) (Nat.le_of_ble_eq_true rfl) rfl ?_
  intro p e s m args below meth c A ls hAe hsz hx hb hml hr hlocks hin hown hE hP hD hA hS hl htb hz
  have hown : s.vm.findClass RL = some m.cls := hown
  refine lv_aload_n hx hb dL_tickAt_0 rfl (lv_at hl 2 rfl) ?_
  refine lv_iconst (v := 0) hx hb dL_tickAt_1 (by decide) ?_
  refine lv_aload_n hx hb dL_tickAt_2 rfl (lv_at hl 0 rfl) ?_
  refine lv_iload_n hx hb dL_tickAt_3 rfl (lv_at hl 1 rfl) ?_
  refine g_i (wr := [(q3, .inl (g.2 1, 1, .inr (.inl f44)))]) (rV (rest := [.int 0, .ref q3]) hx hb hml hown hE hP hD 7 rfl rfl (c83_X9_tickAt l g q1 q17 q21 q24 q32 q37 q40 x2 w7 w8 w9 w10 w11 w12 w13 w14 w15 w16 w20 w25 w27 w28 w29 w30 w31 w36 f22 f38 f41 (hf23) (hf39) (hf42) h4 h5 h43 s.heap.size) (kV_X9_tickAt hE (e971 hE) rfl rfl ⟨(Nat.le_of_ble_eq_true rfl), (Nat.le_of_ble_eq_true rfl)⟩) [1, 2, 3, 4, 5, 6, 7] rfl (by decide) rfl hl.1 rfl (lv_room (Nat.le_of_ble_eq_true rfl)) dL_tickAt_4 ⟨(Nat.le_of_ble_eq_true rfl), (Nat.le_of_ble_eq_true rfl)⟩) hP hD hS hA [1, 2, 3, 4, 5, 6, 7] [0] rfl rfl (by decide) (by decide) (fun u1 H locs hP hD hS => ?_)
  have hP : va_P g.1 vwCl [(q3, .inl (g.2 1, 1, .inr (.inl f44))), (q24, .inr (8, [w25, .ref q32, w27, w28, w29, w30, w31])), (q1, .inr (11, [.ref q17, w7, w8, w9, w10, w11, w12, w13, w14, w15, w16])), (q21, .inl (g.2 3, 10, .inr (.inr (.inr (.inr f22))))), (q17, .inr (10, [.ref q21, .int 0, w20])), (q37, .inl (g.2 0, 10, .inl f38)), (q40, .inl (g.2 0, 10, .inl f41)), (q32, .inr (9, [.ref q37, .ref q40, .int 1, w36]))] H := hP
  have hD : va_D A [(q3, .inl (g.2 1, 1, .inr (.inl f44))), (q24, .inr (8, [w25, .ref q32, w27, w28, w29, w30, w31])), (q1, .inr (11, [.ref q17, w7, w8, w9, w10, w11, w12, w13, w14, w15, w16])), (q21, .inl (g.2 3, 10, .inr (.inr (.inr (.inr f22))))), (q17, .inr (10, [.ref q21, .int 0, w20])), (q37, .inl (g.2 0, 10, .inl f38)), (q40, .inl (g.2 0, 10, .inl f41)), (q32, .inr (9, [.ref q37, .ref q40, .int 1, w36]))] := hD
  refine lv_i2l (v := ((x2 / 100)).toInt64) hx hb dL_tickAt_7 rfl ?_
  refine x_last (ws' := [(q3, .inl (g.2 1, 1, .inr (.inl (vp_updL f44 0 ((x2 / 100)).toInt64)))), (q24, .inr (8, [w25, .ref q32, w27, w28, w29, w30, w31])), (q1, .inr (11, [.ref q17, w7, w8, w9, w10, w11, w12, w13, w14, w15, w16])), (q21, .inl (g.2 3, 10, .inr (.inr (.inr (.inr f22))))), (q17, .inr (10, [.ref q21, .int 0, w20])), (q37, .inl (g.2 0, 10, .inl f38)), (q40, .inl (g.2 0, 10, .inl f41)), (q32, .inr (9, [.ref q37, .ref q40, .int 1, w36]))]) hx hb hE hP hD hS 0 rfl 0 (x_in (by decide)) (by decide) dL_tickAt_8 rfl (fun H locs hP hD hS => ?_)
  refine lv_goto (tgt := 15) hx hb dL_tickAt_9 (by decide) ?_
  refine lv_iconst (v := 0) hx hb dL_tickAt_15 (by decide) ?_
  exact x_zret hx hb hr rfl rfl hlocks hP hD hS hAe hsz (Nat.le_of_ble_eq_true rfl) (Nat.le_of_ble_eq_true rfl) (fun _ => 0) [0] (by decide) rfl dL_tickAt_16

set_option maxHeartbeats 4000000 in
set_option maxRecDepth 100000 in
theorem c85_X10_in (l : Launch) (g : gG) (x1 : Int32) (h2 : (0 : Int32) ≤ x1) (h3 : x1 ≤ 40000000) (sz : Nat) : Met l yX10_in [Cond.code yX10_in cX10_in 3 (some .boolean)] ({ frames := 0, cells := 0, slots := 0, locals := 0 } : Room) (va_Pc [.int x1, .int 0, .int 40000000] (PX g sz [])) (QI g [] sz 1 (fun _ => [])) 0 0 (va_A [] sz) := by
  refine ofN (by decide) (Nat.le_of_ble_eq_true rfl) rfl ?_
  intro p e s m args below meth c A ls hAe hsz hx hb hml hr hlocks hin hown hE hP hD hA hS hl
  have hown : s.vm.findClass RX10 = some m.cls := hown
  refine lv_iload_n hx hb dX10_in_0 rfl (lv_at hl 0 rfl) ?_
  refine lv_iload_n hx hb dX10_in_1 rfl (lv_at hl 1 rfl) ?_
  refine lv_icmp_lt (tgt := 14) hx hb dX10_in_2 (by decide) (fun h => absurd h (i_nlt h2)) (fun _ => ?_)
  refine lv_iload_n hx hb dX10_in_5 rfl (lv_at hl 0 rfl) ?_
  refine lv_iload_n hx hb dX10_in_6 rfl (lv_at hl 2 rfl) ?_
  refine lv_icmp_gt (tgt := 14) hx hb dX10_in_7 (by decide) (fun h => absurd h (i_nlt h3)) (fun _ => ?_)
  refine lv_iconst (v := 1) hx hb dX10_in_10 (by decide) ?_
  refine lv_goto (tgt := 15) hx hb dX10_in_11 (by decide) ?_
  exact x_zret hx hb hr rfl rfl hlocks hP hD hS hAe hsz (Nat.le_of_ble_eq_true rfl) (Nat.le_of_ble_eq_true rfl) (fun _ => 0) [] (by decide) rfl dX10_in_15

set_option maxHeartbeats 4000000 in
set_option maxRecDepth 100000 in
theorem c86_X10_time (l : Launch) (g : gG) (q1 q40 : Nat) (x2 : Int32) (w4 w5 w6 w7 w8 w9 w10 w11 w12 w13 w14 w15 w16 w17 w18 w19 w20 w21 w22 w23 w24 w25 w26 w27 w28 w29 w30 w31 w32 w33 w34 w35 w36 w37 w38 w39 : Value) (f41 : Nat → Int32) (hf42 : f41 453 = 1) (hf43 : f41 454 = 0) (hf45 : f41 455 = 100) (h44 : (0 : Int32) < x2) (sz : Nat) : Met l yX10_time [Cond.code yX10_time cX10_time 7 (some .int)] ({ frames := 1, cells := 0, slots := 0, locals := 24 } : Room) (va_Pc [.ref q1, .int x2, .int 1] (PX g sz [(q40, .inl (g.2 0, 497, .inl f41)), (q1, .inr (12, [.ref q40, w4, w5, w6, w7, w8, w9, w10, w11, w12, w13, w14, w15, w16, w17, w18, w19, w20, w21, w22, w23, w24, w25, w26, w27, w28, w29, w30, w31, w32, w33, w34, w35, w36, w37, w38, w39]))])) (QI g [(q40, .inl (g.2 0, 497, .inl f41)), (q1, .inr (12, [.ref q40, w4, w5, w6, w7, w8, w9, w10, w11, w12, w13, w14, w15, w16, w17, w18, w19, w20, w21, w22, w23, w24, w25, w26, w27, w28, w29, w30, w31, w32, w33, w34, w35, w36, w37, w38, w39]))] sz (x2 * 100) (fun _ => [(q40, .inl (g.2 0, 497, .inl f41)), (q1, .inr (12, [.ref q40, w4, w5, w6, w7, w8, w9, w10, w11, w12, w13, w14, w15, w16, w17, w18, w19, w20, w21, w22, w23, w24, w25, w26, w27, w28, w29, w30, w31, w32, w33, w34, w35, w36, w37, w38, w39]))])) 0 0 (va_A [(q40, .inl (g.2 0, 497, .inl f41)), (q1, .inr (12, [.ref q40, w4, w5, w6, w7, w8, w9, w10, w11, w12, w13, w14, w15, w16, w17, w18, w19, w20, w21, w22, w23, w24, w25, w26, w27, w28, w29, w30, w31, w32, w33, w34, w35, w36, w37, w38, w39]))] sz) := by
  refine ofN (by decide) (Nat.le_of_ble_eq_true rfl) rfl ?_
  intro p e s m args below meth c A ls hAe hsz hx hb hml hr hlocks hin hown hE hP hD hA hS hl
  have hown : s.vm.findClass RX10 = some m.cls := hown
  refine lv_iconst (v := 0) hx hb dX10_time_0 (by decide) ?_
  refine lv_istore_n (lv' := [(3, .int 0), (0, .ref q1), (1, .int x2), (2, .int 1)]) hx hb dX10_time_1 rfl hl (by decide) rfl (fun ls hl => ?_)
  refine lv_iconst (v := 0) hx hb dX10_time_2 (by decide) ?_
  refine lv_istore (lv' := [(4, .int 0), (3, .int 0), (0, .ref q1), (1, .int x2), (2, .int 1)]) hx hb dX10_time_3 hl (by decide) rfl (fun ls hl => ?_)
  refine lv_iload hx hb dX10_time_5 (lv_at hl 0 rfl) ?_
  refine lv_aload_n hx hb dX10_time_7 rfl (lv_at hl 2 rfl) ?_
  refine gf_RX10_9 hx hb hown hE hP 1 rfl rfl dX10_time_8 ?_
  refine lv_sipush (v := 453) hx hb dX10_time_11 (by decide) ?_
  refine x_iald (v := 1) hx hb hE hP 0 rfl 453 (x_in (by decide)) (by decide) hf42 dX10_time_14 ?_
  refine lv_icmp_ge (tgt := 107) hx hb dX10_time_15 (by decide) (fun h => absurd h (by decide)) (fun _ => ?_)
  refine lv_aload_n hx hb dX10_time_18 rfl (lv_at hl 2 rfl) ?_
  refine gf_RX10_9 hx hb hown hE hP 1 rfl rfl dX10_time_19 ?_
  refine lv_sipush (v := 454) hx hb dX10_time_22 (by decide) ?_
  refine lv_iconst (v := 2) hx hb dX10_time_25 (by decide) ?_
  refine lv_iload hx hb dX10_time_26 (lv_at hl 0 rfl) ?_
  refine x_imul (v := 0) hx hb dX10_time_28 (by decide) ?_
  refine x_iadd (v := 454) hx hb dX10_time_29 (by decide) ?_
  refine x_iald (v := 0) hx hb hE hP 0 rfl 454 (x_in (by decide)) (by decide) hf43 dX10_time_30 ?_
  refine lv_istore (lv' := [(5, .int 0), (4, .int 0), (3, .int 0), (0, .ref q1), (1, .int x2), (2, .int 1)]) hx hb dX10_time_31 hl (by decide) rfl (fun ls hl => ?_)
  refine lv_iload hx hb dX10_time_33 (lv_at hl 1 rfl) ?_
  refine lv_iconst (v := 1) hx hb dX10_time_35 (by decide) ?_
  refine x_iadd (v := 1) hx hb dX10_time_36 (by decide) ?_
  refine lv_aload_n hx hb dX10_time_37 rfl (lv_at hl 3 rfl) ?_
  refine gf_RX10_9 hx hb hown hE hP 1 rfl rfl dX10_time_38 ?_
  refine lv_sipush (v := 453) hx hb dX10_time_41 (by decide) ?_
  refine x_iald (v := 1) hx hb hE hP 0 rfl 453 (x_in (by decide)) (by decide) hf42 dX10_time_44 ?_
  refine lv_icmp_ge (tgt := 70) hx hb dX10_time_45 (by decide) (fun _ => ?_) (fun h => absurd (by decide) h)
  refine lv_iload_n hx hb dX10_time_70 rfl (lv_at hl 4 rfl) ?_
  refine lv_istore (lv' := [(6, .int x2), (5, .int 0), (4, .int 0), (3, .int 0), (0, .ref q1), (1, .int x2), (2, .int 1)]) hx hb dX10_time_71 hl (by decide) rfl (fun ls hl => ?_)
  refine lv_iload_n hx hb dX10_time_73 rfl (lv_at hl 3 rfl) ?_
  refine lv_iconst (v := 0) hx hb dX10_time_74 (by decide) ?_
  refine lv_iload hx hb dX10_time_75 (lv_at hl 0 rfl) ?_
  refine lv_iload hx hb dX10_time_77 (lv_at hl 1 rfl) ?_
  refine x_isub (v := x2) hx hb dX10_time_79 (Int32.sub_zero _) ?_
  refine x_mmax (v := x2) hx hb (by rw [hml]; exact hl.1.symm) hown (e1506 hE) (e165 hE) (e9 hE) (e166 hE) (Nat.le_of_ble_eq_true rfl) (Nat.le_of_ble_eq_true rfl) (Nat.le_of_ble_eq_true rfl) (Nat.le_of_ble_eq_true rfl) (if_pos h44) dX10_time_80 ?_
  refine lv_aload_n hx hb dX10_time_83 rfl (lv_at hl 4 rfl) ?_
  refine gf_RX10_9 hx hb hown hE hP 1 rfl rfl dX10_time_84 ?_
  refine lv_sipush (v := 454) hx hb dX10_time_87 (by decide) ?_
  refine lv_iconst (v := 2) hx hb dX10_time_90 (by decide) ?_
  refine lv_iload hx hb dX10_time_91 (lv_at hl 2 rfl) ?_
  refine x_imul (v := 0) hx hb dX10_time_93 (by decide) ?_
  refine x_iadd (v := 454) hx hb dX10_time_94 (by decide) ?_
  refine lv_iconst (v := 1) hx hb dX10_time_95 (by decide) ?_
  refine x_iadd (v := 455) hx hb dX10_time_96 (by decide) ?_
  refine x_iald (v := 100) hx hb hE hP 0 rfl 455 (x_in (by decide)) (by decide) hf45 dX10_time_97 ?_
  refine x_imul (v := (x2 * 100)) hx hb dX10_time_98 rfl ?_
  refine x_iadd (v := (x2 * 100)) hx hb dX10_time_99 (Int32.zero_add _) ?_
  refine lv_istore_n (lv' := [(3, .int (x2 * 100)), (6, .int x2), (5, .int 0), (4, .int 0), (0, .ref q1), (1, .int x2), (2, .int 1)]) hx hb dX10_time_100 rfl hl (by decide) rfl (fun ls hl => ?_)
  refine lv_iinc (v := 1) (lv' := [(4, .int 1), (3, .int (x2 * 100)), (6, .int x2), (5, .int 0), (0, .ref q1), (1, .int x2), (2, .int 1)]) hx hb dX10_time_101 hl (k := 3) rfl (by decide) (by decide) rfl (fun ls hl => ?_)
  refine lv_goto (tgt := 5) hx hb dX10_time_104 (by decide) ?_
  refine lv_iload hx hb dX10_time_5 (lv_at hl 0 rfl) ?_
  refine lv_aload_n hx hb dX10_time_7 rfl (lv_at hl 4 rfl) ?_
  refine gf_RX10_9 hx hb hown hE hP 1 rfl rfl dX10_time_8 ?_
  refine lv_sipush (v := 453) hx hb dX10_time_11 (by decide) ?_
  refine x_iald (v := 1) hx hb hE hP 0 rfl 453 (x_in (by decide)) (by decide) hf42 dX10_time_14 ?_
  refine lv_icmp_ge (tgt := 107) hx hb dX10_time_15 (by decide) (fun _ => ?_) (fun h => absurd (by decide) h)
  refine lv_iload_n hx hb dX10_time_107 rfl (lv_at hl 6 rfl) ?_
  refine lv_if_ne (tgt := 117) hx hb dX10_time_108 (by decide) (fun _ => ?_) (fun h => absurd (by decide) h)
  refine lv_iload_n hx hb dX10_time_117 rfl (lv_at hl 1 rfl) ?_
  refine lv_goto (tgt := 140) hx hb dX10_time_118 (by decide) ?_
  exact x_zret hx hb hr rfl rfl hlocks hP hD hS hAe hsz (Nat.le_of_ble_eq_true rfl) (Nat.le_of_ble_eq_true rfl) (fun _ => 0) [0, 1] (by decide) rfl dX10_time_140

set_option maxHeartbeats 4000000 in
set_option maxRecDepth 100000 in
theorem c87_X10_tickAt (l : Launch) (g : gG) (q1 q43 : Nat) (x2 : Int32) (w6 w7 w8 w9 w10 w11 w12 w13 w14 w15 w16 w17 w18 w19 w20 w21 w22 w23 w24 w25 w26 w27 w28 w29 w30 w31 w32 w33 w34 w35 w36 w37 w38 w39 w40 w41 : Value) (f44 : Nat → Int32) (hf45 : f44 453 = 1) (hf46 : f44 454 = 0) (hf47 : f44 455 = 100) (h3 : (0 : Int32) ≤ x2) (h4 : x2 ≤ 40000000) (h42 : (x2 / 100) ≤ 30000) (sz : Nat) : Met l yX10_tickAt [Cond.code yX10_tickAt cX10_tickAt 5 (some .int)] ({ frames := 2, cells := 0, slots := 0, locals := 50 } : Room) (va_Pc [.ref q1, .int x2] (PX g sz [(q43, .inl (g.2 0, 497, .inl f44)), (q1, .inr (12, [.ref q43, w6, w7, w8, w9, w10, w11, w12, w13, w14, w15, w16, w17, w18, w19, w20, w21, w22, w23, w24, w25, w26, w27, w28, w29, w30, w31, w32, w33, w34, w35, w36, w37, w38, w39, w40, w41]))])) (QI g [(q43, .inl (g.2 0, 497, .inl f44)), (q1, .inr (12, [.ref q43, w6, w7, w8, w9, w10, w11, w12, w13, w14, w15, w16, w17, w18, w19, w20, w21, w22, w23, w24, w25, w26, w27, w28, w29, w30, w31, w32, w33, w34, w35, w36, w37, w38, w39, w40, w41]))] sz (x2 / 100) (fun _ => [(q1, .inr (12, [.ref q43, w6, w7, w8, w9, w10, .int 0, w12, w13, w14, w15, w16, w17, w18, w19, w20, w21, w22, w23, w24, w25, w26, w27, w28, w29, w30, w31, w32, w33, w34, w35, w36, w37, w38, w39, w40, w41]))])) 0 0 (va_A [(q43, .inl (g.2 0, 497, .inl f44)), (q1, .inr (12, [.ref q43, w6, w7, w8, w9, w10, w11, w12, w13, w14, w15, w16, w17, w18, w19, w20, w21, w22, w23, w24, w25, w26, w27, w28, w29, w30, w31, w32, w33, w34, w35, w36, w37, w38, w39, w40, w41]))] sz) := by
  refine ofN (by decide) (Nat.le_of_ble_eq_true rfl) rfl ?_
  intro p e s m args below meth c A ls hAe hsz hx hb hml hr hlocks hin hown hE hP hD hA hS hl
  have hown : s.vm.findClass RX10 = some m.cls := hown
  refine lv_aload_n hx hb dX10_tickAt_0 rfl (lv_at hl 0 rfl) ?_
  refine lv_iload_n hx hb dX10_tickAt_1 rfl (lv_at hl 1 rfl) ?_
  refine lv_iconst (v := 0) hx hb dX10_tickAt_2 (by decide) ?_
  refine lv_ldc (v := 40000000) hx hb hown (e1640 hE) dX10_tickAt_3 ?_
  refine g0_i (rS (rest := [.ref q1]) hx hb hml hown hE hP hD (c85_X10_in l g x2 h3 h4 s.heap.size) (kS_X10_in hE (e1431 hE) rfl rfl ⟨(Nat.le_of_ble_eq_true rfl), (Nat.le_of_ble_eq_true rfl)⟩) [] rfl (by decide) rfl hl.1 rfl (lv_room (Nat.le_of_ble_eq_true rfl)) dX10_tickAt_5 ⟨(Nat.le_of_ble_eq_true rfl), (Nat.le_of_ble_eq_true rfl)⟩) hP hD hS hA (fun u9 H locs hP hS => ?_)
  refine lv_if_eq (tgt := 15) hx hb dX10_tickAt_8 (by decide) (fun h => absurd h (by decide)) (fun _ => ?_)
  refine lv_iconst (v := 0) hx hb dX10_tickAt_11 (by decide) ?_
  refine lv_goto (tgt := 16) hx hb dX10_tickAt_12 (by decide) ?_
  refine pf_RX10_86 (ws' := [(q43, .inl (g.2 0, 497, .inl f44)), (q1, .inr (12, [.ref q43, w6, w7, w8, w9, w10, .int 0, w12, w13, w14, w15, w16, w17, w18, w19, w20, w21, w22, w23, w24, w25, w26, w27, w28, w29, w30, w31, w32, w33, w34, w35, w36, w37, w38, w39, w40, w41]))]) hx hb hown hE hP hD hS 1 rfl rfl rfl (Nat.le_of_ble_eq_true rfl) dX10_tickAt_16 rfl (fun H locs hP hD hS => ?_)
  refine lv_aload_n hx hb dX10_tickAt_19 rfl (lv_at hl 0 rfl) ?_
  refine gf_RX10_86 hx hb hown hE hP 1 rfl rfl dX10_tickAt_20 ?_
  refine lv_if_le (tgt := 28) hx hb dX10_tickAt_23 (by decide) (fun _ => ?_) (fun h => absurd (by decide) h)
  refine lv_iconst (v := 0) hx hb dX10_tickAt_28 (by decide) ?_
  refine lv_istore_n (lv' := [(2, .int 0), (0, .ref q1), (1, .int x2)]) hx hb dX10_tickAt_29 rfl hl (by decide) rfl (fun ls hl => ?_)
  refine lv_sipush (v := 30000) hx hb dX10_tickAt_30 (by decide) ?_
  refine lv_istore_n (lv' := [(3, .int 30000), (2, .int 0), (0, .ref q1), (1, .int x2)]) hx hb dX10_tickAt_33 rfl hl (by decide) rfl (fun ls hl => ?_)
  obtain ⟨a9, ha9, hx9⟩ := nI_of2 (M := 40000000) (n := 40000000) rfl (i_nlt h3) h4
  have hT9 : nI (min 30000 (a9 / 100)) = (x2 / 100) := sr_le hx9 ha9 h42
  refine x_search (N := 30000) (T := min 30000 (a9 / 100)) (fun i j H locs ls => va_P g.1 vwCl [(q43, .inl (g.2 0, 497, .inl f44)), (q1, .inr (12, [.ref q43, w6, w7, w8, w9, w10, .int 0, w12, w13, w14, w15, w16, w17, w18, w19, w20, w21, w22, w23, w24, w25, w26, w27, w28, w29, w30, w31, w32, w33, w34, w35, w36, w37, w38, w39, w40, w41]))] H ∧ va_D A [(q43, .inl (g.2 0, 497, .inl f44)), (q1, .inr (12, [.ref q43, w6, w7, w8, w9, w10, .int 0, w12, w13, w14, w15, w16, w17, w18, w19, w20, w21, w22, w23, w24, w25, w26, w27, w28, w29, w30, w31, w32, w33, w34, w35, w36, w37, w38, w39, w40, w41]))] ∧ va_S A s.heap H locs ∧ lv_has ls 5 [(2, .int (nI i)), (3, .int (nI j)), (0, .ref q1), (1, .int x2)]) (by omega) ⟨hP, hD, hS, by rw [nI_0]; exact lv_sub hl [1, 0, 2, 3] rfl⟩ (by
    intro i j hij hj h1 h2 ih H locs ls hI
    obtain ⟨hP, hD, hS, hl⟩ := hI
    have hmp9 := sr_mp hij hj
    refine lv_iload_n hx hb dX10_tickAt_34 rfl (lv_at hl 0 rfl) ?_
    refine lv_iload_n hx hb dX10_tickAt_35 rfl (lv_at hl 1 rfl) ?_
    refine lv_icmp_ge (tgt := 73) hx hb dX10_tickAt_36 (by decide) (fun h => absurd h (nI_ge hij (by omega))) (fun _ => ?_)
    refine lv_iload_n hx hb dX10_tickAt_39 rfl (lv_at hl 0 rfl) ?_
    refine lv_iload_n hx hb dX10_tickAt_40 rfl (lv_at hl 1 rfl) ?_
    refine x_iadd (v := nI (i + j)) hx hb dX10_tickAt_41 (nI_add _ _) ?_
    refine lv_iconst (v := 1) hx hb dX10_tickAt_42 (by decide) ?_
    refine x_iadd (v := nI (i + j + 1)) hx hb dX10_tickAt_43 (nI_1 _) ?_
    refine lv_iconst (v := 2) hx hb dX10_tickAt_44 (by decide) ?_
    refine lv_idiv hx hb dX10_tickAt_45 (by decide) ?_
    refine x_top (v := (nI ((i + j + 1) / 2))) (sr_md _ (by omega)) ?_
    refine lv_istore (lv' := [(4, .int (nI ((i + j + 1) / 2))), (2, .int (nI i)), (3, .int (nI j)), (0, .ref q1), (1, .int x2)]) hx hb dX10_tickAt_46 hl (by decide) rfl (fun ls hl => ?_)
    refine lv_aload_n hx hb dX10_tickAt_48 rfl (lv_at hl 3 rfl) ?_
    refine lv_iload hx hb dX10_tickAt_49 (lv_at hl 0 rfl) ?_
    refine lv_iconst (v := 1) hx hb dX10_tickAt_51 (by decide) ?_
    refine g_i (wr := []) (rV (rest := []) hx hb hml hown hE hP hD 1 rfl rfl (c86_X10_time l g q1 q43 (nI ((i + j + 1) / 2)) w6 w7 w8 w9 w10 (.int 0) w12 w13 w14 w15 w16 w17 w18 w19 w20 w21 w22 w23 w24 w25 w26 w27 w28 w29 w30 w31 w32 w33 w34 w35 w36 w37 w38 w39 w40 w41 f44 (hf45) (hf46) (hf47) hmp9 H.size) (kV_X10_time hE (e1551 hE) rfl rfl ⟨(Nat.le_of_ble_eq_true rfl), (Nat.le_of_ble_eq_true rfl)⟩) [0, 1] rfl (by decide) rfl hl.1 rfl (lv_room (Nat.le_of_ble_eq_true rfl)) dX10_tickAt_52 ⟨(Nat.le_of_ble_eq_true rfl), (Nat.le_of_ble_eq_true rfl)⟩) hP hD hS hA [0, 1] [] rfl rfl (by decide) (by decide) (fun u2 H locs hP hD hS => ?_)
    have hP : va_P g.1 vwCl [(q43, .inl (g.2 0, 497, .inl f44)), (q1, .inr (12, [.ref q43, w6, w7, w8, w9, w10, .int 0, w12, w13, w14, w15, w16, w17, w18, w19, w20, w21, w22, w23, w24, w25, w26, w27, w28, w29, w30, w31, w32, w33, w34, w35, w36, w37, w38, w39, w40, w41]))] H := hP
    have hD : va_D A [(q43, .inl (g.2 0, 497, .inl f44)), (q1, .inr (12, [.ref q43, w6, w7, w8, w9, w10, .int 0, w12, w13, w14, w15, w16, w17, w18, w19, w20, w21, w22, w23, w24, w25, w26, w27, w28, w29, w30, w31, w32, w33, w34, w35, w36, w37, w38, w39, w40, w41]))] := hD
    refine lv_iload_n hx hb dX10_tickAt_55 rfl (lv_at hl 4 rfl) ?_
    refine lv_icmp_gt (tgt := 65) hx hb dX10_tickAt_56 (by decide) (fun hgt => ?_) (fun hgt => ?_)
    · have hq9 := sr_up hx9 ha9 (by omega) hgt
      refine lv_iload hx hb dX10_tickAt_65 (lv_at hl 0 rfl) ?_
      refine lv_iconst (v := 1) hx hb dX10_tickAt_67 (by decide) ?_
      refine x_isub (v := nI ((i + j + 1) / 2 - 1)) hx hb dX10_tickAt_68 (sr_s1 _ (by omega)) ?_
      refine lv_istore_n (lv' := [(3, .int (nI ((i + j + 1) / 2 - 1))), (4, .int (nI ((i + j + 1) / 2))), (2, .int (nI i)), (0, .ref q1), (1, .int x2)]) hx hb dX10_tickAt_69 rfl hl (by decide) rfl (fun ls hl => ?_)
      refine lv_goto (tgt := 34) hx hb dX10_tickAt_70 (by decide) ?_
      exact ih i ((i + j + 1) / 2 - 1) (by omega) (by omega) (by omega) (by omega) (by omega) _ _ _ ⟨hP, hD, hS, lv_sub hl [2, 0, 3, 4] rfl⟩
    · have hq9 := sr_dn hx9 ha9 (by omega) hgt
      refine lv_iload hx hb dX10_tickAt_59 (lv_at hl 0 rfl) ?_
      refine lv_istore_n (lv' := [(2, .int (nI ((i + j + 1) / 2))), (4, .int (nI ((i + j + 1) / 2))), (3, .int (nI j)), (0, .ref q1), (1, .int x2)]) hx hb dX10_tickAt_61 rfl hl (by decide) rfl (fun ls hl => ?_)
      refine lv_goto (tgt := 70) hx hb dX10_tickAt_62 (by decide) ?_
      refine lv_goto (tgt := 34) hx hb dX10_tickAt_70 (by decide) ?_
      exact ih ((i + j + 1) / 2) j (by omega) (by omega) (by omega) (by omega) (by omega) _ _ _ ⟨hP, hD, hS, lv_sub hl [0, 2, 3, 4] rfl⟩) (fun H locs ls hI => ?_)
  obtain ⟨hP, hD, hS, hl⟩ := hI
  have hP : va_P g.1 vwCl [(q43, .inl (g.2 0, 497, .inl f44)), (q1, .inr (12, [.ref q43, w6, w7, w8, w9, w10, .int 0, w12, w13, w14, w15, w16, w17, w18, w19, w20, w21, w22, w23, w24, w25, w26, w27, w28, w29, w30, w31, w32, w33, w34, w35, w36, w37, w38, w39, w40, w41]))] H := hP
  have hD : va_D A [(q43, .inl (g.2 0, 497, .inl f44)), (q1, .inr (12, [.ref q43, w6, w7, w8, w9, w10, .int 0, w12, w13, w14, w15, w16, w17, w18, w19, w20, w21, w22, w23, w24, w25, w26, w27, w28, w29, w30, w31, w32, w33, w34, w35, w36, w37, w38, w39, w40, w41]))] := hD
  rw [hT9] at hl
  refine lv_iload_n hx hb dX10_tickAt_34 rfl (lv_at hl 0 rfl) ?_
  refine lv_iload_n hx hb dX10_tickAt_35 rfl (lv_at hl 1 rfl) ?_
  refine lv_icmp_ge (tgt := 73) hx hb dX10_tickAt_36 (by decide) (fun _ => ?_) (fun h => absurd (Int32.le_refl _) h)
  refine lv_iload_n hx hb dX10_tickAt_73 rfl (lv_at hl 0 rfl) ?_
  exact x_zret hx hb hr rfl rfl hlocks hP hD hS hAe hsz (Nat.le_of_ble_eq_true rfl) (Nat.le_of_ble_eq_true rfl) (fun _ => 0) [1] (by decide) rfl dX10_tickAt_74

set_option maxHeartbeats 4000000 in
set_option maxRecDepth 100000 in
theorem c88_X7_lastTickBy (l : Launch) (g : gG) (q1 q8 q11 : Nat) (x2 : Int32) (w6 : Value) (f9 : Nat → Int32) (f12 : Nat → Int32) (hf10 : f9 0 = 0) (hf13 : f12 0 = 100) (h7 : (0 : Int32) ≤ x2) (h14 : (30000 : Int32) ≤ (x2 / 100)) (sz : Nat) : Met l yX7_lastTickBy [Cond.code yX7_lastTickBy cX7_lastTickBy 8 (some .int)] ({ frames := 1, cells := 0, slots := 0, locals := 24 } : Room) (va_Pc [.ref q1, .int x2] (PX g sz [(q11, .inl (g.2 0, 10, .inl f12)), (q8, .inl (g.2 0, 10, .inl f9)), (q1, .inr (9, [.ref q8, .ref q11, .int 1, w6]))])) (QI g [(q11, .inl (g.2 0, 10, .inl f12)), (q8, .inl (g.2 0, 10, .inl f9)), (q1, .inr (9, [.ref q8, .ref q11, .int 1, w6]))] sz 30000 (fun _ => [(q8, .inl (g.2 0, 10, .inl f9)), (q11, .inl (g.2 0, 10, .inl f12)), (q1, .inr (9, [.ref q8, .ref q11, .int 1, w6]))])) 0 0 (va_A [(q11, .inl (g.2 0, 10, .inl f12)), (q8, .inl (g.2 0, 10, .inl f9)), (q1, .inr (9, [.ref q8, .ref q11, .int 1, w6]))] sz) := by
  refine ofN (by decide) (Nat.le_of_ble_eq_true rfl) rfl ?_
  intro p e s m args below meth c A ls hAe hsz hx hb hml hr hlocks hin hown hE hP hD hA hS hl
  have hown : s.vm.findClass RX7 = some m.cls := hown
  refine lv_iconst (v := 0) hx hb dX7_lastTickBy_0 (by decide) ?_
  refine lv_istore_n (lv' := [(2, .int 0), (0, .ref q1), (1, .int x2)]) hx hb dX7_lastTickBy_1 rfl hl (by decide) rfl (fun ls hl => ?_)
  refine lv_iconst (v := 0) hx hb dX7_lastTickBy_2 (by decide) ?_
  refine lv_istore_n (lv' := [(3, .int 0), (2, .int 0), (0, .ref q1), (1, .int x2)]) hx hb dX7_lastTickBy_3 rfl hl (by decide) rfl (fun ls hl => ?_)
  refine lv_iconst (v := 0) hx hb dX7_lastTickBy_4 (by decide) ?_
  refine lv_istore (lv' := [(4, .int 0), (3, .int 0), (2, .int 0), (0, .ref q1), (1, .int x2)]) hx hb dX7_lastTickBy_5 hl (by decide) rfl (fun ls hl => ?_)
  refine lv_iload hx hb dX7_lastTickBy_7 (lv_at hl 0 rfl) ?_
  refine lv_aload_n hx hb dX7_lastTickBy_9 rfl (lv_at hl 3 rfl) ?_
  refine gf_RX7_18 hx hb hown hE hP 2 rfl rfl dX7_lastTickBy_10 ?_
  refine lv_icmp_ge (tgt := 101) hx hb dX7_lastTickBy_13 (by decide) (fun h => absurd h (by decide)) (fun _ => ?_)
  refine lv_iload_n hx hb dX7_lastTickBy_16 rfl (lv_at hl 1 rfl) ?_
  refine lv_iload_n hx hb dX7_lastTickBy_17 rfl (lv_at hl 4 rfl) ?_
  refine lv_icmp_gt (tgt := 101) hx hb dX7_lastTickBy_18 (by decide) (fun h => absurd h (i_nlt h7)) (fun _ => ?_)
  refine lv_aload_n hx hb dX7_lastTickBy_21 rfl (lv_at hl 3 rfl) ?_
  refine lv_iload hx hb dX7_lastTickBy_22 (lv_at hl 0 rfl) ?_
  refine g_i (wr := [(q11, .inl (g.2 0, 10, .inl f12))]) (rV (rest := []) hx hb hml hown hE hP hD 2 rfl rfl (c80_X7_placeTick l g q1 q8 (.ref q11) (.int 1) w6 f9 (hf10) s.heap.size) (kV_X7_placeTick hE (e409 hE) rfl rfl ⟨(Nat.le_of_ble_eq_true rfl), (Nat.le_of_ble_eq_true rfl)⟩) [1, 2] rfl (by decide) rfl hl.1 rfl (lv_room (Nat.le_of_ble_eq_true rfl)) dX7_lastTickBy_24 ⟨(Nat.le_of_ble_eq_true rfl), (Nat.le_of_ble_eq_true rfl)⟩) hP hD hS hA [1, 2] [0] rfl rfl (by decide) (by decide) (fun u1 H locs hP hD hS => ?_)
  have hP : va_P g.1 vwCl [(q11, .inl (g.2 0, 10, .inl f12)), (q8, .inl (g.2 0, 10, .inl f9)), (q1, .inr (9, [.ref q8, .ref q11, .int 1, w6]))] H := hP
  have hD : va_D A [(q11, .inl (g.2 0, 10, .inl f12)), (q8, .inl (g.2 0, 10, .inl f9)), (q1, .inr (9, [.ref q8, .ref q11, .int 1, w6]))] := hD
  refine lv_istore (lv' := [(5, .int 0), (4, .int 0), (3, .int 0), (2, .int 0), (0, .ref q1), (1, .int x2)]) hx hb dX7_lastTickBy_27 hl (by decide) rfl (fun ls hl => ?_)
  refine lv_iload hx hb dX7_lastTickBy_29 (lv_at hl 1 rfl) ?_
  refine lv_iconst (v := 1) hx hb dX7_lastTickBy_31 (by decide) ?_
  refine x_iadd (v := 1) hx hb dX7_lastTickBy_32 (by decide) ?_
  refine lv_aload_n hx hb dX7_lastTickBy_33 rfl (lv_at hl 4 rfl) ?_
  refine gf_RX7_18 hx hb hown hE hP 2 rfl rfl dX7_lastTickBy_34 ?_
  refine lv_icmp_ge (tgt := 51) hx hb dX7_lastTickBy_37 (by decide) (fun _ => ?_) (fun h => absurd (by decide) h)
  refine lv_sipush (v := 30000) hx hb dX7_lastTickBy_51 (by decide) ?_
  refine lv_istore (lv' := [(6, .int 30000), (5, .int 0), (4, .int 0), (3, .int 0), (2, .int 0), (0, .ref q1), (1, .int x2)]) hx hb dX7_lastTickBy_54 hl (by decide) rfl (fun ls hl => ?_)
  refine lv_aload_n hx hb dX7_lastTickBy_56 rfl (lv_at hl 5 rfl) ?_
  refine lv_iload hx hb dX7_lastTickBy_57 (lv_at hl 2 rfl) ?_
  refine g_i (wr := [(q8, .inl (g.2 0, 10, .inl f9))]) (rV (rest := []) hx hb hml hown hE hP hD 2 rfl rfl (c81_X7_placePace l g q1 q11 (.ref q8) (.int 1) w6 f12 (hf13) H.size) (kV_X7_placePace hE (e413 hE) rfl rfl ⟨(Nat.le_of_ble_eq_true rfl), (Nat.le_of_ble_eq_true rfl)⟩) [0, 2] rfl (by decide) rfl hl.1 rfl (lv_room (Nat.le_of_ble_eq_true rfl)) dX7_lastTickBy_59 ⟨(Nat.le_of_ble_eq_true rfl), (Nat.le_of_ble_eq_true rfl)⟩) hP hD hS hA [0, 2] [1] rfl rfl (by decide) (by decide) (fun u2 H locs hP hD hS => ?_)
  have hP : va_P g.1 vwCl [(q8, .inl (g.2 0, 10, .inl f9)), (q11, .inl (g.2 0, 10, .inl f12)), (q1, .inr (9, [.ref q8, .ref q11, .int 1, w6]))] H := hP
  have hD : va_D A [(q8, .inl (g.2 0, 10, .inl f9)), (q11, .inl (g.2 0, 10, .inl f12)), (q1, .inr (9, [.ref q8, .ref q11, .int 1, w6]))] := hD
  refine lv_istore (lv' := [(7, .int 100), (6, .int 30000), (5, .int 0), (4, .int 0), (3, .int 0), (2, .int 0), (0, .ref q1), (1, .int x2)]) hx hb dX7_lastTickBy_62 hl (by decide) rfl (fun ls hl => ?_)
  refine lv_iload hx hb dX7_lastTickBy_64 (lv_at hl 0 rfl) ?_
  refine lv_if_le (tgt := 84) hx hb dX7_lastTickBy_66 (by decide) (fun h => absurd h (by decide)) (fun _ => ?_)
  refine lv_iload hx hb dX7_lastTickBy_69 (lv_at hl 1 rfl) ?_
  refine lv_iload hx hb dX7_lastTickBy_71 (lv_at hl 2 rfl) ?_
  refine lv_iload_n hx hb dX7_lastTickBy_73 rfl (lv_at hl 7 rfl) ?_
  refine lv_iload_n hx hb dX7_lastTickBy_74 rfl (lv_at hl 4 rfl) ?_
  refine x_isub (v := x2) hx hb dX7_lastTickBy_75 (Int32.sub_zero _) ?_
  refine lv_iload hx hb dX7_lastTickBy_76 (lv_at hl 0 rfl) ?_
  refine lv_idiv hx hb dX7_lastTickBy_78 (by decide) ?_
  refine x_top (v := (x2 / 100)) rfl ?_
  refine x_iadd (v := (x2 / 100)) hx hb dX7_lastTickBy_79 (Int32.zero_add _) ?_
  refine x_mmin (v := 30000) hx hb (by rw [hml]; exact hl.1.symm) hown (e983 hE) (e362 hE) (e9 hE) (e363 hE) (Nat.le_of_ble_eq_true rfl) (Nat.le_of_ble_eq_true rfl) (Nat.le_of_ble_eq_true rfl) (Nat.le_of_ble_eq_true rfl) (if_neg (i_nlt h14)) dX7_lastTickBy_80 ?_
  refine lv_istore_n (lv' := [(2, .int 30000), (7, .int 100), (6, .int 30000), (5, .int 0), (4, .int 0), (3, .int 0), (0, .ref q1), (1, .int x2)]) hx hb dX7_lastTickBy_83 rfl hl (by decide) rfl (fun ls hl => ?_)
  refine lv_iload_n hx hb dX7_lastTickBy_84 rfl (lv_at hl 5 rfl) ?_
  refine lv_iload hx hb dX7_lastTickBy_85 (lv_at hl 2 rfl) ?_
  refine lv_iload hx hb dX7_lastTickBy_87 (lv_at hl 3 rfl) ?_
  refine x_isub (v := 30000) hx hb dX7_lastTickBy_89 (by decide) ?_
  refine lv_iload hx hb dX7_lastTickBy_90 (lv_at hl 1 rfl) ?_
  refine x_imul (v := 3000000) hx hb dX7_lastTickBy_92 (by decide) ?_
  refine x_iadd (v := 3000000) hx hb dX7_lastTickBy_93 (by decide) ?_
  refine lv_istore_n (lv' := [(3, .int 3000000), (2, .int 30000), (7, .int 100), (6, .int 30000), (5, .int 0), (4, .int 0), (0, .ref q1), (1, .int x2)]) hx hb dX7_lastTickBy_94 rfl hl (by decide) rfl (fun ls hl => ?_)
  refine lv_iinc (v := 1) (lv' := [(4, .int 1), (3, .int 3000000), (2, .int 30000), (7, .int 100), (6, .int 30000), (5, .int 0), (0, .ref q1), (1, .int x2)]) hx hb dX7_lastTickBy_95 hl (k := 5) rfl (by decide) (by decide) rfl (fun ls hl => ?_)
  refine lv_goto (tgt := 7) hx hb dX7_lastTickBy_98 (by decide) ?_
  refine lv_iload hx hb dX7_lastTickBy_7 (lv_at hl 0 rfl) ?_
  refine lv_aload_n hx hb dX7_lastTickBy_9 rfl (lv_at hl 6 rfl) ?_
  refine gf_RX7_18 hx hb hown hE hP 2 rfl rfl dX7_lastTickBy_10 ?_
  refine lv_icmp_ge (tgt := 101) hx hb dX7_lastTickBy_13 (by decide) (fun _ => ?_) (fun h => absurd (by decide) h)
  refine lv_iload_n hx hb dX7_lastTickBy_101 rfl (lv_at hl 2 rfl) ?_
  exact x_zret hx hb hr rfl rfl hlocks hP hD hS hAe hsz (Nat.le_of_ble_eq_true rfl) (Nat.le_of_ble_eq_true rfl) (fun _ => 0) [0, 1, 2] (by decide) rfl dX7_lastTickBy_102

set_option maxHeartbeats 4000000 in
set_option maxRecDepth 100000 in
theorem c89_X9_tickAt (l : Launch) (g : gG) (q1 q16 q20 q23 q31 q36 q37 : Nat) (x2 : Int32) (w6 w7 w8 w9 w10 w11 w12 w13 w14 w15 w19 w24 w26 w27 w28 w29 w30 w35 : Value) (f21 : Nat → Option Nat) (f38 : Nat → Int32) (f40 : Nat → Int32) (hf22 : f21 0 = some q23) (hf39 : f38 0 = 0) (hf41 : f40 0 = 100) (h3 : (0 : Int32) ≤ x2) (h4 : x2 ≤ 40000000) (h42 : (30000 : Int32) ≤ (x2 / 100)) (sz : Nat) : Met l yX9_tickAt [Cond.code yX9_tickAt cX9_tickAt 2 (some .int)] ({ frames := 2, cells := 0, slots := 0, locals := 51 } : Room) (va_Pc [.ref q1, .int x2] (PX g sz [(q37, .inl (g.2 0, 10, .inl f40)), (q36, .inl (g.2 0, 10, .inl f38)), (q31, .inr (9, [.ref q36, .ref q37, .int 1, w35])), (q23, .inr (8, [w24, .ref q31, w26, w27, w28, w29, w30])), (q20, .inl (g.2 3, 10, .inr (.inr (.inr (.inr f21))))), (q16, .inr (10, [.ref q20, .int 0, w19])), (q1, .inr (11, [.ref q16, w6, w7, w8, w9, w10, w11, w12, w13, w14, w15]))])) (QI g [(q37, .inl (g.2 0, 10, .inl f40)), (q36, .inl (g.2 0, 10, .inl f38)), (q31, .inr (9, [.ref q36, .ref q37, .int 1, w35])), (q23, .inr (8, [w24, .ref q31, w26, w27, w28, w29, w30])), (q20, .inl (g.2 3, 10, .inr (.inr (.inr (.inr f21))))), (q16, .inr (10, [.ref q20, .int 0, w19])), (q1, .inr (11, [.ref q16, w6, w7, w8, w9, w10, w11, w12, w13, w14, w15]))] sz 30000 (fun _ => [(q23, .inr (8, [w24, .ref q31, w26, w27, w28, w29, w30])), (q1, .inr (11, [.ref q16, w6, w7, w8, w9, w10, w11, w12, w13, w14, w15])), (q20, .inl (g.2 3, 10, .inr (.inr (.inr (.inr f21))))), (q16, .inr (10, [.ref q20, .int 0, w19])), (q36, .inl (g.2 0, 10, .inl f38)), (q37, .inl (g.2 0, 10, .inl f40)), (q31, .inr (9, [.ref q36, .ref q37, .int 1, w35]))])) 0 0 (va_A [(q37, .inl (g.2 0, 10, .inl f40)), (q36, .inl (g.2 0, 10, .inl f38)), (q31, .inr (9, [.ref q36, .ref q37, .int 1, w35])), (q23, .inr (8, [w24, .ref q31, w26, w27, w28, w29, w30])), (q20, .inl (g.2 3, 10, .inr (.inr (.inr (.inr f21))))), (q16, .inr (10, [.ref q20, .int 0, w19])), (q1, .inr (11, [.ref q16, w6, w7, w8, w9, w10, w11, w12, w13, w14, w15]))] sz) := by
  refine ofN (by decide) (Nat.le_of_ble_eq_true rfl) rfl ?_
  intro p e s m args below meth c A ls hAe hsz hx hb hml hr hlocks hin hown hE hP hD hA hS hl
  have hown : s.vm.findClass RX9 = some m.cls := hown
  refine lv_iload_n hx hb dX9_tickAt_0 rfl (lv_at hl 1 rfl) ?_
  refine g0_v (rS (rest := []) hx hb hml hown hE hP hD (c77_X9_requireTime l g x2 h3 h4 s.heap.size) (kS_X9_requireTime hE (e975 hE) rfl rfl ⟨(Nat.le_of_ble_eq_true rfl), (Nat.le_of_ble_eq_true rfl)⟩) [] rfl (by decide) rfl hl.1 rfl (lv_room (Nat.le_of_ble_eq_true rfl)) dX9_tickAt_1 ⟨(Nat.le_of_ble_eq_true rfl), (Nat.le_of_ble_eq_true rfl)⟩) hP hD hS hA (fun u9 H locs hP hS => ?_)
  refine lv_aload_n hx hb dX9_tickAt_4 rfl (lv_at hl 0 rfl) ?_
  refine gf_RX9_12 hx hb hown hE hP 6 rfl rfl dX9_tickAt_5 ?_
  refine g_r (wr := [(q37, .inl (g.2 0, 10, .inl f40)), (q36, .inl (g.2 0, 10, .inl f38)), (q31, .inr (9, [.ref q36, .ref q37, .int 1, w35])), (q23, .inr (8, [w24, .ref q31, w26, w27, w28, w29, w30])), (q1, .inr (11, [.ref q16, w6, w7, w8, w9, w10, w11, w12, w13, w14, w15]))]) (rV (rest := []) hx hb hml hown hE hP hD 5 rfl rfl (c79_X8_current l g q16 q20 q23 w19 f21 (hf22) H.size) (kV_X8_current hE (e290 hE) rfl rfl ⟨(Nat.le_of_ble_eq_true rfl), (Nat.le_of_ble_eq_true rfl)⟩) [4, 5] rfl (by decide) rfl hl.1 rfl (lv_room (Nat.le_of_ble_eq_true rfl)) dX9_tickAt_8 ⟨(Nat.le_of_ble_eq_true rfl), (Nat.le_of_ble_eq_true rfl)⟩) hP hD hS hA [4, 5] [0, 1, 2, 3, 6] rfl rfl (by decide) (by decide) (fun u2 H locs hP hD hS => ?_)
  have hP : va_P g.1 vwCl [(q37, .inl (g.2 0, 10, .inl f40)), (q36, .inl (g.2 0, 10, .inl f38)), (q31, .inr (9, [.ref q36, .ref q37, .int 1, w35])), (q23, .inr (8, [w24, .ref q31, w26, w27, w28, w29, w30])), (q1, .inr (11, [.ref q16, w6, w7, w8, w9, w10, w11, w12, w13, w14, w15])), (q20, .inl (g.2 3, 10, .inr (.inr (.inr (.inr f21))))), (q16, .inr (10, [.ref q20, .int 0, w19]))] H := hP
  have hD : va_D A [(q37, .inl (g.2 0, 10, .inl f40)), (q36, .inl (g.2 0, 10, .inl f38)), (q31, .inr (9, [.ref q36, .ref q37, .int 1, w35])), (q23, .inr (8, [w24, .ref q31, w26, w27, w28, w29, w30])), (q1, .inr (11, [.ref q16, w6, w7, w8, w9, w10, w11, w12, w13, w14, w15])), (q20, .inl (g.2 3, 10, .inr (.inr (.inr (.inr f21))))), (q16, .inr (10, [.ref q20, .int 0, w19]))] := hD
  refine gf_RX9_193 hx hb hown hE hP 3 rfl rfl dX9_tickAt_11 ?_
  refine lv_iload_n hx hb dX9_tickAt_14 rfl (lv_at hl 1 rfl) ?_
  refine g_i (wr := [(q23, .inr (8, [w24, .ref q31, w26, w27, w28, w29, w30])), (q1, .inr (11, [.ref q16, w6, w7, w8, w9, w10, w11, w12, w13, w14, w15])), (q20, .inl (g.2 3, 10, .inr (.inr (.inr (.inr f21))))), (q16, .inr (10, [.ref q20, .int 0, w19]))]) (rV (rest := []) hx hb hml hown hE hP hD 2 rfl rfl (c88_X7_lastTickBy l g q31 q36 q37 x2 w35 f38 f40 (hf39) (hf41) h3 h42 H.size) (kV_X7_lastTickBy hE (e979 hE) rfl rfl ⟨(Nat.le_of_ble_eq_true rfl), (Nat.le_of_ble_eq_true rfl)⟩) [0, 1, 2] rfl (by decide) rfl hl.1 rfl (lv_room (Nat.le_of_ble_eq_true rfl)) dX9_tickAt_15 ⟨(Nat.le_of_ble_eq_true rfl), (Nat.le_of_ble_eq_true rfl)⟩) hP hD hS hA [0, 1, 2] [3, 4, 5, 6] rfl rfl (by decide) (by decide) (fun u3 H locs hP hD hS => ?_)
  have hP : va_P g.1 vwCl [(q23, .inr (8, [w24, .ref q31, w26, w27, w28, w29, w30])), (q1, .inr (11, [.ref q16, w6, w7, w8, w9, w10, w11, w12, w13, w14, w15])), (q20, .inl (g.2 3, 10, .inr (.inr (.inr (.inr f21))))), (q16, .inr (10, [.ref q20, .int 0, w19])), (q36, .inl (g.2 0, 10, .inl f38)), (q37, .inl (g.2 0, 10, .inl f40)), (q31, .inr (9, [.ref q36, .ref q37, .int 1, w35]))] H := hP
  have hD : va_D A [(q23, .inr (8, [w24, .ref q31, w26, w27, w28, w29, w30])), (q1, .inr (11, [.ref q16, w6, w7, w8, w9, w10, w11, w12, w13, w14, w15])), (q20, .inl (g.2 3, 10, .inr (.inr (.inr (.inr f21))))), (q16, .inr (10, [.ref q20, .int 0, w19])), (q36, .inl (g.2 0, 10, .inl f38)), (q37, .inl (g.2 0, 10, .inl f40)), (q31, .inr (9, [.ref q36, .ref q37, .int 1, w35]))] := hD
  exact x_zret hx hb hr rfl rfl hlocks hP hD hS hAe hsz (Nat.le_of_ble_eq_true rfl) (Nat.le_of_ble_eq_true rfl) (fun _ => 0) [0, 1, 2, 3, 4, 5, 6] (by decide) rfl dX9_tickAt_18

set_option maxHeartbeats 4000000 in
set_option maxRecDepth 100000 in
theorem c90_L_tickAt (l : Launch) (g : gG) (hlx : l.stackTraces = false) (q1 q3 q16 q20 q23 q31 q36 q37 : Nat) (x2 : Int32) (w6 w7 w8 w9 w10 w11 w12 w13 w14 w15 w19 w24 w26 w27 w28 w29 w30 w35 : Value) (f21 : Nat → Option Nat) (f38 : Nat → Int32) (f40 : Nat → Int32) (f44 : Nat → Int64) (hf22 : f21 0 = some q23) (hf39 : f38 0 = 0) (hf41 : f40 0 = 100) (h4 : (0 : Int32) ≤ x2) (h42 : x2 ≤ 40000000) (h43 : (30000 : Int32) ≤ (x2 / 100)) (sz : Nat) : Met l yL_tickAt [Cond.codeWith yL_tickAt cL_tickAt 4 (some .int) [(0, 9, 12, 15)]] ({ frames := 3, cells := 0, slots := 0, locals := 72 } : Room) (va_Pc [.ref q1, .int x2, .ref q3] (PZ g sz [(q3, .inl (g.2 1, 1, .inr (.inl f44))), (q37, .inl (g.2 0, 10, .inl f40)), (q36, .inl (g.2 0, 10, .inl f38)), (q31, .inr (9, [.ref q36, .ref q37, .int 1, w35])), (q23, .inr (8, [w24, .ref q31, w26, w27, w28, w29, w30])), (q20, .inl (g.2 3, 10, .inr (.inr (.inr (.inr f21))))), (q16, .inr (10, [.ref q20, .int 0, w19])), (q1, .inr (11, [.ref q16, w6, w7, w8, w9, w10, w11, w12, w13, w14, w15]))])) (QI g [(q3, .inl (g.2 1, 1, .inr (.inl f44))), (q37, .inl (g.2 0, 10, .inl f40)), (q36, .inl (g.2 0, 10, .inl f38)), (q31, .inr (9, [.ref q36, .ref q37, .int 1, w35])), (q23, .inr (8, [w24, .ref q31, w26, w27, w28, w29, w30])), (q20, .inl (g.2 3, 10, .inr (.inr (.inr (.inr f21))))), (q16, .inr (10, [.ref q20, .int 0, w19])), (q1, .inr (11, [.ref q16, w6, w7, w8, w9, w10, w11, w12, w13, w14, w15]))] sz 0 (fun _ => [(q3, .inl (g.2 1, 1, .inr (.inl (vp_updL f44 0 30000))))])) 0 0 (va_A [(q3, .inl (g.2 1, 1, .inr (.inl f44))), (q37, .inl (g.2 0, 10, .inl f40)), (q36, .inl (g.2 0, 10, .inl f38)), (q31, .inr (9, [.ref q36, .ref q37, .int 1, w35])), (q23, .inr (8, [w24, .ref q31, w26, w27, w28, w29, w30])), (q20, .inl (g.2 3, 10, .inr (.inr (.inr (.inr f21))))), (q16, .inr (10, [.ref q20, .int 0, w19])), (q1, .inr (11, [.ref q16, w6, w7, w8, w9, w10, w11, w12, w13, w14, w15]))] sz) := by
  refine ofH (by decide) (Nat.le_of_ble_eq_true rfl) rfl ?_
  intro p e s m args below meth c A ls hAe hsz hx hb hml hr hlocks hin hown hE hP hD hA hS hl htb hz
  have hown : s.vm.findClass RL = some m.cls := hown
  refine lv_aload_n hx hb dL_tickAt_0 rfl (lv_at hl 2 rfl) ?_
  refine lv_iconst (v := 0) hx hb dL_tickAt_1 (by decide) ?_
  refine lv_aload_n hx hb dL_tickAt_2 rfl (lv_at hl 0 rfl) ?_
  refine lv_iload_n hx hb dL_tickAt_3 rfl (lv_at hl 1 rfl) ?_
  refine g_i (wr := [(q3, .inl (g.2 1, 1, .inr (.inl f44)))]) (rV (rest := [.int 0, .ref q3]) hx hb hml hown hE hP hD 7 rfl rfl (c89_X9_tickAt l g q1 q16 q20 q23 q31 q36 q37 x2 w6 w7 w8 w9 w10 w11 w12 w13 w14 w15 w19 w24 w26 w27 w28 w29 w30 w35 f21 f38 f40 (hf22) (hf39) (hf41) h4 h42 h43 s.heap.size) (kV_X9_tickAt hE (e971 hE) rfl rfl ⟨(Nat.le_of_ble_eq_true rfl), (Nat.le_of_ble_eq_true rfl)⟩) [1, 2, 3, 4, 5, 6, 7] rfl (by decide) rfl hl.1 rfl (lv_room (Nat.le_of_ble_eq_true rfl)) dL_tickAt_4 ⟨(Nat.le_of_ble_eq_true rfl), (Nat.le_of_ble_eq_true rfl)⟩) hP hD hS hA [1, 2, 3, 4, 5, 6, 7] [0] rfl rfl (by decide) (by decide) (fun u1 H locs hP hD hS => ?_)
  have hP : va_P g.1 vwCl [(q3, .inl (g.2 1, 1, .inr (.inl f44))), (q23, .inr (8, [w24, .ref q31, w26, w27, w28, w29, w30])), (q1, .inr (11, [.ref q16, w6, w7, w8, w9, w10, w11, w12, w13, w14, w15])), (q20, .inl (g.2 3, 10, .inr (.inr (.inr (.inr f21))))), (q16, .inr (10, [.ref q20, .int 0, w19])), (q36, .inl (g.2 0, 10, .inl f38)), (q37, .inl (g.2 0, 10, .inl f40)), (q31, .inr (9, [.ref q36, .ref q37, .int 1, w35]))] H := hP
  have hD : va_D A [(q3, .inl (g.2 1, 1, .inr (.inl f44))), (q23, .inr (8, [w24, .ref q31, w26, w27, w28, w29, w30])), (q1, .inr (11, [.ref q16, w6, w7, w8, w9, w10, w11, w12, w13, w14, w15])), (q20, .inl (g.2 3, 10, .inr (.inr (.inr (.inr f21))))), (q16, .inr (10, [.ref q20, .int 0, w19])), (q36, .inl (g.2 0, 10, .inl f38)), (q37, .inl (g.2 0, 10, .inl f40)), (q31, .inr (9, [.ref q36, .ref q37, .int 1, w35]))] := hD
  refine lv_i2l (v := 30000) hx hb dL_tickAt_7 (by decide) ?_
  refine x_last (ws' := [(q3, .inl (g.2 1, 1, .inr (.inl (vp_updL f44 0 30000)))), (q23, .inr (8, [w24, .ref q31, w26, w27, w28, w29, w30])), (q1, .inr (11, [.ref q16, w6, w7, w8, w9, w10, w11, w12, w13, w14, w15])), (q20, .inl (g.2 3, 10, .inr (.inr (.inr (.inr f21))))), (q16, .inr (10, [.ref q20, .int 0, w19])), (q36, .inl (g.2 0, 10, .inl f38)), (q37, .inl (g.2 0, 10, .inl f40)), (q31, .inr (9, [.ref q36, .ref q37, .int 1, w35]))]) hx hb hE hP hD hS 0 rfl 0 (x_in (by decide)) (by decide) dL_tickAt_8 rfl (fun H locs hP hD hS => ?_)
  refine lv_goto (tgt := 15) hx hb dL_tickAt_9 (by decide) ?_
  refine lv_iconst (v := 0) hx hb dL_tickAt_15 (by decide) ?_
  exact x_zret hx hb hr rfl rfl hlocks hP hD hS hAe hsz (Nat.le_of_ble_eq_true rfl) (Nat.le_of_ble_eq_true rfl) (fun _ => 0) [0] (by decide) rfl dL_tickAt_16

set_option maxHeartbeats 4000000 in
set_option maxRecDepth 100000 in
theorem c91_X10_tickAt (l : Launch) (g : gG) (q1 q43 : Nat) (x2 : Int32) (w6 w7 w8 w9 w10 w11 w12 w13 w14 w15 w16 w17 w18 w19 w20 w21 w22 w23 w24 w25 w26 w27 w28 w29 w30 w31 w32 w33 w34 w35 w36 w37 w38 w39 w40 w41 : Value) (f44 : Nat → Int32) (hf45 : f44 453 = 1) (hf46 : f44 454 = 0) (hf47 : f44 455 = 100) (h3 : (0 : Int32) ≤ x2) (h4 : x2 ≤ 40000000) (h42 : (30000 : Int32) < (x2 / 100)) (sz : Nat) : Met l yX10_tickAt [Cond.code yX10_tickAt cX10_tickAt 5 (some .int)] ({ frames := 2, cells := 0, slots := 0, locals := 50 } : Room) (va_Pc [.ref q1, .int x2] (PX g sz [(q43, .inl (g.2 0, 497, .inl f44)), (q1, .inr (12, [.ref q43, w6, w7, w8, w9, w10, w11, w12, w13, w14, w15, w16, w17, w18, w19, w20, w21, w22, w23, w24, w25, w26, w27, w28, w29, w30, w31, w32, w33, w34, w35, w36, w37, w38, w39, w40, w41]))])) (QI g [(q43, .inl (g.2 0, 497, .inl f44)), (q1, .inr (12, [.ref q43, w6, w7, w8, w9, w10, w11, w12, w13, w14, w15, w16, w17, w18, w19, w20, w21, w22, w23, w24, w25, w26, w27, w28, w29, w30, w31, w32, w33, w34, w35, w36, w37, w38, w39, w40, w41]))] sz 30000 (fun _ => [(q1, .inr (12, [.ref q43, w6, w7, w8, w9, w10, .int 0, w12, w13, w14, w15, w16, w17, w18, w19, w20, w21, w22, w23, w24, w25, w26, w27, w28, w29, w30, w31, w32, w33, w34, w35, w36, w37, w38, w39, w40, w41]))])) 0 0 (va_A [(q43, .inl (g.2 0, 497, .inl f44)), (q1, .inr (12, [.ref q43, w6, w7, w8, w9, w10, w11, w12, w13, w14, w15, w16, w17, w18, w19, w20, w21, w22, w23, w24, w25, w26, w27, w28, w29, w30, w31, w32, w33, w34, w35, w36, w37, w38, w39, w40, w41]))] sz) := by
  refine ofN (by decide) (Nat.le_of_ble_eq_true rfl) rfl ?_
  intro p e s m args below meth c A ls hAe hsz hx hb hml hr hlocks hin hown hE hP hD hA hS hl
  have hown : s.vm.findClass RX10 = some m.cls := hown
  refine lv_aload_n hx hb dX10_tickAt_0 rfl (lv_at hl 0 rfl) ?_
  refine lv_iload_n hx hb dX10_tickAt_1 rfl (lv_at hl 1 rfl) ?_
  refine lv_iconst (v := 0) hx hb dX10_tickAt_2 (by decide) ?_
  refine lv_ldc (v := 40000000) hx hb hown (e1640 hE) dX10_tickAt_3 ?_
  refine g0_i (rS (rest := [.ref q1]) hx hb hml hown hE hP hD (c85_X10_in l g x2 h3 h4 s.heap.size) (kS_X10_in hE (e1431 hE) rfl rfl ⟨(Nat.le_of_ble_eq_true rfl), (Nat.le_of_ble_eq_true rfl)⟩) [] rfl (by decide) rfl hl.1 rfl (lv_room (Nat.le_of_ble_eq_true rfl)) dX10_tickAt_5 ⟨(Nat.le_of_ble_eq_true rfl), (Nat.le_of_ble_eq_true rfl)⟩) hP hD hS hA (fun u9 H locs hP hS => ?_)
  refine lv_if_eq (tgt := 15) hx hb dX10_tickAt_8 (by decide) (fun h => absurd h (by decide)) (fun _ => ?_)
  refine lv_iconst (v := 0) hx hb dX10_tickAt_11 (by decide) ?_
  refine lv_goto (tgt := 16) hx hb dX10_tickAt_12 (by decide) ?_
  refine pf_RX10_86 (ws' := [(q43, .inl (g.2 0, 497, .inl f44)), (q1, .inr (12, [.ref q43, w6, w7, w8, w9, w10, .int 0, w12, w13, w14, w15, w16, w17, w18, w19, w20, w21, w22, w23, w24, w25, w26, w27, w28, w29, w30, w31, w32, w33, w34, w35, w36, w37, w38, w39, w40, w41]))]) hx hb hown hE hP hD hS 1 rfl rfl rfl (Nat.le_of_ble_eq_true rfl) dX10_tickAt_16 rfl (fun H locs hP hD hS => ?_)
  refine lv_aload_n hx hb dX10_tickAt_19 rfl (lv_at hl 0 rfl) ?_
  refine gf_RX10_86 hx hb hown hE hP 1 rfl rfl dX10_tickAt_20 ?_
  refine lv_if_le (tgt := 28) hx hb dX10_tickAt_23 (by decide) (fun _ => ?_) (fun h => absurd (by decide) h)
  refine lv_iconst (v := 0) hx hb dX10_tickAt_28 (by decide) ?_
  refine lv_istore_n (lv' := [(2, .int 0), (0, .ref q1), (1, .int x2)]) hx hb dX10_tickAt_29 rfl hl (by decide) rfl (fun ls hl => ?_)
  refine lv_sipush (v := 30000) hx hb dX10_tickAt_30 (by decide) ?_
  refine lv_istore_n (lv' := [(3, .int 30000), (2, .int 0), (0, .ref q1), (1, .int x2)]) hx hb dX10_tickAt_33 rfl hl (by decide) rfl (fun ls hl => ?_)
  obtain ⟨a9, ha9, hx9⟩ := nI_of2 (M := 40000000) (n := 40000000) rfl (i_nlt h3) h4
  have hT9 : nI (min 30000 (a9 / 100)) = 30000 := sr_lt hx9 ha9 h42
  refine x_search (N := 30000) (T := min 30000 (a9 / 100)) (fun i j H locs ls => va_P g.1 vwCl [(q43, .inl (g.2 0, 497, .inl f44)), (q1, .inr (12, [.ref q43, w6, w7, w8, w9, w10, .int 0, w12, w13, w14, w15, w16, w17, w18, w19, w20, w21, w22, w23, w24, w25, w26, w27, w28, w29, w30, w31, w32, w33, w34, w35, w36, w37, w38, w39, w40, w41]))] H ∧ va_D A [(q43, .inl (g.2 0, 497, .inl f44)), (q1, .inr (12, [.ref q43, w6, w7, w8, w9, w10, .int 0, w12, w13, w14, w15, w16, w17, w18, w19, w20, w21, w22, w23, w24, w25, w26, w27, w28, w29, w30, w31, w32, w33, w34, w35, w36, w37, w38, w39, w40, w41]))] ∧ va_S A s.heap H locs ∧ lv_has ls 5 [(2, .int (nI i)), (3, .int (nI j)), (0, .ref q1), (1, .int x2)]) (by omega) ⟨hP, hD, hS, by rw [nI_0]; exact lv_sub hl [1, 0, 2, 3] rfl⟩ (by
    intro i j hij hj h1 h2 ih H locs ls hI
    obtain ⟨hP, hD, hS, hl⟩ := hI
    have hmp9 := sr_mp hij hj
    refine lv_iload_n hx hb dX10_tickAt_34 rfl (lv_at hl 0 rfl) ?_
    refine lv_iload_n hx hb dX10_tickAt_35 rfl (lv_at hl 1 rfl) ?_
    refine lv_icmp_ge (tgt := 73) hx hb dX10_tickAt_36 (by decide) (fun h => absurd h (nI_ge hij (by omega))) (fun _ => ?_)
    refine lv_iload_n hx hb dX10_tickAt_39 rfl (lv_at hl 0 rfl) ?_
    refine lv_iload_n hx hb dX10_tickAt_40 rfl (lv_at hl 1 rfl) ?_
    refine x_iadd (v := nI (i + j)) hx hb dX10_tickAt_41 (nI_add _ _) ?_
    refine lv_iconst (v := 1) hx hb dX10_tickAt_42 (by decide) ?_
    refine x_iadd (v := nI (i + j + 1)) hx hb dX10_tickAt_43 (nI_1 _) ?_
    refine lv_iconst (v := 2) hx hb dX10_tickAt_44 (by decide) ?_
    refine lv_idiv hx hb dX10_tickAt_45 (by decide) ?_
    refine x_top (v := (nI ((i + j + 1) / 2))) (sr_md _ (by omega)) ?_
    refine lv_istore (lv' := [(4, .int (nI ((i + j + 1) / 2))), (2, .int (nI i)), (3, .int (nI j)), (0, .ref q1), (1, .int x2)]) hx hb dX10_tickAt_46 hl (by decide) rfl (fun ls hl => ?_)
    refine lv_aload_n hx hb dX10_tickAt_48 rfl (lv_at hl 3 rfl) ?_
    refine lv_iload hx hb dX10_tickAt_49 (lv_at hl 0 rfl) ?_
    refine lv_iconst (v := 1) hx hb dX10_tickAt_51 (by decide) ?_
    refine g_i (wr := []) (rV (rest := []) hx hb hml hown hE hP hD 1 rfl rfl (c86_X10_time l g q1 q43 (nI ((i + j + 1) / 2)) w6 w7 w8 w9 w10 (.int 0) w12 w13 w14 w15 w16 w17 w18 w19 w20 w21 w22 w23 w24 w25 w26 w27 w28 w29 w30 w31 w32 w33 w34 w35 w36 w37 w38 w39 w40 w41 f44 (hf45) (hf46) (hf47) hmp9 H.size) (kV_X10_time hE (e1551 hE) rfl rfl ⟨(Nat.le_of_ble_eq_true rfl), (Nat.le_of_ble_eq_true rfl)⟩) [0, 1] rfl (by decide) rfl hl.1 rfl (lv_room (Nat.le_of_ble_eq_true rfl)) dX10_tickAt_52 ⟨(Nat.le_of_ble_eq_true rfl), (Nat.le_of_ble_eq_true rfl)⟩) hP hD hS hA [0, 1] [] rfl rfl (by decide) (by decide) (fun u2 H locs hP hD hS => ?_)
    have hP : va_P g.1 vwCl [(q43, .inl (g.2 0, 497, .inl f44)), (q1, .inr (12, [.ref q43, w6, w7, w8, w9, w10, .int 0, w12, w13, w14, w15, w16, w17, w18, w19, w20, w21, w22, w23, w24, w25, w26, w27, w28, w29, w30, w31, w32, w33, w34, w35, w36, w37, w38, w39, w40, w41]))] H := hP
    have hD : va_D A [(q43, .inl (g.2 0, 497, .inl f44)), (q1, .inr (12, [.ref q43, w6, w7, w8, w9, w10, .int 0, w12, w13, w14, w15, w16, w17, w18, w19, w20, w21, w22, w23, w24, w25, w26, w27, w28, w29, w30, w31, w32, w33, w34, w35, w36, w37, w38, w39, w40, w41]))] := hD
    refine lv_iload_n hx hb dX10_tickAt_55 rfl (lv_at hl 4 rfl) ?_
    refine lv_icmp_gt (tgt := 65) hx hb dX10_tickAt_56 (by decide) (fun hgt => ?_) (fun hgt => ?_)
    · have hq9 := sr_up hx9 ha9 (by omega) hgt
      refine lv_iload hx hb dX10_tickAt_65 (lv_at hl 0 rfl) ?_
      refine lv_iconst (v := 1) hx hb dX10_tickAt_67 (by decide) ?_
      refine x_isub (v := nI ((i + j + 1) / 2 - 1)) hx hb dX10_tickAt_68 (sr_s1 _ (by omega)) ?_
      refine lv_istore_n (lv' := [(3, .int (nI ((i + j + 1) / 2 - 1))), (4, .int (nI ((i + j + 1) / 2))), (2, .int (nI i)), (0, .ref q1), (1, .int x2)]) hx hb dX10_tickAt_69 rfl hl (by decide) rfl (fun ls hl => ?_)
      refine lv_goto (tgt := 34) hx hb dX10_tickAt_70 (by decide) ?_
      exact ih i ((i + j + 1) / 2 - 1) (by omega) (by omega) (by omega) (by omega) (by omega) _ _ _ ⟨hP, hD, hS, lv_sub hl [2, 0, 3, 4] rfl⟩
    · have hq9 := sr_dn hx9 ha9 (by omega) hgt
      refine lv_iload hx hb dX10_tickAt_59 (lv_at hl 0 rfl) ?_
      refine lv_istore_n (lv' := [(2, .int (nI ((i + j + 1) / 2))), (4, .int (nI ((i + j + 1) / 2))), (3, .int (nI j)), (0, .ref q1), (1, .int x2)]) hx hb dX10_tickAt_61 rfl hl (by decide) rfl (fun ls hl => ?_)
      refine lv_goto (tgt := 70) hx hb dX10_tickAt_62 (by decide) ?_
      refine lv_goto (tgt := 34) hx hb dX10_tickAt_70 (by decide) ?_
      exact ih ((i + j + 1) / 2) j (by omega) (by omega) (by omega) (by omega) (by omega) _ _ _ ⟨hP, hD, hS, lv_sub hl [0, 2, 3, 4] rfl⟩) (fun H locs ls hI => ?_)
  obtain ⟨hP, hD, hS, hl⟩ := hI
  have hP : va_P g.1 vwCl [(q43, .inl (g.2 0, 497, .inl f44)), (q1, .inr (12, [.ref q43, w6, w7, w8, w9, w10, .int 0, w12, w13, w14, w15, w16, w17, w18, w19, w20, w21, w22, w23, w24, w25, w26, w27, w28, w29, w30, w31, w32, w33, w34, w35, w36, w37, w38, w39, w40, w41]))] H := hP
  have hD : va_D A [(q43, .inl (g.2 0, 497, .inl f44)), (q1, .inr (12, [.ref q43, w6, w7, w8, w9, w10, .int 0, w12, w13, w14, w15, w16, w17, w18, w19, w20, w21, w22, w23, w24, w25, w26, w27, w28, w29, w30, w31, w32, w33, w34, w35, w36, w37, w38, w39, w40, w41]))] := hD
  rw [hT9] at hl
  refine lv_iload_n hx hb dX10_tickAt_34 rfl (lv_at hl 0 rfl) ?_
  refine lv_iload_n hx hb dX10_tickAt_35 rfl (lv_at hl 1 rfl) ?_
  refine lv_icmp_ge (tgt := 73) hx hb dX10_tickAt_36 (by decide) (fun _ => ?_) (fun h => absurd (by decide) h)
  refine lv_iload_n hx hb dX10_tickAt_73 rfl (lv_at hl 0 rfl) ?_
  exact x_zret hx hb hr rfl rfl hlocks hP hD hS hAe hsz (Nat.le_of_ble_eq_true rfl) (Nat.le_of_ble_eq_true rfl) (fun _ => 0) [1] (by decide) rfl dX10_tickAt_74

set_option maxHeartbeats 4000000 in
set_option maxRecDepth 100000 in
theorem c92_X9_requireRange (l : Launch) (g : gG) (hlx : l.stackTraces = false) (x1 : Int32) (h2 : (0 : Int32) ≤ x1) (h3 : (40000000 : Int32) < x1) (sz : Nat) : vx_Met l yX9_requireRange [Cond.code yX9_requireRange cX9_requireRange 3 none] ({ frames := 6, cells := 1, slots := 6, locals := 100 } : Room) (va_Pc [.int x1, .int 0, .int 40000000] (PZ g sz [])) NV (XW g [] sz "java/lang/IllegalArgumentException" []) 1 6 (va_A [] sz) := by
  refine ofX (by decide) (Nat.le_of_ble_eq_true rfl) rfl ?_
  intro p e s m args below meth c A ls hAe hsz hx hb hml hr hlocks hin hown hE hP hD hA hS hl hex hz
  have hown : s.vm.findClass RX9 = some m.cls := hown
  refine lv_iload_n hx hb dX9_requireRange_0 rfl (lv_at hl 0 rfl) ?_
  refine lv_iload_n hx hb dX9_requireRange_1 rfl (lv_at hl 1 rfl) ?_
  refine lv_icmp_lt (tgt := 10) hx hb dX9_requireRange_2 (by decide) (fun h => absurd h (i_nlt h2)) (fun _ => ?_)
  refine lv_iload_n hx hb dX9_requireRange_5 rfl (lv_at hl 0 rfl) ?_
  refine lv_iload_n hx hb dX9_requireRange_6 rfl (lv_at hl 2 rfl) ?_
  refine lv_icmp_le (tgt := 21) hx hb dX9_requireRange_7 (by decide) (fun h => absurd h (i_nle h3)) (fun _ => ?_)
  exact x_throwW (text := "a number is out of range") (names := ["java/lang/RuntimeException", "java/lang/Exception"]) hx hb hlx hown hE (by decide) (by decide) (e639 hE) (e20 hE) (by decide +kernel) (th_215 hE) tg_215_211 hz (by rw [hml]; exact hl.1) dX9_requireRange_10 dX9_requireRange_13 dX9_requireRange_14 dX9_requireRange_17 dX9_requireRange_20 hex (Nat.le_of_ble_eq_true rfl) (Nat.le_of_ble_eq_true rfl) (Nat.le_of_ble_eq_true rfl) (Nat.le_of_ble_eq_true rfl) hlocks hP hD hS hAe hsz (Nat.le_of_ble_eq_true rfl) (Nat.le_of_ble_eq_true rfl) [] (by decide) rfl

set_option maxHeartbeats 4000000 in
set_option maxRecDepth 100000 in
theorem c93_X9_requireTime (l : Launch) (g : gG) (hlx : l.stackTraces = false) (x1 : Int32) (h2 : (0 : Int32) ≤ x1) (h3 : (40000000 : Int32) < x1) (sz : Nat) : vx_Met l yX9_requireTime [Cond.code yX9_requireTime cX9_requireTime 1 none] ({ frames := 7, cells := 1, slots := 6, locals := 122 } : Room) (va_Pc [.int x1] (PZ g sz [])) NV (XW g [] sz "java/lang/IllegalArgumentException" []) 1 6 (va_A [] sz) := by
  refine ofX (by decide) (Nat.le_of_ble_eq_true rfl) rfl ?_
  intro p e s m args below meth c A ls hAe hsz hx hb hml hr hlocks hin hown hE hP hD hA hS hl hex hz
  have hown : s.vm.findClass RX9 = some m.cls := hown
  refine lv_iload_n hx hb dX9_requireTime_0 rfl (lv_at hl 0 rfl) ?_
  refine lv_iconst (v := 0) hx hb dX9_requireTime_1 (by decide) ?_
  refine lv_ldcw (v := 40000000) hx hb hown (e978 hE) dX9_requireTime_2 ?_
  refine gx_v (wr := []) (rSx (rest := []) hx hb hml hown hE hP hD hS hA hz (c92_X9_requireRange l g hlx x1 h2 h3 s.heap.size) (kS_X9_requireRange hE (e636 hE) rfl rfl ⟨(Nat.le_of_ble_eq_true rfl), (Nat.le_of_ble_eq_true rfl)⟩) [] rfl (by decide) rfl hl.1 rfl (lv_room (Nat.le_of_ble_eq_true rfl)) dX9_requireTime_5 ⟨(Nat.le_of_ble_eq_true rfl), (Nat.le_of_ble_eq_true rfl)⟩) hP hD hS hA [] [] rfl rfl (by decide) (by decide) (fun ce9 q9 H locs hP hD hS hq1 hq2 hq3 => ?_)
  exact x_out hex hlocks hq1 hq2 hq3 hP hD hS hAe hsz (Nat.le_of_ble_eq_true rfl) (Nat.le_of_ble_eq_true rfl) [] (by decide) rfl

set_option maxHeartbeats 4000000 in
set_option maxRecDepth 100000 in
theorem c94_X9_tickAt (l : Launch) (g : gG) (hlx : l.stackTraces = false) (q1 : Nat) (x2 : Int32) (h3 : (0 : Int32) ≤ x2) (h4 : (40000000 : Int32) < x2) (sz : Nat) : vx_Met l yX9_tickAt [Cond.code yX9_tickAt cX9_tickAt 2 (some .int)] ({ frames := 8, cells := 1, slots := 6, locals := 142 } : Room) (va_Pc [.ref q1, .int x2] (PZ g sz [])) NI (XW g [] sz "java/lang/IllegalArgumentException" []) 1 6 (va_A [] sz) := by
  refine ofX (by decide) (Nat.le_of_ble_eq_true rfl) rfl ?_
  intro p e s m args below meth c A ls hAe hsz hx hb hml hr hlocks hin hown hE hP hD hA hS hl hex hz
  have hown : s.vm.findClass RX9 = some m.cls := hown
  refine lv_iload_n hx hb dX9_tickAt_0 rfl (lv_at hl 1 rfl) ?_
  refine gx_v (wr := []) (rSx (rest := []) hx hb hml hown hE hP hD hS hA hz (c93_X9_requireTime l g hlx x2 h3 h4 s.heap.size) (kS_X9_requireTime hE (e975 hE) rfl rfl ⟨(Nat.le_of_ble_eq_true rfl), (Nat.le_of_ble_eq_true rfl)⟩) [] rfl (by decide) rfl hl.1 rfl (lv_room (Nat.le_of_ble_eq_true rfl)) dX9_tickAt_1 ⟨(Nat.le_of_ble_eq_true rfl), (Nat.le_of_ble_eq_true rfl)⟩) hP hD hS hA [] [] rfl rfl (by decide) (by decide) (fun ce9 q9 H locs hP hD hS hq1 hq2 hq3 => ?_)
  exact x_out hex hlocks hq1 hq2 hq3 hP hD hS hAe hsz (Nat.le_of_ble_eq_true rfl) (Nat.le_of_ble_eq_true rfl) [] (by decide) rfl

set_option maxHeartbeats 4000000 in
set_option maxRecDepth 100000 in
theorem c95_L_tickAt (l : Launch) (g : gG) (hlx : l.stackTraces = false) (q1 q3 q16 q20 q23 q31 q36 q37 : Nat) (x2 : Int32) (w6 w7 w8 w9 w10 w11 w12 w13 w14 w15 w19 w24 w26 w27 w28 w29 w30 w35 : Value) (f21 : Nat → Option Nat) (f38 : Nat → Int32) (f40 : Nat → Int32) (hf22 : f21 0 = some q23) (hf39 : f38 0 = 0) (hf41 : f40 0 = 100) (h4 : (0 : Int32) ≤ x2) (h42 : (40000000 : Int32) < x2) (sz : Nat) : Met l yL_tickAt [Cond.codeWith yL_tickAt cL_tickAt 4 (some .int) [(0, 9, 12, 15)]] ({ frames := 9, cells := 1, slots := 6, locals := 163 } : Room) (va_Pc [.ref q1, .int x2, .ref q3] (PZ g sz [(q37, .inl (g.2 0, 10, .inl f40)), (q36, .inl (g.2 0, 10, .inl f38)), (q31, .inr (9, [.ref q36, .ref q37, .int 1, w35])), (q23, .inr (8, [w24, .ref q31, w26, w27, w28, w29, w30])), (q20, .inl (g.2 3, 10, .inr (.inr (.inr (.inr f21))))), (q16, .inr (10, [.ref q20, .int 0, w19])), (q1, .inr (11, [.ref q16, w6, w7, w8, w9, w10, w11, w12, w13, w14, w15]))])) (QI g [(q37, .inl (g.2 0, 10, .inl f40)), (q36, .inl (g.2 0, 10, .inl f38)), (q31, .inr (9, [.ref q36, .ref q37, .int 1, w35])), (q23, .inr (8, [w24, .ref q31, w26, w27, w28, w29, w30])), (q20, .inl (g.2 3, 10, .inr (.inr (.inr (.inr f21))))), (q16, .inr (10, [.ref q20, .int 0, w19])), (q1, .inr (11, [.ref q16, w6, w7, w8, w9, w10, w11, w12, w13, w14, w15]))] sz 1 (fun _ => [])) 1 6 (va_A [(q37, .inl (g.2 0, 10, .inl f40)), (q36, .inl (g.2 0, 10, .inl f38)), (q31, .inr (9, [.ref q36, .ref q37, .int 1, w35])), (q23, .inr (8, [w24, .ref q31, w26, w27, w28, w29, w30])), (q20, .inl (g.2 3, 10, .inr (.inr (.inr (.inr f21))))), (q16, .inr (10, [.ref q20, .int 0, w19])), (q1, .inr (11, [.ref q16, w6, w7, w8, w9, w10, w11, w12, w13, w14, w15]))] sz) := by
  refine ofH (by decide) (Nat.le_of_ble_eq_true rfl) rfl ?_
  intro p e s m args below meth c A ls hAe hsz hx hb hml hr hlocks hin hown hE hP hD hA hS hl htb hz
  have hown : s.vm.findClass RL = some m.cls := hown
  refine lv_aload_n hx hb dL_tickAt_0 rfl (lv_at hl 2 rfl) ?_
  refine lv_iconst (v := 0) hx hb dL_tickAt_1 (by decide) ?_
  refine lv_aload_n hx hb dL_tickAt_2 rfl (lv_at hl 0 rfl) ?_
  refine lv_iload_n hx hb dL_tickAt_3 rfl (lv_at hl 1 rfl) ?_
  refine gx_i (wr := [(q37, .inl (g.2 0, 10, .inl f40)), (q36, .inl (g.2 0, 10, .inl f38)), (q31, .inr (9, [.ref q36, .ref q37, .int 1, w35])), (q23, .inr (8, [w24, .ref q31, w26, w27, w28, w29, w30])), (q20, .inl (g.2 3, 10, .inr (.inr (.inr (.inr f21))))), (q16, .inr (10, [.ref q20, .int 0, w19])), (q1, .inr (11, [.ref q16, w6, w7, w8, w9, w10, w11, w12, w13, w14, w15]))]) (rVx (rest := [.int 0, .ref q3]) hx hb hml hown hE hP hD hS hA hz 6 rfl rfl (c94_X9_tickAt l g hlx q1 x2 h4 h42 s.heap.size) (kV_X9_tickAt hE (e971 hE) rfl rfl ⟨(Nat.le_of_ble_eq_true rfl), (Nat.le_of_ble_eq_true rfl)⟩) [] rfl (by decide) rfl hl.1 rfl (lv_room (Nat.le_of_ble_eq_true rfl)) dL_tickAt_4 ⟨(Nat.le_of_ble_eq_true rfl), (Nat.le_of_ble_eq_true rfl)⟩) hP hD hS hA [] [0, 1, 2, 3, 4, 5, 6] rfl rfl (by decide) (by decide) (fun ce9 q9 H locs hP hD hS hq1 hq2 hq3 => ?_)
  have hP : va_P g.1 vwCl [(q37, .inl (g.2 0, 10, .inl f40)), (q36, .inl (g.2 0, 10, .inl f38)), (q31, .inr (9, [.ref q36, .ref q37, .int 1, w35])), (q23, .inr (8, [w24, .ref q31, w26, w27, w28, w29, w30])), (q20, .inl (g.2 3, 10, .inr (.inr (.inr (.inr f21))))), (q16, .inr (10, [.ref q20, .int 0, w19])), (q1, .inr (11, [.ref q16, w6, w7, w8, w9, w10, w11, w12, w13, w14, w15]))] H := hP
  have hD : va_D A [(q37, .inl (g.2 0, 10, .inl f40)), (q36, .inl (g.2 0, 10, .inl f38)), (q31, .inr (9, [.ref q36, .ref q37, .int 1, w35])), (q23, .inr (8, [w24, .ref q31, w26, w27, w28, w29, w30])), (q20, .inl (g.2 3, 10, .inr (.inr (.inr (.inr f21))))), (q16, .inr (10, [.ref q20, .int 0, w19])), (q1, .inr (11, [.ref q16, w6, w7, w8, w9, w10, w11, w12, w13, w14, w15]))] := hD
  refine x_catch (name := "java/lang/IllegalArgumentException") (hh := [(0, 9, 12, 15)]) (tgt := 12) hown htb [] ⟨0, 9, 12, 15⟩ [] rfl (fun _ h => nomatch h) rfl (by decide) (e611 hE) (e641 hE) hq1 hq2 hq3 rfl ?_
  refine lv_astore_n (lv' := [(3, .ref q9), (0, .ref q1), (1, .int x2), (2, .ref q3)]) hx hb dL_tickAt_12 rfl hl (by decide) rfl (fun ls hl => ?_)
  refine lv_iconst (v := 1) hx hb dL_tickAt_13 (by decide) ?_
  exact x_zret hx hb hr rfl rfl hlocks hP hD hS hAe hsz (Nat.le_of_ble_eq_true rfl) (Nat.le_of_ble_eq_true rfl) (fun _ => 0) [] (by decide) rfl dL_tickAt_14

set_option maxHeartbeats 4000000 in
set_option maxRecDepth 100000 in
theorem c96_X10_in (l : Launch) (g : gG) (x1 : Int32) (h2 : (0 : Int32) ≤ x1) (h3 : (40000000 : Int32) < x1) (sz : Nat) : Met l yX10_in [Cond.code yX10_in cX10_in 3 (some .boolean)] ({ frames := 0, cells := 0, slots := 0, locals := 0 } : Room) (va_Pc [.int x1, .int 0, .int 40000000] (PX g sz [])) (QI g [] sz 0 (fun _ => [])) 0 0 (va_A [] sz) := by
  refine ofN (by decide) (Nat.le_of_ble_eq_true rfl) rfl ?_
  intro p e s m args below meth c A ls hAe hsz hx hb hml hr hlocks hin hown hE hP hD hA hS hl
  have hown : s.vm.findClass RX10 = some m.cls := hown
  refine lv_iload_n hx hb dX10_in_0 rfl (lv_at hl 0 rfl) ?_
  refine lv_iload_n hx hb dX10_in_1 rfl (lv_at hl 1 rfl) ?_
  refine lv_icmp_lt (tgt := 14) hx hb dX10_in_2 (by decide) (fun h => absurd h (i_nlt h2)) (fun _ => ?_)
  refine lv_iload_n hx hb dX10_in_5 rfl (lv_at hl 0 rfl) ?_
  refine lv_iload_n hx hb dX10_in_6 rfl (lv_at hl 2 rfl) ?_
  refine lv_icmp_gt (tgt := 14) hx hb dX10_in_7 (by decide) (fun _ => ?_) (fun h => absurd h3 h)
  refine lv_iconst (v := 0) hx hb dX10_in_14 (by decide) ?_
  exact x_zret hx hb hr rfl rfl hlocks hP hD hS hAe hsz (Nat.le_of_ble_eq_true rfl) (Nat.le_of_ble_eq_true rfl) (fun _ => 0) [] (by decide) rfl dX10_in_15

set_option maxHeartbeats 4000000 in
set_option maxRecDepth 100000 in
theorem c97_X10_tickAt (l : Launch) (g : gG) (q1 : Nat) (x2 : Int32) (w5 w6 w7 w8 w9 w10 w11 w12 w13 w14 w15 w16 w17 w18 w19 w20 w21 w22 w23 w24 w25 w26 w27 w28 w29 w30 w31 w32 w33 w34 w35 w36 w37 w38 w39 w40 w41 : Value) (h3 : (0 : Int32) ≤ x2) (h4 : (40000000 : Int32) < x2) (sz : Nat) : Met l yX10_tickAt [Cond.code yX10_tickAt cX10_tickAt 5 (some .int)] ({ frames := 1, cells := 0, slots := 0, locals := 22 } : Room) (va_Pc [.ref q1, .int x2] (PX g sz [(q1, .inr (12, [w5, w6, w7, w8, w9, w10, w11, w12, w13, w14, w15, w16, w17, w18, w19, w20, w21, w22, w23, w24, w25, w26, w27, w28, w29, w30, w31, w32, w33, w34, w35, w36, w37, w38, w39, w40, w41]))])) (QI g [(q1, .inr (12, [w5, w6, w7, w8, w9, w10, w11, w12, w13, w14, w15, w16, w17, w18, w19, w20, w21, w22, w23, w24, w25, w26, w27, w28, w29, w30, w31, w32, w33, w34, w35, w36, w37, w38, w39, w40, w41]))] sz 0 (fun _ => [(q1, .inr (12, [w5, w6, w7, w8, w9, w10, .int 1, w12, w13, w14, w15, w16, w17, w18, w19, w20, w21, w22, w23, w24, w25, w26, w27, w28, w29, w30, w31, w32, w33, w34, w35, w36, w37, w38, w39, w40, w41]))])) 0 0 (va_A [(q1, .inr (12, [w5, w6, w7, w8, w9, w10, w11, w12, w13, w14, w15, w16, w17, w18, w19, w20, w21, w22, w23, w24, w25, w26, w27, w28, w29, w30, w31, w32, w33, w34, w35, w36, w37, w38, w39, w40, w41]))] sz) := by
  refine ofN (by decide) (Nat.le_of_ble_eq_true rfl) rfl ?_
  intro p e s m args below meth c A ls hAe hsz hx hb hml hr hlocks hin hown hE hP hD hA hS hl
  have hown : s.vm.findClass RX10 = some m.cls := hown
  refine lv_aload_n hx hb dX10_tickAt_0 rfl (lv_at hl 0 rfl) ?_
  refine lv_iload_n hx hb dX10_tickAt_1 rfl (lv_at hl 1 rfl) ?_
  refine lv_iconst (v := 0) hx hb dX10_tickAt_2 (by decide) ?_
  refine lv_ldc (v := 40000000) hx hb hown (e1640 hE) dX10_tickAt_3 ?_
  refine g0_i (rS (rest := [.ref q1]) hx hb hml hown hE hP hD (c96_X10_in l g x2 h3 h4 s.heap.size) (kS_X10_in hE (e1431 hE) rfl rfl ⟨(Nat.le_of_ble_eq_true rfl), (Nat.le_of_ble_eq_true rfl)⟩) [] rfl (by decide) rfl hl.1 rfl (lv_room (Nat.le_of_ble_eq_true rfl)) dX10_tickAt_5 ⟨(Nat.le_of_ble_eq_true rfl), (Nat.le_of_ble_eq_true rfl)⟩) hP hD hS hA (fun u9 H locs hP hS => ?_)
  refine lv_if_eq (tgt := 15) hx hb dX10_tickAt_8 (by decide) (fun _ => ?_) (fun h => absurd (by decide) h)
  refine lv_iconst (v := 1) hx hb dX10_tickAt_15 (by decide) ?_
  refine pf_RX10_86 (ws' := [(q1, .inr (12, [w5, w6, w7, w8, w9, w10, .int 1, w12, w13, w14, w15, w16, w17, w18, w19, w20, w21, w22, w23, w24, w25, w26, w27, w28, w29, w30, w31, w32, w33, w34, w35, w36, w37, w38, w39, w40, w41]))]) hx hb hown hE hP hD hS 0 rfl rfl rfl (Nat.le_of_ble_eq_true rfl) dX10_tickAt_16 rfl (fun H locs hP hD hS => ?_)
  refine lv_aload_n hx hb dX10_tickAt_19 rfl (lv_at hl 0 rfl) ?_
  refine gf_RX10_86 hx hb hown hE hP 0 rfl rfl dX10_tickAt_20 ?_
  refine lv_if_le (tgt := 28) hx hb dX10_tickAt_23 (by decide) (fun h => absurd h (by decide)) (fun _ => ?_)
  refine lv_iconst (v := 0) hx hb dX10_tickAt_26 (by decide) ?_
  exact x_zret hx hb hr rfl rfl hlocks hP hD hS hAe hsz (Nat.le_of_ble_eq_true rfl) (Nat.le_of_ble_eq_true rfl) (fun _ => 0) [0] (by decide) rfl dX10_tickAt_27

set_option maxHeartbeats 4000000 in
set_option maxRecDepth 100000 in
theorem c98_X6_clipCount (l : Launch) (g : gG) (q1 : Nat) (w2 w3 w4 w5 w7 w8 : Value) (sz : Nat) : Met l yX6_clipCount [Cond.code yX6_clipCount cX6_clipCount 1 (some .int)] ({ frames := 0, cells := 0, slots := 0, locals := 0 } : Room) (va_Pc [.ref q1] (PX g sz [(q1, .inr (8, [w2, w3, w4, w5, .int 0, w7, w8]))])) (QI g [(q1, .inr (8, [w2, w3, w4, w5, .int 0, w7, w8]))] sz 0 (fun _ => [(q1, .inr (8, [w2, w3, w4, w5, .int 0, w7, w8]))])) 0 0 (va_A [(q1, .inr (8, [w2, w3, w4, w5, .int 0, w7, w8]))] sz) := by
  refine ofN (by decide) (Nat.le_of_ble_eq_true rfl) rfl ?_
  intro p e s m args below meth c A ls hAe hsz hx hb hml hr hlocks hin hown hE hP hD hA hS hl
  have hown : s.vm.findClass RX6 = some m.cls := hown
  refine lv_aload_n hx hb dX6_clipCount_0 rfl (lv_at hl 0 rfl) ?_
  refine gf_RX6_37 hx hb hown hE hP 0 rfl rfl dX6_clipCount_1 ?_
  exact x_zret hx hb hr rfl rfl hlocks hP hD hS hAe hsz (Nat.le_of_ble_eq_true rfl) (Nat.le_of_ble_eq_true rfl) (fun _ => 0) [0] (by decide) rfl dX6_clipCount_4

set_option maxHeartbeats 4000000 in
set_option maxRecDepth 100000 in
theorem c99_X7_reset (l : Launch) (g : gG) (q1 q6 q9 : Nat) (w4 w5 : Value) (f7 : Nat → Int32) (f10 : Nat → Int32) (hf8 : f7 0 = 0) (hf11 : f10 0 = 100) (sz : Nat) : Met l yX7_reset [Cond.code yX7_reset cX7_reset 1 none] ({ frames := 0, cells := 0, slots := 0, locals := 0 } : Room) (va_Pc [.ref q1] (PX g sz [(q9, .inl (g.2 0, 10, .inl f10)), (q6, .inl (g.2 0, 10, .inl f7)), (q1, .inr (9, [.ref q6, .ref q9, w4, w5]))])) (QV g [(q9, .inl (g.2 0, 10, .inl f10)), (q6, .inl (g.2 0, 10, .inl f7)), (q1, .inr (9, [.ref q6, .ref q9, w4, w5]))] sz (fun _ => [(q9, .inl (g.2 0, 10, .inl f10)), (q6, .inl (g.2 0, 10, .inl f7)), (q1, .inr (9, [.ref q6, .ref q9, .int 1, .int 0]))])) 0 0 (va_A [(q9, .inl (g.2 0, 10, .inl f10)), (q6, .inl (g.2 0, 10, .inl f7)), (q1, .inr (9, [.ref q6, .ref q9, w4, w5]))] sz) := by
  refine ofN (by decide) (Nat.le_of_ble_eq_true rfl) rfl ?_
  intro p e s m args below meth c A ls hAe hsz hx hb hml hr hlocks hin hown hE hP hD hA hS hl
  have hown : s.vm.findClass RX7 = some m.cls := hown
  refine lv_aload_n hx hb dX7_reset_0 rfl (lv_at hl 0 rfl) ?_
  refine lv_iconst (v := 1) hx hb dX7_reset_1 (by decide) ?_
  refine pf_RX7_18 (ws' := [(q9, .inl (g.2 0, 10, .inl f10)), (q6, .inl (g.2 0, 10, .inl f7)), (q1, .inr (9, [.ref q6, .ref q9, .int 1, w5]))]) hx hb hown hE hP hD hS 2 rfl rfl rfl (Nat.le_of_ble_eq_true rfl) dX7_reset_2 rfl (fun H locs hP hD hS => ?_)
  refine lv_aload_n hx hb dX7_reset_5 rfl (lv_at hl 0 rfl) ?_
  refine lv_iconst (v := 0) hx hb dX7_reset_6 (by decide) ?_
  refine pf_RX7_22 (ws' := [(q9, .inl (g.2 0, 10, .inl f10)), (q6, .inl (g.2 0, 10, .inl f7)), (q1, .inr (9, [.ref q6, .ref q9, .int 1, .int 0]))]) hx hb hown hE hP hD hS 2 rfl rfl rfl (Nat.le_of_ble_eq_true rfl) dX7_reset_7 rfl (fun H locs hP hD hS => ?_)
  refine lv_aload_n hx hb dX7_reset_10 rfl (lv_at hl 0 rfl) ?_
  refine gf_RX7_9 hx hb hown hE hP 2 rfl rfl dX7_reset_11 ?_
  refine lv_iconst (v := 0) hx hb dX7_reset_14 (by decide) ?_
  refine lv_iconst (v := 0) hx hb dX7_reset_15 (by decide) ?_
  refine x_iast_same hx hb hE hP hD hS 1 rfl 0 (x_in (by decide)) (by decide) hf8 dX7_reset_16 (fun H locs hP hD hS => ?_)
  refine lv_aload_n hx hb dX7_reset_17 rfl (lv_at hl 0 rfl) ?_
  refine gf_RX7_15 hx hb hown hE hP 2 rfl rfl dX7_reset_18 ?_
  refine lv_iconst (v := 0) hx hb dX7_reset_21 (by decide) ?_
  refine lv_bipush (v := 100) hx hb dX7_reset_22 (by decide) ?_
  refine x_iast_same hx hb hE hP hD hS 0 rfl 0 (x_in (by decide)) (by decide) hf11 dX7_reset_24 (fun H locs hP hD hS => ?_)
  exact x_vret hx hb hr hlocks hP hD hS hAe hsz (Nat.le_of_ble_eq_true rfl) (Nat.le_of_ble_eq_true rfl) (fun _ => 0) [0, 1, 2] (by decide) rfl dX7_reset_25

set_option maxHeartbeats 4000000 in
set_option maxRecDepth 100000 in
theorem c100_X6_reset (l : Launch) (g : gG) (q1 q9 q12 q14 q19 q20 q25 : Nat) (w4 w6 w7 w8 w10 w17 w18 : Value) (f13 : Nat → Int32) (f21 : Nat → Int32) (f23 : Nat → Int32) (f26 : Nat → Int32) (hf22 : f21 0 = 0) (hf24 : f23 0 = 100) (hf27 : f26 0 = 0) (hf28 : f26 1 = 0) (hf29 : f26 3 = 0) (hf30 : f26 5 = 0) (hf31 : f26 6 = 0) (hf32 : f26 8 = 0) (hf33 : f26 10 = 0) (hf34 : f26 11 = 0) (hf35 : f26 13 = 0) (hf36 : f26 15 = 0) (hf37 : f26 16 = 0) (hf38 : f26 18 = 0) (sz : Nat) : Met l yX6_reset [Cond.code yX6_reset cX6_reset 2 none] ({ frames := 3, cells := 0, slots := 0, locals := 70 } : Room) (va_Pc [.ref q1] (PX g sz [(q25, .inl (g.2 0, 20, .inl f26)), (q20, .inl (g.2 0, 10, .inl f23)), (q19, .inl (g.2 0, 10, .inl f21)), (q14, .inr (9, [.ref q19, .ref q20, w17, w18])), (q12, .inl (g.2 0, 40, .inl f13)), (q9, .inr (5, [w10, .ref q12])), (q1, .inr (8, [.ref q9, .ref q14, w4, .ref q25, w6, w7, w8]))])) (QV g [(q25, .inl (g.2 0, 20, .inl f26)), (q20, .inl (g.2 0, 10, .inl f23)), (q19, .inl (g.2 0, 10, .inl f21)), (q14, .inr (9, [.ref q19, .ref q20, w17, w18])), (q12, .inl (g.2 0, 40, .inl f13)), (q9, .inr (5, [w10, .ref q12])), (q1, .inr (8, [.ref q9, .ref q14, w4, .ref q25, w6, w7, w8]))] sz (fun _ => [(q12, .inl (g.2 0, 40, .inl (upd (upd (upd (upd (upd (upd (upd (upd (fillF 40 0 f13) 4 1) 9 1) 14 1) 19 1) 24 1) 29 1) 34 1) 39 1))), (q9, .inr (5, [w10, .ref q12])), (q20, .inl (g.2 0, 10, .inl f23)), (q19, .inl (g.2 0, 10, .inl f21)), (q14, .inr (9, [.ref q19, .ref q20, .int 1, .int 0])), (q1, .inr (8, [.ref q9, .ref q14, w4, .ref q25, .int 0, .int 4, .int 0])), (q25, .inl (g.2 0, 20, .inl (upd (upd (upd (upd (upd (upd (upd (upd f26 2 100) 4 5) 7 100) 9 5) 12 100) 14 5) 17 100) 19 5)))])) 0 0 (va_A [(q25, .inl (g.2 0, 20, .inl f26)), (q20, .inl (g.2 0, 10, .inl f23)), (q19, .inl (g.2 0, 10, .inl f21)), (q14, .inr (9, [.ref q19, .ref q20, w17, w18])), (q12, .inl (g.2 0, 40, .inl f13)), (q9, .inr (5, [w10, .ref q12])), (q1, .inr (8, [.ref q9, .ref q14, w4, .ref q25, w6, w7, w8]))] sz) := by
  refine ofN (by decide) (Nat.le_of_ble_eq_true rfl) rfl ?_
  intro p e s m args below meth c A ls hAe hsz hx hb hml hr hlocks hin hown hE hP hD hA hS hl
  have hown : s.vm.findClass RX6 = some m.cls := hown
  refine lv_aload_n hx hb dX6_reset_0 rfl (lv_at hl 0 rfl) ?_
  refine gf_RX6_12 hx hb hown hE hP 6 rfl rfl dX6_reset_1 ?_
  refine g_v (wr := [(q25, .inl (g.2 0, 20, .inl f26)), (q20, .inl (g.2 0, 10, .inl f23)), (q19, .inl (g.2 0, 10, .inl f21)), (q14, .inr (9, [.ref q19, .ref q20, w17, w18])), (q1, .inr (8, [.ref q9, .ref q14, w4, .ref q25, w6, w7, w8]))]) (rV (rest := []) hx hb hml hown hE hP hD 5 rfl rfl (c11_X3_reset l g q9 q12 w10 f13 s.heap.size) (kV_X3_reset hE (e84 hE) rfl rfl ⟨(Nat.le_of_ble_eq_true rfl), (Nat.le_of_ble_eq_true rfl)⟩) [4, 5] rfl (by decide) rfl hl.1 rfl (lv_room (Nat.le_of_ble_eq_true rfl)) dX6_reset_4 ⟨(Nat.le_of_ble_eq_true rfl), (Nat.le_of_ble_eq_true rfl)⟩) hP hD hS hA [4, 5] [0, 1, 2, 3, 6] rfl rfl (by decide) (by decide) (fun u1 H locs hP hD hS => ?_)
  have hP : va_P g.1 vwCl [(q25, .inl (g.2 0, 20, .inl f26)), (q20, .inl (g.2 0, 10, .inl f23)), (q19, .inl (g.2 0, 10, .inl f21)), (q14, .inr (9, [.ref q19, .ref q20, w17, w18])), (q1, .inr (8, [.ref q9, .ref q14, w4, .ref q25, w6, w7, w8])), (q12, .inl (g.2 0, 40, .inl (upd (upd (upd (upd (upd (upd (upd (upd (fillF 40 0 f13) 4 1) 9 1) 14 1) 19 1) 24 1) 29 1) 34 1) 39 1))), (q9, .inr (5, [w10, .ref q12]))] H := hP
  have hD : va_D A [(q25, .inl (g.2 0, 20, .inl f26)), (q20, .inl (g.2 0, 10, .inl f23)), (q19, .inl (g.2 0, 10, .inl f21)), (q14, .inr (9, [.ref q19, .ref q20, w17, w18])), (q1, .inr (8, [.ref q9, .ref q14, w4, .ref q25, w6, w7, w8])), (q12, .inl (g.2 0, 40, .inl (upd (upd (upd (upd (upd (upd (upd (upd (fillF 40 0 f13) 4 1) 9 1) 14 1) 19 1) 24 1) 29 1) 34 1) 39 1))), (q9, .inr (5, [w10, .ref q12]))] := hD
  refine lv_aload_n hx hb dX6_reset_7 rfl (lv_at hl 0 rfl) ?_
  refine gf_RX6_21 hx hb hown hE hP 4 rfl rfl dX6_reset_8 ?_
  refine g_v (wr := [(q25, .inl (g.2 0, 20, .inl f26)), (q1, .inr (8, [.ref q9, .ref q14, w4, .ref q25, w6, w7, w8])), (q12, .inl (g.2 0, 40, .inl (upd (upd (upd (upd (upd (upd (upd (upd (fillF 40 0 f13) 4 1) 9 1) 14 1) 19 1) 24 1) 29 1) 34 1) 39 1))), (q9, .inr (5, [w10, .ref q12]))]) (rV (rest := []) hx hb hml hown hE hP hD 3 rfl rfl (c99_X7_reset l g q14 q19 q20 w17 w18 f21 f23 (hf22) (hf24) H.size) (kV_X7_reset hE (e95 hE) rfl rfl ⟨(Nat.le_of_ble_eq_true rfl), (Nat.le_of_ble_eq_true rfl)⟩) [1, 2, 3] rfl (by decide) rfl hl.1 rfl (lv_room (Nat.le_of_ble_eq_true rfl)) dX6_reset_11 ⟨(Nat.le_of_ble_eq_true rfl), (Nat.le_of_ble_eq_true rfl)⟩) hP hD hS hA [1, 2, 3] [0, 4, 5, 6] rfl rfl (by decide) (by decide) (fun u2 H locs hP hD hS => ?_)
  have hP : va_P g.1 vwCl [(q25, .inl (g.2 0, 20, .inl f26)), (q1, .inr (8, [.ref q9, .ref q14, w4, .ref q25, w6, w7, w8])), (q12, .inl (g.2 0, 40, .inl (upd (upd (upd (upd (upd (upd (upd (upd (fillF 40 0 f13) 4 1) 9 1) 14 1) 19 1) 24 1) 29 1) 34 1) 39 1))), (q9, .inr (5, [w10, .ref q12])), (q20, .inl (g.2 0, 10, .inl f23)), (q19, .inl (g.2 0, 10, .inl f21)), (q14, .inr (9, [.ref q19, .ref q20, .int 1, .int 0]))] H := hP
  have hD : va_D A [(q25, .inl (g.2 0, 20, .inl f26)), (q1, .inr (8, [.ref q9, .ref q14, w4, .ref q25, w6, w7, w8])), (q12, .inl (g.2 0, 40, .inl (upd (upd (upd (upd (upd (upd (upd (upd (fillF 40 0 f13) 4 1) 9 1) 14 1) 19 1) 24 1) 29 1) 34 1) 39 1))), (q9, .inr (5, [w10, .ref q12])), (q20, .inl (g.2 0, 10, .inl f23)), (q19, .inl (g.2 0, 10, .inl f21)), (q14, .inr (9, [.ref q19, .ref q20, .int 1, .int 0]))] := hD
  refine lv_aload_n hx hb dX6_reset_14 rfl (lv_at hl 0 rfl) ?_
  refine lv_iconst (v := 0) hx hb dX6_reset_15 (by decide) ?_
  refine pf_RX6_37 (ws' := [(q25, .inl (g.2 0, 20, .inl f26)), (q1, .inr (8, [.ref q9, .ref q14, w4, .ref q25, .int 0, w7, w8])), (q12, .inl (g.2 0, 40, .inl (upd (upd (upd (upd (upd (upd (upd (upd (fillF 40 0 f13) 4 1) 9 1) 14 1) 19 1) 24 1) 29 1) 34 1) 39 1))), (q9, .inr (5, [w10, .ref q12])), (q20, .inl (g.2 0, 10, .inl f23)), (q19, .inl (g.2 0, 10, .inl f21)), (q14, .inr (9, [.ref q19, .ref q20, .int 1, .int 0]))]) hx hb hown hE hP hD hS 1 rfl rfl rfl (Nat.le_of_ble_eq_true rfl) dX6_reset_16 rfl (fun H locs hP hD hS => ?_)
  refine lv_aload_n hx hb dX6_reset_19 rfl (lv_at hl 0 rfl) ?_
  refine lv_iconst (v := 4) hx hb dX6_reset_20 (by decide) ?_
  refine pf_RX6_41 (ws' := [(q25, .inl (g.2 0, 20, .inl f26)), (q1, .inr (8, [.ref q9, .ref q14, w4, .ref q25, .int 0, .int 4, w8])), (q12, .inl (g.2 0, 40, .inl (upd (upd (upd (upd (upd (upd (upd (upd (fillF 40 0 f13) 4 1) 9 1) 14 1) 19 1) 24 1) 29 1) 34 1) 39 1))), (q9, .inr (5, [w10, .ref q12])), (q20, .inl (g.2 0, 10, .inl f23)), (q19, .inl (g.2 0, 10, .inl f21)), (q14, .inr (9, [.ref q19, .ref q20, .int 1, .int 0]))]) hx hb hown hE hP hD hS 1 rfl rfl rfl (Nat.le_of_ble_eq_true rfl) dX6_reset_21 rfl (fun H locs hP hD hS => ?_)
  refine lv_aload_n hx hb dX6_reset_24 rfl (lv_at hl 0 rfl) ?_
  refine lv_iconst (v := 0) hx hb dX6_reset_25 (by decide) ?_
  refine pf_RX6_44 (ws' := [(q25, .inl (g.2 0, 20, .inl f26)), (q1, .inr (8, [.ref q9, .ref q14, w4, .ref q25, .int 0, .int 4, .int 0])), (q12, .inl (g.2 0, 40, .inl (upd (upd (upd (upd (upd (upd (upd (upd (fillF 40 0 f13) 4 1) 9 1) 14 1) 19 1) 24 1) 29 1) 34 1) 39 1))), (q9, .inr (5, [w10, .ref q12])), (q20, .inl (g.2 0, 10, .inl f23)), (q19, .inl (g.2 0, 10, .inl f21)), (q14, .inr (9, [.ref q19, .ref q20, .int 1, .int 0]))]) hx hb hown hE hP hD hS 1 rfl rfl rfl (Nat.le_of_ble_eq_true rfl) dX6_reset_26 rfl (fun H locs hP hD hS => ?_)
  refine lv_iconst (v := 0) hx hb dX6_reset_29 (by decide) ?_
  refine lv_istore_n (lv' := [(1, .int 0), (0, .ref q1)]) hx hb dX6_reset_30 rfl hl (by decide) rfl (fun ls hl => ?_)
  refine lv_iload_n hx hb dX6_reset_31 rfl (lv_at hl 0 rfl) ?_
  refine lv_iconst (v := 4) hx hb dX6_reset_32 (by decide) ?_
  refine lv_icmp_ge (tgt := 59) hx hb dX6_reset_33 (by decide) (fun h => absurd h (by decide)) (fun _ => ?_)
  refine lv_aload_n hx hb dX6_reset_36 rfl (lv_at hl 1 rfl) ?_
  refine lv_iload_n hx hb dX6_reset_37 rfl (lv_at hl 0 rfl) ?_
  refine lv_iconst (v := 0) hx hb dX6_reset_38 (by decide) ?_
  refine lv_iconst (v := 0) hx hb dX6_reset_39 (by decide) ?_
  refine lv_bipush (v := 100) hx hb dX6_reset_40 (by decide) ?_
  refine lv_iconst (v := 0) hx hb dX6_reset_42 (by decide) ?_
  refine g_v (wr := [(q12, .inl (g.2 0, 40, .inl (upd (upd (upd (upd (upd (upd (upd (upd (fillF 40 0 f13) 4 1) 9 1) 14 1) 19 1) 24 1) 29 1) 34 1) 39 1))), (q9, .inr (5, [w10, .ref q12])), (q20, .inl (g.2 0, 10, .inl f23)), (q19, .inl (g.2 0, 10, .inl f21)), (q14, .inr (9, [.ref q19, .ref q20, .int 1, .int 0]))]) (rV (rest := []) hx hb hml hown hE hP hD 1 rfl rfl (c21_X6_putEnvelope l g q1 q25 (.ref q9) (.ref q14) w4 (.int 0) (.int 4) (.int 0) f26 (hf27) (hf28) (hf29) H.size) (kV_X6_putEnvelope hE (e99 hE) rfl rfl ⟨(Nat.le_of_ble_eq_true rfl), (Nat.le_of_ble_eq_true rfl)⟩) [0, 1] rfl (by decide) rfl hl.1 rfl (lv_room (Nat.le_of_ble_eq_true rfl)) dX6_reset_43 ⟨(Nat.le_of_ble_eq_true rfl), (Nat.le_of_ble_eq_true rfl)⟩) hP hD hS hA [0, 1] [2, 3, 4, 5, 6] rfl rfl (by decide) (by decide) (fun u3 H locs hP hD hS => ?_)
  have hP : va_P g.1 vwCl [(q12, .inl (g.2 0, 40, .inl (upd (upd (upd (upd (upd (upd (upd (upd (fillF 40 0 f13) 4 1) 9 1) 14 1) 19 1) 24 1) 29 1) 34 1) 39 1))), (q9, .inr (5, [w10, .ref q12])), (q20, .inl (g.2 0, 10, .inl f23)), (q19, .inl (g.2 0, 10, .inl f21)), (q14, .inr (9, [.ref q19, .ref q20, .int 1, .int 0])), (q1, .inr (8, [.ref q9, .ref q14, w4, .ref q25, .int 0, .int 4, .int 0])), (q25, .inl (g.2 0, 20, .inl (upd f26 2 100)))] H := hP
  have hD : va_D A [(q12, .inl (g.2 0, 40, .inl (upd (upd (upd (upd (upd (upd (upd (upd (fillF 40 0 f13) 4 1) 9 1) 14 1) 19 1) 24 1) 29 1) 34 1) 39 1))), (q9, .inr (5, [w10, .ref q12])), (q20, .inl (g.2 0, 10, .inl f23)), (q19, .inl (g.2 0, 10, .inl f21)), (q14, .inr (9, [.ref q19, .ref q20, .int 1, .int 0])), (q1, .inr (8, [.ref q9, .ref q14, w4, .ref q25, .int 0, .int 4, .int 0])), (q25, .inl (g.2 0, 20, .inl (upd f26 2 100)))] := hD
  refine lv_aload_n hx hb dX6_reset_46 rfl (lv_at hl 1 rfl) ?_
  refine lv_iload_n hx hb dX6_reset_47 rfl (lv_at hl 0 rfl) ?_
  refine lv_iconst (v := 4) hx hb dX6_reset_48 (by decide) ?_
  refine lv_iconst (v := 5) hx hb dX6_reset_49 (by decide) ?_
  refine g_v (wr := [(q12, .inl (g.2 0, 40, .inl (upd (upd (upd (upd (upd (upd (upd (upd (fillF 40 0 f13) 4 1) 9 1) 14 1) 19 1) 24 1) 29 1) 34 1) 39 1))), (q9, .inr (5, [w10, .ref q12])), (q20, .inl (g.2 0, 10, .inl f23)), (q19, .inl (g.2 0, 10, .inl f21)), (q14, .inr (9, [.ref q19, .ref q20, .int 1, .int 0]))]) (rV (rest := []) hx hb hml hown hE hP hD 5 rfl rfl (c23_X6_putInstrumentNumber l g q1 q25 (.ref q9) (.ref q14) w4 (.int 0) (.int 4) (.int 0) (upd f26 2 100) H.size) (kV_X6_putInstrumentNumber hE (e103 hE) rfl rfl ⟨(Nat.le_of_ble_eq_true rfl), (Nat.le_of_ble_eq_true rfl)⟩) [6, 5] rfl (by decide) rfl hl.1 rfl (lv_room (Nat.le_of_ble_eq_true rfl)) dX6_reset_50 ⟨(Nat.le_of_ble_eq_true rfl), (Nat.le_of_ble_eq_true rfl)⟩) hP hD hS hA [6, 5] [0, 1, 2, 3, 4] rfl rfl (by decide) (by decide) (fun u4 H locs hP hD hS => ?_)
  have hP : va_P g.1 vwCl [(q12, .inl (g.2 0, 40, .inl (upd (upd (upd (upd (upd (upd (upd (upd (fillF 40 0 f13) 4 1) 9 1) 14 1) 19 1) 24 1) 29 1) 34 1) 39 1))), (q9, .inr (5, [w10, .ref q12])), (q20, .inl (g.2 0, 10, .inl f23)), (q19, .inl (g.2 0, 10, .inl f21)), (q14, .inr (9, [.ref q19, .ref q20, .int 1, .int 0])), (q1, .inr (8, [.ref q9, .ref q14, w4, .ref q25, .int 0, .int 4, .int 0])), (q25, .inl (g.2 0, 20, .inl (upd (upd f26 2 100) 4 5)))] H := hP
  have hD : va_D A [(q12, .inl (g.2 0, 40, .inl (upd (upd (upd (upd (upd (upd (upd (upd (fillF 40 0 f13) 4 1) 9 1) 14 1) 19 1) 24 1) 29 1) 34 1) 39 1))), (q9, .inr (5, [w10, .ref q12])), (q20, .inl (g.2 0, 10, .inl f23)), (q19, .inl (g.2 0, 10, .inl f21)), (q14, .inr (9, [.ref q19, .ref q20, .int 1, .int 0])), (q1, .inr (8, [.ref q9, .ref q14, w4, .ref q25, .int 0, .int 4, .int 0])), (q25, .inl (g.2 0, 20, .inl (upd (upd f26 2 100) 4 5)))] := hD
  refine lv_iinc (v := 1) (lv' := [(1, .int 1), (0, .ref q1)]) hx hb dX6_reset_53 hl (k := 0) rfl (by decide) (by decide) rfl (fun ls hl => ?_)
  refine lv_goto (tgt := 31) hx hb dX6_reset_56 (by decide) ?_
  refine lv_iload_n hx hb dX6_reset_31 rfl (lv_at hl 0 rfl) ?_
  refine lv_iconst (v := 4) hx hb dX6_reset_32 (by decide) ?_
  refine lv_icmp_ge (tgt := 59) hx hb dX6_reset_33 (by decide) (fun h => absurd h (by decide)) (fun _ => ?_)
  refine lv_aload_n hx hb dX6_reset_36 rfl (lv_at hl 1 rfl) ?_
  refine lv_iload_n hx hb dX6_reset_37 rfl (lv_at hl 0 rfl) ?_
  refine lv_iconst (v := 0) hx hb dX6_reset_38 (by decide) ?_
  refine lv_iconst (v := 0) hx hb dX6_reset_39 (by decide) ?_
  refine lv_bipush (v := 100) hx hb dX6_reset_40 (by decide) ?_
  refine lv_iconst (v := 0) hx hb dX6_reset_42 (by decide) ?_
  refine g_v (wr := [(q12, .inl (g.2 0, 40, .inl (upd (upd (upd (upd (upd (upd (upd (upd (fillF 40 0 f13) 4 1) 9 1) 14 1) 19 1) 24 1) 29 1) 34 1) 39 1))), (q9, .inr (5, [w10, .ref q12])), (q20, .inl (g.2 0, 10, .inl f23)), (q19, .inl (g.2 0, 10, .inl f21)), (q14, .inr (9, [.ref q19, .ref q20, .int 1, .int 0]))]) (rV (rest := []) hx hb hml hown hE hP hD 5 rfl rfl (c32_X6_putEnvelope l g q1 q25 (.ref q9) (.ref q14) w4 (.int 0) (.int 4) (.int 0) (upd (upd f26 2 100) 4 5) (((pk_un (by decide)).trans ((pk_un (by decide)).trans hf30))) (((pk_un (by decide)).trans ((pk_un (by decide)).trans hf31))) (((pk_un (by decide)).trans ((pk_un (by decide)).trans hf32))) H.size) (kV_X6_putEnvelope hE (e99 hE) rfl rfl ⟨(Nat.le_of_ble_eq_true rfl), (Nat.le_of_ble_eq_true rfl)⟩) [6, 5] rfl (by decide) rfl hl.1 rfl (lv_room (Nat.le_of_ble_eq_true rfl)) dX6_reset_43 ⟨(Nat.le_of_ble_eq_true rfl), (Nat.le_of_ble_eq_true rfl)⟩) hP hD hS hA [6, 5] [0, 1, 2, 3, 4] rfl rfl (by decide) (by decide) (fun u5 H locs hP hD hS => ?_)
  have hP : va_P g.1 vwCl [(q12, .inl (g.2 0, 40, .inl (upd (upd (upd (upd (upd (upd (upd (upd (fillF 40 0 f13) 4 1) 9 1) 14 1) 19 1) 24 1) 29 1) 34 1) 39 1))), (q9, .inr (5, [w10, .ref q12])), (q20, .inl (g.2 0, 10, .inl f23)), (q19, .inl (g.2 0, 10, .inl f21)), (q14, .inr (9, [.ref q19, .ref q20, .int 1, .int 0])), (q1, .inr (8, [.ref q9, .ref q14, w4, .ref q25, .int 0, .int 4, .int 0])), (q25, .inl (g.2 0, 20, .inl (upd (upd (upd f26 2 100) 4 5) 7 100)))] H := hP
  have hD : va_D A [(q12, .inl (g.2 0, 40, .inl (upd (upd (upd (upd (upd (upd (upd (upd (fillF 40 0 f13) 4 1) 9 1) 14 1) 19 1) 24 1) 29 1) 34 1) 39 1))), (q9, .inr (5, [w10, .ref q12])), (q20, .inl (g.2 0, 10, .inl f23)), (q19, .inl (g.2 0, 10, .inl f21)), (q14, .inr (9, [.ref q19, .ref q20, .int 1, .int 0])), (q1, .inr (8, [.ref q9, .ref q14, w4, .ref q25, .int 0, .int 4, .int 0])), (q25, .inl (g.2 0, 20, .inl (upd (upd (upd f26 2 100) 4 5) 7 100)))] := hD
  refine lv_aload_n hx hb dX6_reset_46 rfl (lv_at hl 1 rfl) ?_
  refine lv_iload_n hx hb dX6_reset_47 rfl (lv_at hl 0 rfl) ?_
  refine lv_iconst (v := 4) hx hb dX6_reset_48 (by decide) ?_
  refine lv_iconst (v := 5) hx hb dX6_reset_49 (by decide) ?_
  refine g_v (wr := [(q12, .inl (g.2 0, 40, .inl (upd (upd (upd (upd (upd (upd (upd (upd (fillF 40 0 f13) 4 1) 9 1) 14 1) 19 1) 24 1) 29 1) 34 1) 39 1))), (q9, .inr (5, [w10, .ref q12])), (q20, .inl (g.2 0, 10, .inl f23)), (q19, .inl (g.2 0, 10, .inl f21)), (q14, .inr (9, [.ref q19, .ref q20, .int 1, .int 0]))]) (rV (rest := []) hx hb hml hown hE hP hD 5 rfl rfl (c34_X6_putInstrumentNumber l g q1 q25 (.ref q9) (.ref q14) w4 (.int 0) (.int 4) (.int 0) (upd (upd (upd f26 2 100) 4 5) 7 100) H.size) (kV_X6_putInstrumentNumber hE (e103 hE) rfl rfl ⟨(Nat.le_of_ble_eq_true rfl), (Nat.le_of_ble_eq_true rfl)⟩) [6, 5] rfl (by decide) rfl hl.1 rfl (lv_room (Nat.le_of_ble_eq_true rfl)) dX6_reset_50 ⟨(Nat.le_of_ble_eq_true rfl), (Nat.le_of_ble_eq_true rfl)⟩) hP hD hS hA [6, 5] [0, 1, 2, 3, 4] rfl rfl (by decide) (by decide) (fun u6 H locs hP hD hS => ?_)
  have hP : va_P g.1 vwCl [(q12, .inl (g.2 0, 40, .inl (upd (upd (upd (upd (upd (upd (upd (upd (fillF 40 0 f13) 4 1) 9 1) 14 1) 19 1) 24 1) 29 1) 34 1) 39 1))), (q9, .inr (5, [w10, .ref q12])), (q20, .inl (g.2 0, 10, .inl f23)), (q19, .inl (g.2 0, 10, .inl f21)), (q14, .inr (9, [.ref q19, .ref q20, .int 1, .int 0])), (q1, .inr (8, [.ref q9, .ref q14, w4, .ref q25, .int 0, .int 4, .int 0])), (q25, .inl (g.2 0, 20, .inl (upd (upd (upd (upd f26 2 100) 4 5) 7 100) 9 5)))] H := hP
  have hD : va_D A [(q12, .inl (g.2 0, 40, .inl (upd (upd (upd (upd (upd (upd (upd (upd (fillF 40 0 f13) 4 1) 9 1) 14 1) 19 1) 24 1) 29 1) 34 1) 39 1))), (q9, .inr (5, [w10, .ref q12])), (q20, .inl (g.2 0, 10, .inl f23)), (q19, .inl (g.2 0, 10, .inl f21)), (q14, .inr (9, [.ref q19, .ref q20, .int 1, .int 0])), (q1, .inr (8, [.ref q9, .ref q14, w4, .ref q25, .int 0, .int 4, .int 0])), (q25, .inl (g.2 0, 20, .inl (upd (upd (upd (upd f26 2 100) 4 5) 7 100) 9 5)))] := hD
  refine lv_iinc (v := 2) (lv' := [(1, .int 2), (0, .ref q1)]) hx hb dX6_reset_53 hl (k := 0) rfl (by decide) (by decide) rfl (fun ls hl => ?_)
  refine lv_goto (tgt := 31) hx hb dX6_reset_56 (by decide) ?_
  refine lv_iload_n hx hb dX6_reset_31 rfl (lv_at hl 0 rfl) ?_
  refine lv_iconst (v := 4) hx hb dX6_reset_32 (by decide) ?_
  refine lv_icmp_ge (tgt := 59) hx hb dX6_reset_33 (by decide) (fun h => absurd h (by decide)) (fun _ => ?_)
  refine lv_aload_n hx hb dX6_reset_36 rfl (lv_at hl 1 rfl) ?_
  refine lv_iload_n hx hb dX6_reset_37 rfl (lv_at hl 0 rfl) ?_
  refine lv_iconst (v := 0) hx hb dX6_reset_38 (by decide) ?_
  refine lv_iconst (v := 0) hx hb dX6_reset_39 (by decide) ?_
  refine lv_bipush (v := 100) hx hb dX6_reset_40 (by decide) ?_
  refine lv_iconst (v := 0) hx hb dX6_reset_42 (by decide) ?_
  refine g_v (wr := [(q12, .inl (g.2 0, 40, .inl (upd (upd (upd (upd (upd (upd (upd (upd (fillF 40 0 f13) 4 1) 9 1) 14 1) 19 1) 24 1) 29 1) 34 1) 39 1))), (q9, .inr (5, [w10, .ref q12])), (q20, .inl (g.2 0, 10, .inl f23)), (q19, .inl (g.2 0, 10, .inl f21)), (q14, .inr (9, [.ref q19, .ref q20, .int 1, .int 0]))]) (rV (rest := []) hx hb hml hown hE hP hD 5 rfl rfl (c43_X6_putEnvelope l g q1 q25 (.ref q9) (.ref q14) w4 (.int 0) (.int 4) (.int 0) (upd (upd (upd (upd f26 2 100) 4 5) 7 100) 9 5) (((pk_un (by decide)).trans ((pk_un (by decide)).trans ((pk_un (by decide)).trans ((pk_un (by decide)).trans hf33))))) (((pk_un (by decide)).trans ((pk_un (by decide)).trans ((pk_un (by decide)).trans ((pk_un (by decide)).trans hf34))))) (((pk_un (by decide)).trans ((pk_un (by decide)).trans ((pk_un (by decide)).trans ((pk_un (by decide)).trans hf35))))) H.size) (kV_X6_putEnvelope hE (e99 hE) rfl rfl ⟨(Nat.le_of_ble_eq_true rfl), (Nat.le_of_ble_eq_true rfl)⟩) [6, 5] rfl (by decide) rfl hl.1 rfl (lv_room (Nat.le_of_ble_eq_true rfl)) dX6_reset_43 ⟨(Nat.le_of_ble_eq_true rfl), (Nat.le_of_ble_eq_true rfl)⟩) hP hD hS hA [6, 5] [0, 1, 2, 3, 4] rfl rfl (by decide) (by decide) (fun u7 H locs hP hD hS => ?_)
  have hP : va_P g.1 vwCl [(q12, .inl (g.2 0, 40, .inl (upd (upd (upd (upd (upd (upd (upd (upd (fillF 40 0 f13) 4 1) 9 1) 14 1) 19 1) 24 1) 29 1) 34 1) 39 1))), (q9, .inr (5, [w10, .ref q12])), (q20, .inl (g.2 0, 10, .inl f23)), (q19, .inl (g.2 0, 10, .inl f21)), (q14, .inr (9, [.ref q19, .ref q20, .int 1, .int 0])), (q1, .inr (8, [.ref q9, .ref q14, w4, .ref q25, .int 0, .int 4, .int 0])), (q25, .inl (g.2 0, 20, .inl (upd (upd (upd (upd (upd f26 2 100) 4 5) 7 100) 9 5) 12 100)))] H := hP
  have hD : va_D A [(q12, .inl (g.2 0, 40, .inl (upd (upd (upd (upd (upd (upd (upd (upd (fillF 40 0 f13) 4 1) 9 1) 14 1) 19 1) 24 1) 29 1) 34 1) 39 1))), (q9, .inr (5, [w10, .ref q12])), (q20, .inl (g.2 0, 10, .inl f23)), (q19, .inl (g.2 0, 10, .inl f21)), (q14, .inr (9, [.ref q19, .ref q20, .int 1, .int 0])), (q1, .inr (8, [.ref q9, .ref q14, w4, .ref q25, .int 0, .int 4, .int 0])), (q25, .inl (g.2 0, 20, .inl (upd (upd (upd (upd (upd f26 2 100) 4 5) 7 100) 9 5) 12 100)))] := hD
  refine lv_aload_n hx hb dX6_reset_46 rfl (lv_at hl 1 rfl) ?_
  refine lv_iload_n hx hb dX6_reset_47 rfl (lv_at hl 0 rfl) ?_
  refine lv_iconst (v := 4) hx hb dX6_reset_48 (by decide) ?_
  refine lv_iconst (v := 5) hx hb dX6_reset_49 (by decide) ?_
  refine g_v (wr := [(q12, .inl (g.2 0, 40, .inl (upd (upd (upd (upd (upd (upd (upd (upd (fillF 40 0 f13) 4 1) 9 1) 14 1) 19 1) 24 1) 29 1) 34 1) 39 1))), (q9, .inr (5, [w10, .ref q12])), (q20, .inl (g.2 0, 10, .inl f23)), (q19, .inl (g.2 0, 10, .inl f21)), (q14, .inr (9, [.ref q19, .ref q20, .int 1, .int 0]))]) (rV (rest := []) hx hb hml hown hE hP hD 5 rfl rfl (c45_X6_putInstrumentNumber l g q1 q25 (.ref q9) (.ref q14) w4 (.int 0) (.int 4) (.int 0) (upd (upd (upd (upd (upd f26 2 100) 4 5) 7 100) 9 5) 12 100) H.size) (kV_X6_putInstrumentNumber hE (e103 hE) rfl rfl ⟨(Nat.le_of_ble_eq_true rfl), (Nat.le_of_ble_eq_true rfl)⟩) [6, 5] rfl (by decide) rfl hl.1 rfl (lv_room (Nat.le_of_ble_eq_true rfl)) dX6_reset_50 ⟨(Nat.le_of_ble_eq_true rfl), (Nat.le_of_ble_eq_true rfl)⟩) hP hD hS hA [6, 5] [0, 1, 2, 3, 4] rfl rfl (by decide) (by decide) (fun u8 H locs hP hD hS => ?_)
  have hP : va_P g.1 vwCl [(q12, .inl (g.2 0, 40, .inl (upd (upd (upd (upd (upd (upd (upd (upd (fillF 40 0 f13) 4 1) 9 1) 14 1) 19 1) 24 1) 29 1) 34 1) 39 1))), (q9, .inr (5, [w10, .ref q12])), (q20, .inl (g.2 0, 10, .inl f23)), (q19, .inl (g.2 0, 10, .inl f21)), (q14, .inr (9, [.ref q19, .ref q20, .int 1, .int 0])), (q1, .inr (8, [.ref q9, .ref q14, w4, .ref q25, .int 0, .int 4, .int 0])), (q25, .inl (g.2 0, 20, .inl (upd (upd (upd (upd (upd (upd f26 2 100) 4 5) 7 100) 9 5) 12 100) 14 5)))] H := hP
  have hD : va_D A [(q12, .inl (g.2 0, 40, .inl (upd (upd (upd (upd (upd (upd (upd (upd (fillF 40 0 f13) 4 1) 9 1) 14 1) 19 1) 24 1) 29 1) 34 1) 39 1))), (q9, .inr (5, [w10, .ref q12])), (q20, .inl (g.2 0, 10, .inl f23)), (q19, .inl (g.2 0, 10, .inl f21)), (q14, .inr (9, [.ref q19, .ref q20, .int 1, .int 0])), (q1, .inr (8, [.ref q9, .ref q14, w4, .ref q25, .int 0, .int 4, .int 0])), (q25, .inl (g.2 0, 20, .inl (upd (upd (upd (upd (upd (upd f26 2 100) 4 5) 7 100) 9 5) 12 100) 14 5)))] := hD
  refine lv_iinc (v := 3) (lv' := [(1, .int 3), (0, .ref q1)]) hx hb dX6_reset_53 hl (k := 0) rfl (by decide) (by decide) rfl (fun ls hl => ?_)
  refine lv_goto (tgt := 31) hx hb dX6_reset_56 (by decide) ?_
  refine lv_iload_n hx hb dX6_reset_31 rfl (lv_at hl 0 rfl) ?_
  refine lv_iconst (v := 4) hx hb dX6_reset_32 (by decide) ?_
  refine lv_icmp_ge (tgt := 59) hx hb dX6_reset_33 (by decide) (fun h => absurd h (by decide)) (fun _ => ?_)
  refine lv_aload_n hx hb dX6_reset_36 rfl (lv_at hl 1 rfl) ?_
  refine lv_iload_n hx hb dX6_reset_37 rfl (lv_at hl 0 rfl) ?_
  refine lv_iconst (v := 0) hx hb dX6_reset_38 (by decide) ?_
  refine lv_iconst (v := 0) hx hb dX6_reset_39 (by decide) ?_
  refine lv_bipush (v := 100) hx hb dX6_reset_40 (by decide) ?_
  refine lv_iconst (v := 0) hx hb dX6_reset_42 (by decide) ?_
  refine g_v (wr := [(q12, .inl (g.2 0, 40, .inl (upd (upd (upd (upd (upd (upd (upd (upd (fillF 40 0 f13) 4 1) 9 1) 14 1) 19 1) 24 1) 29 1) 34 1) 39 1))), (q9, .inr (5, [w10, .ref q12])), (q20, .inl (g.2 0, 10, .inl f23)), (q19, .inl (g.2 0, 10, .inl f21)), (q14, .inr (9, [.ref q19, .ref q20, .int 1, .int 0]))]) (rV (rest := []) hx hb hml hown hE hP hD 5 rfl rfl (c54_X6_putEnvelope l g q1 q25 (.ref q9) (.ref q14) w4 (.int 0) (.int 4) (.int 0) (upd (upd (upd (upd (upd (upd f26 2 100) 4 5) 7 100) 9 5) 12 100) 14 5) (((pk_un (by decide)).trans ((pk_un (by decide)).trans ((pk_un (by decide)).trans ((pk_un (by decide)).trans ((pk_un (by decide)).trans ((pk_un (by decide)).trans hf36))))))) (((pk_un (by decide)).trans ((pk_un (by decide)).trans ((pk_un (by decide)).trans ((pk_un (by decide)).trans ((pk_un (by decide)).trans ((pk_un (by decide)).trans hf37))))))) (((pk_un (by decide)).trans ((pk_un (by decide)).trans ((pk_un (by decide)).trans ((pk_un (by decide)).trans ((pk_un (by decide)).trans ((pk_un (by decide)).trans hf38))))))) H.size) (kV_X6_putEnvelope hE (e99 hE) rfl rfl ⟨(Nat.le_of_ble_eq_true rfl), (Nat.le_of_ble_eq_true rfl)⟩) [6, 5] rfl (by decide) rfl hl.1 rfl (lv_room (Nat.le_of_ble_eq_true rfl)) dX6_reset_43 ⟨(Nat.le_of_ble_eq_true rfl), (Nat.le_of_ble_eq_true rfl)⟩) hP hD hS hA [6, 5] [0, 1, 2, 3, 4] rfl rfl (by decide) (by decide) (fun u9 H locs hP hD hS => ?_)
  have hP : va_P g.1 vwCl [(q12, .inl (g.2 0, 40, .inl (upd (upd (upd (upd (upd (upd (upd (upd (fillF 40 0 f13) 4 1) 9 1) 14 1) 19 1) 24 1) 29 1) 34 1) 39 1))), (q9, .inr (5, [w10, .ref q12])), (q20, .inl (g.2 0, 10, .inl f23)), (q19, .inl (g.2 0, 10, .inl f21)), (q14, .inr (9, [.ref q19, .ref q20, .int 1, .int 0])), (q1, .inr (8, [.ref q9, .ref q14, w4, .ref q25, .int 0, .int 4, .int 0])), (q25, .inl (g.2 0, 20, .inl (upd (upd (upd (upd (upd (upd (upd f26 2 100) 4 5) 7 100) 9 5) 12 100) 14 5) 17 100)))] H := hP
  have hD : va_D A [(q12, .inl (g.2 0, 40, .inl (upd (upd (upd (upd (upd (upd (upd (upd (fillF 40 0 f13) 4 1) 9 1) 14 1) 19 1) 24 1) 29 1) 34 1) 39 1))), (q9, .inr (5, [w10, .ref q12])), (q20, .inl (g.2 0, 10, .inl f23)), (q19, .inl (g.2 0, 10, .inl f21)), (q14, .inr (9, [.ref q19, .ref q20, .int 1, .int 0])), (q1, .inr (8, [.ref q9, .ref q14, w4, .ref q25, .int 0, .int 4, .int 0])), (q25, .inl (g.2 0, 20, .inl (upd (upd (upd (upd (upd (upd (upd f26 2 100) 4 5) 7 100) 9 5) 12 100) 14 5) 17 100)))] := hD
  refine lv_aload_n hx hb dX6_reset_46 rfl (lv_at hl 1 rfl) ?_
  refine lv_iload_n hx hb dX6_reset_47 rfl (lv_at hl 0 rfl) ?_
  refine lv_iconst (v := 4) hx hb dX6_reset_48 (by decide) ?_
  refine lv_iconst (v := 5) hx hb dX6_reset_49 (by decide) ?_
  refine g_v (wr := [(q12, .inl (g.2 0, 40, .inl (upd (upd (upd (upd (upd (upd (upd (upd (fillF 40 0 f13) 4 1) 9 1) 14 1) 19 1) 24 1) 29 1) 34 1) 39 1))), (q9, .inr (5, [w10, .ref q12])), (q20, .inl (g.2 0, 10, .inl f23)), (q19, .inl (g.2 0, 10, .inl f21)), (q14, .inr (9, [.ref q19, .ref q20, .int 1, .int 0]))]) (rV (rest := []) hx hb hml hown hE hP hD 5 rfl rfl (c56_X6_putInstrumentNumber l g q1 q25 (.ref q9) (.ref q14) w4 (.int 0) (.int 4) (.int 0) (upd (upd (upd (upd (upd (upd (upd f26 2 100) 4 5) 7 100) 9 5) 12 100) 14 5) 17 100) H.size) (kV_X6_putInstrumentNumber hE (e103 hE) rfl rfl ⟨(Nat.le_of_ble_eq_true rfl), (Nat.le_of_ble_eq_true rfl)⟩) [6, 5] rfl (by decide) rfl hl.1 rfl (lv_room (Nat.le_of_ble_eq_true rfl)) dX6_reset_50 ⟨(Nat.le_of_ble_eq_true rfl), (Nat.le_of_ble_eq_true rfl)⟩) hP hD hS hA [6, 5] [0, 1, 2, 3, 4] rfl rfl (by decide) (by decide) (fun u10 H locs hP hD hS => ?_)
  have hP : va_P g.1 vwCl [(q12, .inl (g.2 0, 40, .inl (upd (upd (upd (upd (upd (upd (upd (upd (fillF 40 0 f13) 4 1) 9 1) 14 1) 19 1) 24 1) 29 1) 34 1) 39 1))), (q9, .inr (5, [w10, .ref q12])), (q20, .inl (g.2 0, 10, .inl f23)), (q19, .inl (g.2 0, 10, .inl f21)), (q14, .inr (9, [.ref q19, .ref q20, .int 1, .int 0])), (q1, .inr (8, [.ref q9, .ref q14, w4, .ref q25, .int 0, .int 4, .int 0])), (q25, .inl (g.2 0, 20, .inl (upd (upd (upd (upd (upd (upd (upd (upd f26 2 100) 4 5) 7 100) 9 5) 12 100) 14 5) 17 100) 19 5)))] H := hP
  have hD : va_D A [(q12, .inl (g.2 0, 40, .inl (upd (upd (upd (upd (upd (upd (upd (upd (fillF 40 0 f13) 4 1) 9 1) 14 1) 19 1) 24 1) 29 1) 34 1) 39 1))), (q9, .inr (5, [w10, .ref q12])), (q20, .inl (g.2 0, 10, .inl f23)), (q19, .inl (g.2 0, 10, .inl f21)), (q14, .inr (9, [.ref q19, .ref q20, .int 1, .int 0])), (q1, .inr (8, [.ref q9, .ref q14, w4, .ref q25, .int 0, .int 4, .int 0])), (q25, .inl (g.2 0, 20, .inl (upd (upd (upd (upd (upd (upd (upd (upd f26 2 100) 4 5) 7 100) 9 5) 12 100) 14 5) 17 100) 19 5)))] := hD
  refine lv_iinc (v := 4) (lv' := [(1, .int 4), (0, .ref q1)]) hx hb dX6_reset_53 hl (k := 0) rfl (by decide) (by decide) rfl (fun ls hl => ?_)
  refine lv_goto (tgt := 31) hx hb dX6_reset_56 (by decide) ?_
  refine lv_iload_n hx hb dX6_reset_31 rfl (lv_at hl 0 rfl) ?_
  refine lv_iconst (v := 4) hx hb dX6_reset_32 (by decide) ?_
  refine lv_icmp_ge (tgt := 59) hx hb dX6_reset_33 (by decide) (fun _ => ?_) (fun h => absurd (by decide) h)
  exact x_vret hx hb hr hlocks hP hD hS hAe hsz (Nat.le_of_ble_eq_true rfl) (Nat.le_of_ble_eq_true rfl) (fun _ => 0) [0, 1, 2, 3, 4, 5, 6] (by decide) rfl dX6_reset_59

set_option maxHeartbeats 4000000 in
set_option maxRecDepth 100000 in
theorem c101_X8_forget (l : Launch) (g : gG) (q1 : Nat) (w2 w3 w4 : Value) (sz : Nat) : Met l yX8_forget [Cond.code yX8_forget cX8_forget 1 none] ({ frames := 0, cells := 0, slots := 0, locals := 0 } : Room) (va_Pc [.ref q1] (PX g sz [(q1, .inr (10, [w2, w3, w4]))])) (QV g [(q1, .inr (10, [w2, w3, w4]))] sz (fun _ => [(q1, .inr (10, [w2, w3, .int 0]))])) 0 0 (va_A [(q1, .inr (10, [w2, w3, w4]))] sz) := by
  refine ofN (by decide) (Nat.le_of_ble_eq_true rfl) rfl ?_
  intro p e s m args below meth c A ls hAe hsz hx hb hml hr hlocks hin hown hE hP hD hA hS hl
  have hown : s.vm.findClass RX8 = some m.cls := hown
  refine lv_aload_n hx hb dX8_forget_0 rfl (lv_at hl 0 rfl) ?_
  refine lv_iconst (v := 0) hx hb dX8_forget_1 (by decide) ?_
  refine pf_RX8_21 (ws' := [(q1, .inr (10, [w2, w3, .int 0]))]) hx hb hown hE hP hD hS 0 rfl rfl rfl (Nat.le_of_ble_eq_true rfl) dX8_forget_2 rfl (fun H locs hP hD hS => ?_)
  exact x_vret hx hb hr hlocks hP hD hS hAe hsz (Nat.le_of_ble_eq_true rfl) (Nat.le_of_ble_eq_true rfl) (fun _ => 0) [0] (by decide) rfl dX8_forget_5

set_option maxHeartbeats 4000000 in
set_option maxRecDepth 100000 in
theorem c102_X9_outdate (l : Launch) (g : gG) (q1 : Nat) (w2 w3 w4 w5 w6 w7 w8 w9 w10 w11 w12 : Value) (sz : Nat) : Met l yX9_outdate [Cond.code yX9_outdate cX9_outdate 1 none] ({ frames := 0, cells := 0, slots := 0, locals := 0 } : Room) (va_Pc [.ref q1] (PX g sz [(q1, .inr (11, [w2, w3, w4, w5, w6, w7, w8, w9, w10, w11, w12]))])) (QV g [(q1, .inr (11, [w2, w3, w4, w5, w6, w7, w8, w9, w10, w11, w12]))] sz (fun _ => [(q1, .inr (11, [w2, w3, w4, w5, w6, w7, w8, w9, .int 0, .int 0, w12]))])) 0 0 (va_A [(q1, .inr (11, [w2, w3, w4, w5, w6, w7, w8, w9, w10, w11, w12]))] sz) := by
  refine ofN (by decide) (Nat.le_of_ble_eq_true rfl) rfl ?_
  intro p e s m args below meth c A ls hAe hsz hx hb hml hr hlocks hin hown hE hP hD hA hS hl
  have hown : s.vm.findClass RX9 = some m.cls := hown
  refine lv_aload_n hx hb dX9_outdate_0 rfl (lv_at hl 0 rfl) ?_
  refine lv_iconst (v := 0) hx hb dX9_outdate_1 (by decide) ?_
  refine pf_RX9_60 (ws' := [(q1, .inr (11, [w2, w3, w4, w5, w6, w7, w8, w9, .int 0, w11, w12]))]) hx hb hown hE hP hD hS 0 rfl rfl rfl (Nat.le_of_ble_eq_true rfl) dX9_outdate_2 rfl (fun H locs hP hD hS => ?_)
  refine lv_aload_n hx hb dX9_outdate_5 rfl (lv_at hl 0 rfl) ?_
  refine lv_iconst (v := 0) hx hb dX9_outdate_6 (by decide) ?_
  refine pf_RX9_63 (ws' := [(q1, .inr (11, [w2, w3, w4, w5, w6, w7, w8, w9, .int 0, .int 0, w12]))]) hx hb hown hE hP hD hS 0 rfl rfl rfl (Nat.le_of_ble_eq_true rfl) dX9_outdate_7 rfl (fun H locs hP hD hS => ?_)
  exact x_vret hx hb hr hlocks hP hD hS hAe hsz (Nat.le_of_ble_eq_true rfl) (Nat.le_of_ble_eq_true rfl) (fun _ => 0) [0] (by decide) rfl dX9_outdate_10

set_option maxHeartbeats 4000000 in
set_option maxRecDepth 100000 in
theorem c103_X2_empty (l : Launch) (g : gG) (q1 : Nat) (w2 w3 : Value) (sz : Nat) : Met l yX2_empty [Cond.code yX2_empty cX2_empty 1 none] ({ frames := 0, cells := 0, slots := 0, locals := 0 } : Room) (va_Pc [.ref q1] (PX g sz [(q1, .inr (4, [w2, w3]))])) (QV g [(q1, .inr (4, [w2, w3]))] sz (fun _ => [(q1, .inr (4, [w2, .int 0]))])) 0 0 (va_A [(q1, .inr (4, [w2, w3]))] sz) := by
  refine ofN (by decide) (Nat.le_of_ble_eq_true rfl) rfl ?_
  intro p e s m args below meth c A ls hAe hsz hx hb hml hr hlocks hin hown hE hP hD hA hS hl
  have hown : s.vm.findClass RX2 = some m.cls := hown
  refine lv_aload_n hx hb dX2_empty_0 rfl (lv_at hl 0 rfl) ?_
  refine lv_iconst (v := 0) hx hb dX2_empty_1 (by decide) ?_
  refine pf_RX2_7 (ws' := [(q1, .inr (4, [w2, .int 0]))]) hx hb hown hE hP hD hS 0 rfl rfl rfl (Nat.le_of_ble_eq_true rfl) dX2_empty_2 rfl (fun H locs hP hD hS => ?_)
  exact x_vret hx hb hr hlocks hP hD hS hAe hsz (Nat.le_of_ble_eq_true rfl) (Nat.le_of_ble_eq_true rfl) (fun _ => 0) [0] (by decide) rfl dX2_empty_5

set_option maxHeartbeats 4000000 in
set_option maxRecDepth 100000 in
theorem c104_X9_clear (l : Launch) (g : gG) (q1 q13 q17 q20 q28 q29 q30 q33 q51 q52 q70 : Nat) (w3 w4 w5 w7 w8 w9 w10 w11 w12 w16 w23 w26 w27 w31 w49 w50 w71 w72 : Value) (f18 : Nat → Option Nat) (f34 : Nat → Int32) (f53 : Nat → Int32) (f55 : Nat → Int32) (f57 : Nat → Int32) (hf19 : f18 0 = some q20) (hf35 : f34 0 = 0) (hf36 : f34 1 = 0) (hf37 : f34 3 = 0) (hf38 : f34 5 = 0) (hf39 : f34 6 = 0) (hf40 : f34 8 = 0) (hf41 : f34 10 = 0) (hf42 : f34 11 = 0) (hf43 : f34 13 = 0) (hf44 : f34 15 = 0) (hf45 : f34 16 = 0) (hf46 : f34 18 = 0) (hf54 : f53 0 = 0) (hf56 : f55 0 = 100) (hf58 : f57 0 = 0) (hf59 : f57 1 = 0) (hf60 : f57 3 = 0) (hf61 : f57 5 = 0) (hf62 : f57 6 = 0) (hf63 : f57 8 = 0) (hf64 : f57 10 = 0) (hf65 : f57 11 = 0) (hf66 : f57 13 = 0) (hf67 : f57 15 = 0) (hf68 : f57 16 = 0) (hf69 : f57 18 = 0) (sz : Nat) : Met l yX9_clear [Cond.code yX9_clear cX9_clear 3 (some .int)] ({ frames := 4, cells := 0, slots := 0, locals := 91 } : Room) (va_Pc [.ref q1] (PX g sz [(q70, .inr (4, [w71, w72])), (q30, .inl (g.2 0, 20, .inl f57)), (q52, .inl (g.2 0, 10, .inl f55)), (q51, .inl (g.2 0, 10, .inl f53)), (q29, .inr (9, [.ref q51, .ref q52, w49, w50])), (q33, .inl (g.2 0, 40, .inl f34)), (q28, .inr (5, [w31, .ref q33])), (q20, .inr (8, [.ref q28, .ref q29, w23, .ref q30, .int 0, w26, w27])), (q17, .inl (g.2 3, 10, .inr (.inr (.inr (.inr f18))))), (q13, .inr (10, [.ref q17, .int 0, w16])), (q1, .inr (11, [.ref q13, w3, w4, w5, .ref q70, w7, w8, w9, w10, w11, w12]))])) (QI g [(q70, .inr (4, [w71, w72])), (q30, .inl (g.2 0, 20, .inl f57)), (q52, .inl (g.2 0, 10, .inl f55)), (q51, .inl (g.2 0, 10, .inl f53)), (q29, .inr (9, [.ref q51, .ref q52, w49, w50])), (q33, .inl (g.2 0, 40, .inl f34)), (q28, .inr (5, [w31, .ref q33])), (q20, .inr (8, [.ref q28, .ref q29, w23, .ref q30, .int 0, w26, w27])), (q17, .inl (g.2 3, 10, .inr (.inr (.inr (.inr f18))))), (q13, .inr (10, [.ref q17, .int 0, w16])), (q1, .inr (11, [.ref q13, w3, w4, w5, .ref q70, w7, w8, w9, w10, w11, w12]))] sz 0 (fun _ => [])) 0 0 (va_A [(q70, .inr (4, [w71, w72])), (q30, .inl (g.2 0, 20, .inl f57)), (q52, .inl (g.2 0, 10, .inl f55)), (q51, .inl (g.2 0, 10, .inl f53)), (q29, .inr (9, [.ref q51, .ref q52, w49, w50])), (q33, .inl (g.2 0, 40, .inl f34)), (q28, .inr (5, [w31, .ref q33])), (q20, .inr (8, [.ref q28, .ref q29, w23, .ref q30, .int 0, w26, w27])), (q17, .inl (g.2 3, 10, .inr (.inr (.inr (.inr f18))))), (q13, .inr (10, [.ref q17, .int 0, w16])), (q1, .inr (11, [.ref q13, w3, w4, w5, .ref q70, w7, w8, w9, w10, w11, w12]))] sz) := by
  refine ofN (by decide) (Nat.le_of_ble_eq_true rfl) rfl ?_
  intro p e s m args below meth c A ls hAe hsz hx hb hml hr hlocks hin hown hE hP hD hA hS hl
  have hown : s.vm.findClass RX9 = some m.cls := hown
  refine lv_aload_n hx hb dX9_clear_0 rfl (lv_at hl 0 rfl) ?_
  refine gf_RX9_12 hx hb hown hE hP 10 rfl rfl dX9_clear_1 ?_
  refine g_r (wr := [(q70, .inr (4, [w71, w72])), (q30, .inl (g.2 0, 20, .inl f57)), (q52, .inl (g.2 0, 10, .inl f55)), (q51, .inl (g.2 0, 10, .inl f53)), (q29, .inr (9, [.ref q51, .ref q52, w49, w50])), (q33, .inl (g.2 0, 40, .inl f34)), (q28, .inr (5, [w31, .ref q33])), (q20, .inr (8, [.ref q28, .ref q29, w23, .ref q30, .int 0, w26, w27])), (q1, .inr (11, [.ref q13, w3, w4, w5, .ref q70, w7, w8, w9, w10, w11, w12]))]) (rV (rest := []) hx hb hml hown hE hP hD 9 rfl rfl (c79_X8_current l g q13 q17 q20 w16 f18 (hf19) s.heap.size) (kV_X8_current hE (e290 hE) rfl rfl ⟨(Nat.le_of_ble_eq_true rfl), (Nat.le_of_ble_eq_true rfl)⟩) [8, 9] rfl (by decide) rfl hl.1 rfl (lv_room (Nat.le_of_ble_eq_true rfl)) dX9_clear_4 ⟨(Nat.le_of_ble_eq_true rfl), (Nat.le_of_ble_eq_true rfl)⟩) hP hD hS hA [8, 9] [0, 1, 2, 3, 4, 5, 6, 7, 10] rfl rfl (by decide) (by decide) (fun u1 H locs hP hD hS => ?_)
  have hP : va_P g.1 vwCl [(q70, .inr (4, [w71, w72])), (q30, .inl (g.2 0, 20, .inl f57)), (q52, .inl (g.2 0, 10, .inl f55)), (q51, .inl (g.2 0, 10, .inl f53)), (q29, .inr (9, [.ref q51, .ref q52, w49, w50])), (q33, .inl (g.2 0, 40, .inl f34)), (q28, .inr (5, [w31, .ref q33])), (q20, .inr (8, [.ref q28, .ref q29, w23, .ref q30, .int 0, w26, w27])), (q1, .inr (11, [.ref q13, w3, w4, w5, .ref q70, w7, w8, w9, w10, w11, w12])), (q17, .inl (g.2 3, 10, .inr (.inr (.inr (.inr f18))))), (q13, .inr (10, [.ref q17, .int 0, w16]))] H := hP
  have hD : va_D A [(q70, .inr (4, [w71, w72])), (q30, .inl (g.2 0, 20, .inl f57)), (q52, .inl (g.2 0, 10, .inl f55)), (q51, .inl (g.2 0, 10, .inl f53)), (q29, .inr (9, [.ref q51, .ref q52, w49, w50])), (q33, .inl (g.2 0, 40, .inl f34)), (q28, .inr (5, [w31, .ref q33])), (q20, .inr (8, [.ref q28, .ref q29, w23, .ref q30, .int 0, w26, w27])), (q1, .inr (11, [.ref q13, w3, w4, w5, .ref q70, w7, w8, w9, w10, w11, w12])), (q17, .inl (g.2 3, 10, .inr (.inr (.inr (.inr f18))))), (q13, .inr (10, [.ref q17, .int 0, w16]))] := hD
  refine lv_astore_n (lv' := [(1, .ref q20), (0, .ref q1)]) hx hb dX9_clear_7 rfl hl (by decide) rfl (fun ls hl => ?_)
  refine lv_aload_n hx hb dX9_clear_8 rfl (lv_at hl 0 rfl) ?_
  refine g_i (wr := [(q70, .inr (4, [w71, w72])), (q30, .inl (g.2 0, 20, .inl f57)), (q52, .inl (g.2 0, 10, .inl f55)), (q51, .inl (g.2 0, 10, .inl f53)), (q29, .inr (9, [.ref q51, .ref q52, w49, w50])), (q33, .inl (g.2 0, 40, .inl f34)), (q28, .inr (5, [w31, .ref q33])), (q1, .inr (11, [.ref q13, w3, w4, w5, .ref q70, w7, w8, w9, w10, w11, w12])), (q17, .inl (g.2 3, 10, .inr (.inr (.inr (.inr f18))))), (q13, .inr (10, [.ref q17, .int 0, w16]))]) (rV (rest := []) hx hb hml hown hE hP hD 7 rfl rfl (c98_X6_clipCount l g q20 (.ref q28) (.ref q29) w23 (.ref q30) w26 w27 H.size) (kV_X6_clipCount hE (e297 hE) rfl rfl ⟨(Nat.le_of_ble_eq_true rfl), (Nat.le_of_ble_eq_true rfl)⟩) [7] rfl (by decide) rfl hl.1 rfl (lv_room (Nat.le_of_ble_eq_true rfl)) dX9_clear_9 ⟨(Nat.le_of_ble_eq_true rfl), (Nat.le_of_ble_eq_true rfl)⟩) hP hD hS hA [7] [0, 1, 2, 3, 4, 5, 6, 8, 9, 10] rfl rfl (by decide) (by decide) (fun u2 H locs hP hD hS => ?_)
  have hP : va_P g.1 vwCl [(q70, .inr (4, [w71, w72])), (q30, .inl (g.2 0, 20, .inl f57)), (q52, .inl (g.2 0, 10, .inl f55)), (q51, .inl (g.2 0, 10, .inl f53)), (q29, .inr (9, [.ref q51, .ref q52, w49, w50])), (q33, .inl (g.2 0, 40, .inl f34)), (q28, .inr (5, [w31, .ref q33])), (q1, .inr (11, [.ref q13, w3, w4, w5, .ref q70, w7, w8, w9, w10, w11, w12])), (q17, .inl (g.2 3, 10, .inr (.inr (.inr (.inr f18))))), (q13, .inr (10, [.ref q17, .int 0, w16])), (q20, .inr (8, [.ref q28, .ref q29, w23, .ref q30, .int 0, w26, w27]))] H := hP
  have hD : va_D A [(q70, .inr (4, [w71, w72])), (q30, .inl (g.2 0, 20, .inl f57)), (q52, .inl (g.2 0, 10, .inl f55)), (q51, .inl (g.2 0, 10, .inl f53)), (q29, .inr (9, [.ref q51, .ref q52, w49, w50])), (q33, .inl (g.2 0, 40, .inl f34)), (q28, .inr (5, [w31, .ref q33])), (q1, .inr (11, [.ref q13, w3, w4, w5, .ref q70, w7, w8, w9, w10, w11, w12])), (q17, .inl (g.2 3, 10, .inr (.inr (.inr (.inr f18))))), (q13, .inr (10, [.ref q17, .int 0, w16])), (q20, .inr (8, [.ref q28, .ref q29, w23, .ref q30, .int 0, w26, w27]))] := hD
  refine lv_istore_n (lv' := [(2, .int 0), (1, .ref q20), (0, .ref q1)]) hx hb dX9_clear_12 rfl hl (by decide) rfl (fun ls hl => ?_)
  refine lv_aload_n hx hb dX9_clear_13 rfl (lv_at hl 1 rfl) ?_
  refine g_v (wr := [(q70, .inr (4, [w71, w72])), (q1, .inr (11, [.ref q13, w3, w4, w5, .ref q70, w7, w8, w9, w10, w11, w12])), (q17, .inl (g.2 3, 10, .inr (.inr (.inr (.inr f18))))), (q13, .inr (10, [.ref q17, .int 0, w16]))]) (rV (rest := []) hx hb hml hown hE hP hD 10 rfl rfl (c100_X6_reset l g q20 q28 q33 q29 q51 q52 q30 w23 (.int 0) w26 w27 w31 w49 w50 f34 f53 f55 f57 (hf54) (hf56) (hf58) (hf59) (hf60) (hf61) (hf62) (hf63) (hf64) (hf65) (hf66) (hf67) (hf68) (hf69) H.size) (kV_X6_reset hE (e301 hE) rfl rfl ⟨(Nat.le_of_ble_eq_true rfl), (Nat.le_of_ble_eq_true rfl)⟩) [1, 2, 3, 4, 5, 6, 10] rfl (by decide) rfl hl.1 rfl (lv_room (Nat.le_of_ble_eq_true rfl)) dX9_clear_14 ⟨(Nat.le_of_ble_eq_true rfl), (Nat.le_of_ble_eq_true rfl)⟩) hP hD hS hA [1, 2, 3, 4, 5, 6, 10] [0, 7, 8, 9] rfl rfl (by decide) (by decide) (fun u3 H locs hP hD hS => ?_)
  have hP : va_P g.1 vwCl [(q70, .inr (4, [w71, w72])), (q1, .inr (11, [.ref q13, w3, w4, w5, .ref q70, w7, w8, w9, w10, w11, w12])), (q17, .inl (g.2 3, 10, .inr (.inr (.inr (.inr f18))))), (q13, .inr (10, [.ref q17, .int 0, w16])), (q33, .inl (g.2 0, 40, .inl (upd (upd (upd (upd (upd (upd (upd (upd (fillF 40 0 f34) 4 1) 9 1) 14 1) 19 1) 24 1) 29 1) 34 1) 39 1))), (q28, .inr (5, [w31, .ref q33])), (q52, .inl (g.2 0, 10, .inl f55)), (q51, .inl (g.2 0, 10, .inl f53)), (q29, .inr (9, [.ref q51, .ref q52, .int 1, .int 0])), (q20, .inr (8, [.ref q28, .ref q29, w23, .ref q30, .int 0, .int 4, .int 0])), (q30, .inl (g.2 0, 20, .inl (upd (upd (upd (upd (upd (upd (upd (upd f57 2 100) 4 5) 7 100) 9 5) 12 100) 14 5) 17 100) 19 5)))] H := hP
  have hD : va_D A [(q70, .inr (4, [w71, w72])), (q1, .inr (11, [.ref q13, w3, w4, w5, .ref q70, w7, w8, w9, w10, w11, w12])), (q17, .inl (g.2 3, 10, .inr (.inr (.inr (.inr f18))))), (q13, .inr (10, [.ref q17, .int 0, w16])), (q33, .inl (g.2 0, 40, .inl (upd (upd (upd (upd (upd (upd (upd (upd (fillF 40 0 f34) 4 1) 9 1) 14 1) 19 1) 24 1) 29 1) 34 1) 39 1))), (q28, .inr (5, [w31, .ref q33])), (q52, .inl (g.2 0, 10, .inl f55)), (q51, .inl (g.2 0, 10, .inl f53)), (q29, .inr (9, [.ref q51, .ref q52, .int 1, .int 0])), (q20, .inr (8, [.ref q28, .ref q29, w23, .ref q30, .int 0, .int 4, .int 0])), (q30, .inl (g.2 0, 20, .inl (upd (upd (upd (upd (upd (upd (upd (upd f57 2 100) 4 5) 7 100) 9 5) 12 100) 14 5) 17 100) 19 5)))] := hD
  refine lv_aload_n hx hb dX9_clear_17 rfl (lv_at hl 2 rfl) ?_
  refine gf_RX9_12 hx hb hown hE hP 1 rfl rfl dX9_clear_18 ?_
  refine g_v (wr := [(q70, .inr (4, [w71, w72])), (q1, .inr (11, [.ref q13, w3, w4, w5, .ref q70, w7, w8, w9, w10, w11, w12])), (q17, .inl (g.2 3, 10, .inr (.inr (.inr (.inr f18))))), (q33, .inl (g.2 0, 40, .inl (upd (upd (upd (upd (upd (upd (upd (upd (fillF 40 0 f34) 4 1) 9 1) 14 1) 19 1) 24 1) 29 1) 34 1) 39 1))), (q28, .inr (5, [w31, .ref q33])), (q52, .inl (g.2 0, 10, .inl f55)), (q51, .inl (g.2 0, 10, .inl f53)), (q29, .inr (9, [.ref q51, .ref q52, .int 1, .int 0])), (q20, .inr (8, [.ref q28, .ref q29, w23, .ref q30, .int 0, .int 4, .int 0])), (q30, .inl (g.2 0, 20, .inl (upd (upd (upd (upd (upd (upd (upd (upd f57 2 100) 4 5) 7 100) 9 5) 12 100) 14 5) 17 100) 19 5)))]) (rV (rest := []) hx hb hml hown hE hP hD 3 rfl rfl (c101_X8_forget l g q13 (.ref q17) (.int 0) w16 H.size) (kV_X8_forget hE (e302 hE) rfl rfl ⟨(Nat.le_of_ble_eq_true rfl), (Nat.le_of_ble_eq_true rfl)⟩) [3] rfl (by decide) rfl hl.1 rfl (lv_room (Nat.le_of_ble_eq_true rfl)) dX9_clear_21 ⟨(Nat.le_of_ble_eq_true rfl), (Nat.le_of_ble_eq_true rfl)⟩) hP hD hS hA [3] [0, 1, 2, 4, 5, 6, 7, 8, 9, 10] rfl rfl (by decide) (by decide) (fun u4 H locs hP hD hS => ?_)
  have hP : va_P g.1 vwCl [(q70, .inr (4, [w71, w72])), (q1, .inr (11, [.ref q13, w3, w4, w5, .ref q70, w7, w8, w9, w10, w11, w12])), (q17, .inl (g.2 3, 10, .inr (.inr (.inr (.inr f18))))), (q33, .inl (g.2 0, 40, .inl (upd (upd (upd (upd (upd (upd (upd (upd (fillF 40 0 f34) 4 1) 9 1) 14 1) 19 1) 24 1) 29 1) 34 1) 39 1))), (q28, .inr (5, [w31, .ref q33])), (q52, .inl (g.2 0, 10, .inl f55)), (q51, .inl (g.2 0, 10, .inl f53)), (q29, .inr (9, [.ref q51, .ref q52, .int 1, .int 0])), (q20, .inr (8, [.ref q28, .ref q29, w23, .ref q30, .int 0, .int 4, .int 0])), (q30, .inl (g.2 0, 20, .inl (upd (upd (upd (upd (upd (upd (upd (upd f57 2 100) 4 5) 7 100) 9 5) 12 100) 14 5) 17 100) 19 5))), (q13, .inr (10, [.ref q17, .int 0, .int 0]))] H := hP
  have hD : va_D A [(q70, .inr (4, [w71, w72])), (q1, .inr (11, [.ref q13, w3, w4, w5, .ref q70, w7, w8, w9, w10, w11, w12])), (q17, .inl (g.2 3, 10, .inr (.inr (.inr (.inr f18))))), (q33, .inl (g.2 0, 40, .inl (upd (upd (upd (upd (upd (upd (upd (upd (fillF 40 0 f34) 4 1) 9 1) 14 1) 19 1) 24 1) 29 1) 34 1) 39 1))), (q28, .inr (5, [w31, .ref q33])), (q52, .inl (g.2 0, 10, .inl f55)), (q51, .inl (g.2 0, 10, .inl f53)), (q29, .inr (9, [.ref q51, .ref q52, .int 1, .int 0])), (q20, .inr (8, [.ref q28, .ref q29, w23, .ref q30, .int 0, .int 4, .int 0])), (q30, .inl (g.2 0, 20, .inl (upd (upd (upd (upd (upd (upd (upd (upd f57 2 100) 4 5) 7 100) 9 5) 12 100) 14 5) 17 100) 19 5))), (q13, .inr (10, [.ref q17, .int 0, .int 0]))] := hD
  refine lv_aload_n hx hb dX9_clear_24 rfl (lv_at hl 2 rfl) ?_
  refine g_v (wr := [(q70, .inr (4, [w71, w72])), (q17, .inl (g.2 3, 10, .inr (.inr (.inr (.inr f18))))), (q33, .inl (g.2 0, 40, .inl (upd (upd (upd (upd (upd (upd (upd (upd (fillF 40 0 f34) 4 1) 9 1) 14 1) 19 1) 24 1) 29 1) 34 1) 39 1))), (q28, .inr (5, [w31, .ref q33])), (q52, .inl (g.2 0, 10, .inl f55)), (q51, .inl (g.2 0, 10, .inl f53)), (q29, .inr (9, [.ref q51, .ref q52, .int 1, .int 0])), (q20, .inr (8, [.ref q28, .ref q29, w23, .ref q30, .int 0, .int 4, .int 0])), (q30, .inl (g.2 0, 20, .inl (upd (upd (upd (upd (upd (upd (upd (upd f57 2 100) 4 5) 7 100) 9 5) 12 100) 14 5) 17 100) 19 5))), (q13, .inr (10, [.ref q17, .int 0, .int 0]))]) (rV (rest := []) hx hb hml hown hE hP hD 1 rfl rfl (c102_X9_outdate l g q1 (.ref q13) w3 w4 w5 (.ref q70) w7 w8 w9 w10 w11 w12 H.size) (kV_X9_outdate hE (e306 hE) rfl rfl ⟨(Nat.le_of_ble_eq_true rfl), (Nat.le_of_ble_eq_true rfl)⟩) [1] rfl (by decide) rfl hl.1 rfl (lv_room (Nat.le_of_ble_eq_true rfl)) dX9_clear_25 ⟨(Nat.le_of_ble_eq_true rfl), (Nat.le_of_ble_eq_true rfl)⟩) hP hD hS hA [1] [0, 2, 3, 4, 5, 6, 7, 8, 9, 10] rfl rfl (by decide) (by decide) (fun u5 H locs hP hD hS => ?_)
  have hP : va_P g.1 vwCl [(q70, .inr (4, [w71, w72])), (q17, .inl (g.2 3, 10, .inr (.inr (.inr (.inr f18))))), (q33, .inl (g.2 0, 40, .inl (upd (upd (upd (upd (upd (upd (upd (upd (fillF 40 0 f34) 4 1) 9 1) 14 1) 19 1) 24 1) 29 1) 34 1) 39 1))), (q28, .inr (5, [w31, .ref q33])), (q52, .inl (g.2 0, 10, .inl f55)), (q51, .inl (g.2 0, 10, .inl f53)), (q29, .inr (9, [.ref q51, .ref q52, .int 1, .int 0])), (q20, .inr (8, [.ref q28, .ref q29, w23, .ref q30, .int 0, .int 4, .int 0])), (q30, .inl (g.2 0, 20, .inl (upd (upd (upd (upd (upd (upd (upd (upd f57 2 100) 4 5) 7 100) 9 5) 12 100) 14 5) 17 100) 19 5))), (q13, .inr (10, [.ref q17, .int 0, .int 0])), (q1, .inr (11, [.ref q13, w3, w4, w5, .ref q70, w7, w8, w9, .int 0, .int 0, w12]))] H := hP
  have hD : va_D A [(q70, .inr (4, [w71, w72])), (q17, .inl (g.2 3, 10, .inr (.inr (.inr (.inr f18))))), (q33, .inl (g.2 0, 40, .inl (upd (upd (upd (upd (upd (upd (upd (upd (fillF 40 0 f34) 4 1) 9 1) 14 1) 19 1) 24 1) 29 1) 34 1) 39 1))), (q28, .inr (5, [w31, .ref q33])), (q52, .inl (g.2 0, 10, .inl f55)), (q51, .inl (g.2 0, 10, .inl f53)), (q29, .inr (9, [.ref q51, .ref q52, .int 1, .int 0])), (q20, .inr (8, [.ref q28, .ref q29, w23, .ref q30, .int 0, .int 4, .int 0])), (q30, .inl (g.2 0, 20, .inl (upd (upd (upd (upd (upd (upd (upd (upd f57 2 100) 4 5) 7 100) 9 5) 12 100) 14 5) 17 100) 19 5))), (q13, .inr (10, [.ref q17, .int 0, .int 0])), (q1, .inr (11, [.ref q13, w3, w4, w5, .ref q70, w7, w8, w9, .int 0, .int 0, w12]))] := hD
  refine lv_aload_n hx hb dX9_clear_28 rfl (lv_at hl 2 rfl) ?_
  refine gf_RX9_42 hx hb hown hE hP 10 rfl rfl dX9_clear_29 ?_
  refine g_v (wr := [(q17, .inl (g.2 3, 10, .inr (.inr (.inr (.inr f18))))), (q33, .inl (g.2 0, 40, .inl (upd (upd (upd (upd (upd (upd (upd (upd (fillF 40 0 f34) 4 1) 9 1) 14 1) 19 1) 24 1) 29 1) 34 1) 39 1))), (q28, .inr (5, [w31, .ref q33])), (q52, .inl (g.2 0, 10, .inl f55)), (q51, .inl (g.2 0, 10, .inl f53)), (q29, .inr (9, [.ref q51, .ref q52, .int 1, .int 0])), (q20, .inr (8, [.ref q28, .ref q29, w23, .ref q30, .int 0, .int 4, .int 0])), (q30, .inl (g.2 0, 20, .inl (upd (upd (upd (upd (upd (upd (upd (upd f57 2 100) 4 5) 7 100) 9 5) 12 100) 14 5) 17 100) 19 5))), (q13, .inr (10, [.ref q17, .int 0, .int 0])), (q1, .inr (11, [.ref q13, w3, w4, w5, .ref q70, w7, w8, w9, .int 0, .int 0, w12]))]) (rV (rest := []) hx hb hml hown hE hP hD 0 rfl rfl (c103_X2_empty l g q70 w71 w72 H.size) (kV_X2_empty hE (e310 hE) rfl rfl ⟨(Nat.le_of_ble_eq_true rfl), (Nat.le_of_ble_eq_true rfl)⟩) [0] rfl (by decide) rfl hl.1 rfl (lv_room (Nat.le_of_ble_eq_true rfl)) dX9_clear_32 ⟨(Nat.le_of_ble_eq_true rfl), (Nat.le_of_ble_eq_true rfl)⟩) hP hD hS hA [0] [1, 2, 3, 4, 5, 6, 7, 8, 9, 10] rfl rfl (by decide) (by decide) (fun u6 H locs hP hD hS => ?_)
  have hP : va_P g.1 vwCl [(q17, .inl (g.2 3, 10, .inr (.inr (.inr (.inr f18))))), (q33, .inl (g.2 0, 40, .inl (upd (upd (upd (upd (upd (upd (upd (upd (fillF 40 0 f34) 4 1) 9 1) 14 1) 19 1) 24 1) 29 1) 34 1) 39 1))), (q28, .inr (5, [w31, .ref q33])), (q52, .inl (g.2 0, 10, .inl f55)), (q51, .inl (g.2 0, 10, .inl f53)), (q29, .inr (9, [.ref q51, .ref q52, .int 1, .int 0])), (q20, .inr (8, [.ref q28, .ref q29, w23, .ref q30, .int 0, .int 4, .int 0])), (q30, .inl (g.2 0, 20, .inl (upd (upd (upd (upd (upd (upd (upd (upd f57 2 100) 4 5) 7 100) 9 5) 12 100) 14 5) 17 100) 19 5))), (q13, .inr (10, [.ref q17, .int 0, .int 0])), (q1, .inr (11, [.ref q13, w3, w4, w5, .ref q70, w7, w8, w9, .int 0, .int 0, w12])), (q70, .inr (4, [w71, .int 0]))] H := hP
  have hD : va_D A [(q17, .inl (g.2 3, 10, .inr (.inr (.inr (.inr f18))))), (q33, .inl (g.2 0, 40, .inl (upd (upd (upd (upd (upd (upd (upd (upd (fillF 40 0 f34) 4 1) 9 1) 14 1) 19 1) 24 1) 29 1) 34 1) 39 1))), (q28, .inr (5, [w31, .ref q33])), (q52, .inl (g.2 0, 10, .inl f55)), (q51, .inl (g.2 0, 10, .inl f53)), (q29, .inr (9, [.ref q51, .ref q52, .int 1, .int 0])), (q20, .inr (8, [.ref q28, .ref q29, w23, .ref q30, .int 0, .int 4, .int 0])), (q30, .inl (g.2 0, 20, .inl (upd (upd (upd (upd (upd (upd (upd (upd f57 2 100) 4 5) 7 100) 9 5) 12 100) 14 5) 17 100) 19 5))), (q13, .inr (10, [.ref q17, .int 0, .int 0])), (q1, .inr (11, [.ref q13, w3, w4, w5, .ref q70, w7, w8, w9, .int 0, .int 0, w12])), (q70, .inr (4, [w71, .int 0]))] := hD
  refine lv_aload_n hx hb dX9_clear_35 rfl (lv_at hl 2 rfl) ?_
  refine lv_iconst (v := (-1)) hx hb dX9_clear_36 (by decide) ?_
  refine pf_RX9_66 (ws' := [(q17, .inl (g.2 3, 10, .inr (.inr (.inr (.inr f18))))), (q33, .inl (g.2 0, 40, .inl (upd (upd (upd (upd (upd (upd (upd (upd (fillF 40 0 f34) 4 1) 9 1) 14 1) 19 1) 24 1) 29 1) 34 1) 39 1))), (q28, .inr (5, [w31, .ref q33])), (q52, .inl (g.2 0, 10, .inl f55)), (q51, .inl (g.2 0, 10, .inl f53)), (q29, .inr (9, [.ref q51, .ref q52, .int 1, .int 0])), (q20, .inr (8, [.ref q28, .ref q29, w23, .ref q30, .int 0, .int 4, .int 0])), (q30, .inl (g.2 0, 20, .inl (upd (upd (upd (upd (upd (upd (upd (upd f57 2 100) 4 5) 7 100) 9 5) 12 100) 14 5) 17 100) 19 5))), (q13, .inr (10, [.ref q17, .int 0, .int 0])), (q1, .inr (11, [.ref q13, w3, w4, w5, .ref q70, w7, w8, w9, .int 0, .int 0, .int (-1)])), (q70, .inr (4, [w71, .int 0]))]) hx hb hown hE hP hD hS 9 rfl rfl rfl (Nat.le_of_ble_eq_true rfl) dX9_clear_37 rfl (fun H locs hP hD hS => ?_)
  refine lv_iload_n hx hb dX9_clear_40 rfl (lv_at hl 0 rfl) ?_
  exact x_zret hx hb hr rfl rfl hlocks hP hD hS hAe hsz (Nat.le_of_ble_eq_true rfl) (Nat.le_of_ble_eq_true rfl) (fun _ => 0) [] (by decide) rfl dX9_clear_41

set_option maxHeartbeats 4000000 in
set_option maxRecDepth 100000 in
theorem c105_X10_clear (l : Launch) (g : gG) (q1 q39 : Nat) (w3 w4 w5 w6 w7 w8 w9 w10 w11 w12 w13 w14 w15 w16 w17 w18 w19 w20 w21 w22 w23 w24 w25 w26 w27 w28 w29 w30 w31 w32 w33 w34 w35 w36 w37 w38 : Value) (f40 : Nat → Int32) (hf41 : f40 392 = 0) (sz : Nat) : Met l yX10_clear [Cond.code yX10_clear cX10_clear 2 (some .int)] ({ frames := 1, cells := 0, slots := 0, locals := 21 } : Room) (va_Pc [.ref q1] (PX g sz [(q39, .inl (g.2 0, 497, .inl f40)), (q1, .inr (12, [.ref q39, w3, w4, w5, w6, w7, w8, w9, w10, w11, w12, w13, w14, w15, w16, w17, w18, w19, w20, w21, w22, w23, w24, w25, w26, w27, w28, w29, w30, w31, w32, w33, w34, w35, w36, w37, w38]))])) (QI g [(q39, .inl (g.2 0, 497, .inl f40)), (q1, .inr (12, [.ref q39, w3, w4, w5, w6, w7, w8, w9, w10, w11, w12, w13, w14, w15, w16, w17, w18, w19, w20, w21, w22, w23, w24, w25, w26, w27, w28, w29, w30, w31, w32, w33, w34, w35, w36, w37, w38]))] sz 0 (fun _ => [(q1, .inr (12, [.ref q39, w3, w4, w5, w6, .int 0, .int 0, w9, w10, w11, w12, w13, w14, w15, w16, w17, w18, w19, w20, w21, w22, w23, w24, w25, w26, w27, w28, w29, w30, w31, w32, w33, w34, w35, w36, w37, w38]))])) 0 0 (va_A [(q39, .inl (g.2 0, 497, .inl f40)), (q1, .inr (12, [.ref q39, w3, w4, w5, w6, w7, w8, w9, w10, w11, w12, w13, w14, w15, w16, w17, w18, w19, w20, w21, w22, w23, w24, w25, w26, w27, w28, w29, w30, w31, w32, w33, w34, w35, w36, w37, w38]))] sz) := by
  refine ofN (by decide) (Nat.le_of_ble_eq_true rfl) rfl ?_
  intro p e s m args below meth c A ls hAe hsz hx hb hml hr hlocks hin hown hE hP hD hA hS hl
  have hown : s.vm.findClass RX10 = some m.cls := hown
  refine lv_aload_n hx hb dX10_clear_0 rfl (lv_at hl 0 rfl) ?_
  refine lv_iconst (v := 0) hx hb dX10_clear_1 (by decide) ?_
  refine pf_RX10_86 (ws' := [(q39, .inl (g.2 0, 497, .inl f40)), (q1, .inr (12, [.ref q39, w3, w4, w5, w6, w7, .int 0, w9, w10, w11, w12, w13, w14, w15, w16, w17, w18, w19, w20, w21, w22, w23, w24, w25, w26, w27, w28, w29, w30, w31, w32, w33, w34, w35, w36, w37, w38]))]) hx hb hown hE hP hD hS 1 rfl rfl rfl (Nat.le_of_ble_eq_true rfl) dX10_clear_2 rfl (fun H locs hP hD hS => ?_)
  refine lv_aload_n hx hb dX10_clear_5 rfl (lv_at hl 0 rfl) ?_
  refine gf_RX10_9 hx hb hown hE hP 1 rfl rfl dX10_clear_6 ?_
  refine lv_sipush (v := 392) hx hb dX10_clear_9 (by decide) ?_
  refine x_iald (v := 0) hx hb hE hP 0 rfl 392 (x_in (by decide)) (by decide) hf41 dX10_clear_12 ?_
  refine lv_istore_n (lv' := [(1, .int 0), (0, .ref q1)]) hx hb dX10_clear_13 rfl hl (by decide) rfl (fun ls hl => ?_)
  refine lv_aload_n hx hb dX10_clear_14 rfl (lv_at hl 1 rfl) ?_
  refine g_v (wr := []) (rV (rest := []) hx hb hml hown hE hP hD 1 rfl rfl (c68_X10_begin l g q1 q39 w3 w4 w5 w6 w7 (.int 0) w9 w10 w11 w12 w13 w14 w15 w16 w17 w18 w19 w20 w21 w22 w23 w24 w25 w26 w27 w28 w29 w30 w31 w32 w33 w34 w35 w36 w37 w38 f40 H.size) (kV_X10_begin hE (e1296 hE) rfl rfl ⟨(Nat.le_of_ble_eq_true rfl), (Nat.le_of_ble_eq_true rfl)⟩) [0, 1] rfl (by decide) rfl hl.1 rfl (lv_room (Nat.le_of_ble_eq_true rfl)) dX10_clear_15 ⟨(Nat.le_of_ble_eq_true rfl), (Nat.le_of_ble_eq_true rfl)⟩) hP hD hS hA [0, 1] [] rfl rfl (by decide) (by decide) (fun u1 H locs hP hD hS => ?_)
  have hP : va_P g.1 vwCl [(q39, .inl (g.2 0, 497, .inl (upd (upd (upd (upd (upd (upd (upd (upd (upd (upd (upd (fillF 497 0 f40) 453 1) 455 100) 476 100) 478 5) 481 100) 483 5) 486 100) 488 5) 491 100) 493 5) 495 4))), (q1, .inr (12, [.ref q39, w3, w4, w5, w6, w7, .int 0, w9, w10, w11, w12, w13, w14, w15, w16, w17, w18, w19, w20, w21, w22, w23, w24, w25, w26, w27, w28, w29, w30, w31, w32, w33, w34, w35, w36, w37, w38]))] H := hP
  have hD : va_D A [(q39, .inl (g.2 0, 497, .inl (upd (upd (upd (upd (upd (upd (upd (upd (upd (upd (upd (fillF 497 0 f40) 453 1) 455 100) 476 100) 478 5) 481 100) 483 5) 486 100) 488 5) 491 100) 493 5) 495 4))), (q1, .inr (12, [.ref q39, w3, w4, w5, w6, w7, .int 0, w9, w10, w11, w12, w13, w14, w15, w16, w17, w18, w19, w20, w21, w22, w23, w24, w25, w26, w27, w28, w29, w30, w31, w32, w33, w34, w35, w36, w37, w38]))] := hD
  refine lv_aload_n hx hb dX10_clear_18 rfl (lv_at hl 1 rfl) ?_
  refine lv_iconst (v := 0) hx hb dX10_clear_19 (by decide) ?_
  refine pf_RX10_89 (ws' := [(q39, .inl (g.2 0, 497, .inl (upd (upd (upd (upd (upd (upd (upd (upd (upd (upd (upd (fillF 497 0 f40) 453 1) 455 100) 476 100) 478 5) 481 100) 483 5) 486 100) 488 5) 491 100) 493 5) 495 4))), (q1, .inr (12, [.ref q39, w3, w4, w5, w6, .int 0, .int 0, w9, w10, w11, w12, w13, w14, w15, w16, w17, w18, w19, w20, w21, w22, w23, w24, w25, w26, w27, w28, w29, w30, w31, w32, w33, w34, w35, w36, w37, w38]))]) hx hb hown hE hP hD hS 1 rfl rfl rfl (Nat.le_of_ble_eq_true rfl) dX10_clear_20 rfl (fun H locs hP hD hS => ?_)
  refine lv_iload_n hx hb dX10_clear_23 rfl (lv_at hl 0 rfl) ?_
  exact x_zret hx hb hr rfl rfl hlocks hP hD hS hAe hsz (Nat.le_of_ble_eq_true rfl) (Nat.le_of_ble_eq_true rfl) (fun _ => 0) [1] (by decide) rfl dX10_clear_24

set_option maxHeartbeats 4000000 in
set_option maxRecDepth 100000 in
theorem c106_X9_requireRange (l : Launch) (g : gG) (hlx : l.stackTraces = false) (x1 : Int32) (h2 : x1 < 0) (sz : Nat) : vx_Met l yX9_requireRange [Cond.code yX9_requireRange cX9_requireRange 3 none] ({ frames := 6, cells := 1, slots := 6, locals := 100 } : Room) (va_Pc [.int x1, .int 0, .int 50] (PZ g sz [])) NV (XW g [] sz "java/lang/IllegalArgumentException" []) 1 6 (va_A [] sz) := by
  refine ofX (by decide) (Nat.le_of_ble_eq_true rfl) rfl ?_
  intro p e s m args below meth c A ls hAe hsz hx hb hml hr hlocks hin hown hE hP hD hA hS hl hex hz
  have hown : s.vm.findClass RX9 = some m.cls := hown
  refine lv_iload_n hx hb dX9_requireRange_0 rfl (lv_at hl 0 rfl) ?_
  refine lv_iload_n hx hb dX9_requireRange_1 rfl (lv_at hl 1 rfl) ?_
  refine lv_icmp_lt (tgt := 10) hx hb dX9_requireRange_2 (by decide) (fun _ => ?_) (fun h => absurd h2 h)
  exact x_throwW (text := "a number is out of range") (names := ["java/lang/RuntimeException", "java/lang/Exception"]) hx hb hlx hown hE (by decide) (by decide) (e639 hE) (e20 hE) (by decide +kernel) (th_215 hE) tg_215_211 hz (by rw [hml]; exact hl.1) dX9_requireRange_10 dX9_requireRange_13 dX9_requireRange_14 dX9_requireRange_17 dX9_requireRange_20 hex (Nat.le_of_ble_eq_true rfl) (Nat.le_of_ble_eq_true rfl) (Nat.le_of_ble_eq_true rfl) (Nat.le_of_ble_eq_true rfl) hlocks hP hD hS hAe hsz (Nat.le_of_ble_eq_true rfl) (Nat.le_of_ble_eq_true rfl) [] (by decide) rfl

set_option maxHeartbeats 4000000 in
set_option maxRecDepth 100000 in
theorem c107_X9_setSwing (l : Launch) (g : gG) (hlx : l.stackTraces = false) (q1 : Nat) (x2 : Int32) (h3 : x2 < 0) (sz : Nat) : vx_Met l yX9_setSwing [Cond.code yX9_setSwing cX9_setSwing 4 (some .int)] ({ frames := 7, cells := 1, slots := 6, locals := 122 } : Room) (va_Pc [.ref q1, .int x2] (PZ g sz [])) NI (XW g [] sz "java/lang/IllegalArgumentException" []) 1 6 (va_A [] sz) := by
  refine ofX (by decide) (Nat.le_of_ble_eq_true rfl) rfl ?_
  intro p e s m args below meth c A ls hAe hsz hx hb hml hr hlocks hin hown hE hP hD hA hS hl hex hz
  have hown : s.vm.findClass RX9 = some m.cls := hown
  refine lv_iload_n hx hb dX9_setSwing_0 rfl (lv_at hl 1 rfl) ?_
  refine lv_iconst (v := 0) hx hb dX9_setSwing_1 (by decide) ?_
  refine lv_bipush (v := 50) hx hb dX9_setSwing_2 (by decide) ?_
  refine gx_v (wr := []) (rSx (rest := []) hx hb hml hown hE hP hD hS hA hz (c106_X9_requireRange l g hlx x2 h3 s.heap.size) (kS_X9_requireRange hE (e636 hE) rfl rfl ⟨(Nat.le_of_ble_eq_true rfl), (Nat.le_of_ble_eq_true rfl)⟩) [] rfl (by decide) rfl hl.1 rfl (lv_room (Nat.le_of_ble_eq_true rfl)) dX9_setSwing_4 ⟨(Nat.le_of_ble_eq_true rfl), (Nat.le_of_ble_eq_true rfl)⟩) hP hD hS hA [] [] rfl rfl (by decide) (by decide) (fun ce9 q9 H locs hP hD hS hq1 hq2 hq3 => ?_)
  exact x_out hex hlocks hq1 hq2 hq3 hP hD hS hAe hsz (Nat.le_of_ble_eq_true rfl) (Nat.le_of_ble_eq_true rfl) [] (by decide) rfl

set_option maxHeartbeats 4000000 in
set_option maxRecDepth 100000 in
theorem c108_L_setSwing (l : Launch) (g : gG) (hlx : l.stackTraces = false) (q1 q3 : Nat) (x2 : Int32) (w5 w6 w7 w8 w9 w10 w11 w12 w13 w14 w15 : Value) (h4 : x2 < 0) (sz : Nat) : Met l yL_setSwing [Cond.codeWith yL_setSwing cL_setSwing 4 (some .int) [(0, 9, 12, 15)]] ({ frames := 8, cells := 1, slots := 6, locals := 145 } : Room) (va_Pc [.ref q1, .int x2, .ref q3] (PZ g sz [(q1, .inr (11, [w5, w6, w7, w8, w9, w10, w11, w12, w13, w14, w15]))])) (QI g [(q1, .inr (11, [w5, w6, w7, w8, w9, w10, w11, w12, w13, w14, w15]))] sz 1 (fun _ => [])) 1 6 (va_A [(q1, .inr (11, [w5, w6, w7, w8, w9, w10, w11, w12, w13, w14, w15]))] sz) := by
  refine ofH (by decide) (Nat.le_of_ble_eq_true rfl) rfl ?_
  intro p e s m args below meth c A ls hAe hsz hx hb hml hr hlocks hin hown hE hP hD hA hS hl htb hz
  have hown : s.vm.findClass RL = some m.cls := hown
  refine lv_aload_n hx hb dL_setSwing_0 rfl (lv_at hl 2 rfl) ?_
  refine lv_iconst (v := 0) hx hb dL_setSwing_1 (by decide) ?_
  refine lv_aload_n hx hb dL_setSwing_2 rfl (lv_at hl 0 rfl) ?_
  refine lv_iload_n hx hb dL_setSwing_3 rfl (lv_at hl 1 rfl) ?_
  refine gx_i (wr := [(q1, .inr (11, [w5, w6, w7, w8, w9, w10, w11, w12, w13, w14, w15]))]) (rVx (rest := [.int 0, .ref q3]) hx hb hml hown hE hP hD hS hA hz 0 rfl rfl (c107_X9_setSwing l g hlx q1 x2 h4 s.heap.size) (kV_X9_setSwing hE (e955 hE) rfl rfl ⟨(Nat.le_of_ble_eq_true rfl), (Nat.le_of_ble_eq_true rfl)⟩) [] rfl (by decide) rfl hl.1 rfl (lv_room (Nat.le_of_ble_eq_true rfl)) dL_setSwing_4 ⟨(Nat.le_of_ble_eq_true rfl), (Nat.le_of_ble_eq_true rfl)⟩) hP hD hS hA [] [0] rfl rfl (by decide) (by decide) (fun ce9 q9 H locs hP hD hS hq1 hq2 hq3 => ?_)
  have hP : va_P g.1 vwCl [(q1, .inr (11, [w5, w6, w7, w8, w9, w10, w11, w12, w13, w14, w15]))] H := hP
  have hD : va_D A [(q1, .inr (11, [w5, w6, w7, w8, w9, w10, w11, w12, w13, w14, w15]))] := hD
  refine x_catch (name := "java/lang/IllegalArgumentException") (hh := [(0, 9, 12, 15)]) (tgt := 12) hown htb [] ⟨0, 9, 12, 15⟩ [] rfl (fun _ h => nomatch h) rfl (by decide) (e611 hE) (e641 hE) hq1 hq2 hq3 rfl ?_
  refine lv_astore_n (lv' := [(3, .ref q9), (0, .ref q1), (1, .int x2), (2, .ref q3)]) hx hb dL_setSwing_12 rfl hl (by decide) rfl (fun ls hl => ?_)
  refine lv_iconst (v := 1) hx hb dL_setSwing_13 (by decide) ?_
  exact x_zret hx hb hr rfl rfl hlocks hP hD hS hAe hsz (Nat.le_of_ble_eq_true rfl) (Nat.le_of_ble_eq_true rfl) (fun _ => 0) [] (by decide) rfl dL_setSwing_14

set_option maxHeartbeats 4000000 in
set_option maxRecDepth 100000 in
theorem c109_X10_in (l : Launch) (g : gG) (x1 : Int32) (h2 : x1 < 0) (sz : Nat) : Met l yX10_in [Cond.code yX10_in cX10_in 3 (some .boolean)] ({ frames := 0, cells := 0, slots := 0, locals := 0 } : Room) (va_Pc [.int x1, .int 0, .int 50] (PX g sz [])) (QI g [] sz 0 (fun _ => [])) 0 0 (va_A [] sz) := by
  refine ofN (by decide) (Nat.le_of_ble_eq_true rfl) rfl ?_
  intro p e s m args below meth c A ls hAe hsz hx hb hml hr hlocks hin hown hE hP hD hA hS hl
  have hown : s.vm.findClass RX10 = some m.cls := hown
  refine lv_iload_n hx hb dX10_in_0 rfl (lv_at hl 0 rfl) ?_
  refine lv_iload_n hx hb dX10_in_1 rfl (lv_at hl 1 rfl) ?_
  refine lv_icmp_lt (tgt := 14) hx hb dX10_in_2 (by decide) (fun _ => ?_) (fun h => absurd h2 h)
  refine lv_iconst (v := 0) hx hb dX10_in_14 (by decide) ?_
  exact x_zret hx hb hr rfl rfl hlocks hP hD hS hAe hsz (Nat.le_of_ble_eq_true rfl) (Nat.le_of_ble_eq_true rfl) (fun _ => 0) [] (by decide) rfl dX10_in_15

set_option maxHeartbeats 4000000 in
set_option maxRecDepth 100000 in
theorem c110_X10_sets (l : Launch) (g : gG) (q1 : Nat) (x2 : Int32) (w4 w5 w6 w7 w8 w9 w10 w11 w12 w13 w14 w15 w16 w17 w18 w19 w20 w21 w22 w23 w24 w25 w26 w27 w28 w29 w30 w31 w32 w33 w34 w35 w36 w37 w38 w39 w40 : Value) (h3 : x2 < 0) (sz : Nat) : Met l yX10_sets [Cond.code yX10_sets cX10_sets 7 (some .int)] ({ frames := 1, cells := 0, slots := 0, locals := 22 } : Room) (va_Pc [.ref q1, .int 494, .int x2, .int 0, .int 50, .int 1] (PX g sz [(q1, .inr (12, [w4, w5, w6, w7, w8, w9, w10, w11, w12, w13, w14, w15, w16, w17, w18, w19, w20, w21, w22, w23, w24, w25, w26, w27, w28, w29, w30, w31, w32, w33, w34, w35, w36, w37, w38, w39, w40]))])) (QI g [(q1, .inr (12, [w4, w5, w6, w7, w8, w9, w10, w11, w12, w13, w14, w15, w16, w17, w18, w19, w20, w21, w22, w23, w24, w25, w26, w27, w28, w29, w30, w31, w32, w33, w34, w35, w36, w37, w38, w39, w40]))] sz 0 (fun _ => [(q1, .inr (12, [w4, w5, w6, w7, w8, w9, .int 1, w11, w12, w13, w14, w15, w16, w17, w18, w19, w20, w21, w22, w23, w24, w25, w26, w27, w28, w29, w30, w31, w32, w33, w34, w35, w36, w37, w38, w39, w40]))])) 0 0 (va_A [(q1, .inr (12, [w4, w5, w6, w7, w8, w9, w10, w11, w12, w13, w14, w15, w16, w17, w18, w19, w20, w21, w22, w23, w24, w25, w26, w27, w28, w29, w30, w31, w32, w33, w34, w35, w36, w37, w38, w39, w40]))] sz) := by
  refine ofN (by decide) (Nat.le_of_ble_eq_true rfl) rfl ?_
  intro p e s m args below meth c A ls hAe hsz hx hb hml hr hlocks hin hown hE hP hD hA hS hl
  have hown : s.vm.findClass RX10 = some m.cls := hown
  refine lv_aload_n hx hb dX10_sets_0 rfl (lv_at hl 0 rfl) ?_
  refine lv_iload_n hx hb dX10_sets_1 rfl (lv_at hl 2 rfl) ?_
  refine lv_iload_n hx hb dX10_sets_2 rfl (lv_at hl 3 rfl) ?_
  refine lv_iload hx hb dX10_sets_3 (lv_at hl 4 rfl) ?_
  refine g0_i (rS (rest := [.ref q1]) hx hb hml hown hE hP hD (c109_X10_in l g x2 h3 s.heap.size) (kS_X10_in hE (e1431 hE) rfl rfl ⟨(Nat.le_of_ble_eq_true rfl), (Nat.le_of_ble_eq_true rfl)⟩) [] rfl (by decide) rfl hl.1 rfl (lv_room (Nat.le_of_ble_eq_true rfl)) dX10_sets_5 ⟨(Nat.le_of_ble_eq_true rfl), (Nat.le_of_ble_eq_true rfl)⟩) hP hD hS hA (fun u9 H locs hP hS => ?_)
  refine lv_if_eq (tgt := 15) hx hb dX10_sets_8 (by decide) (fun _ => ?_) (fun h => absurd (by decide) h)
  refine lv_iload hx hb dX10_sets_15 (lv_at hl 5 rfl) ?_
  refine pf_RX10_86 (ws' := [(q1, .inr (12, [w4, w5, w6, w7, w8, w9, .int 1, w11, w12, w13, w14, w15, w16, w17, w18, w19, w20, w21, w22, w23, w24, w25, w26, w27, w28, w29, w30, w31, w32, w33, w34, w35, w36, w37, w38, w39, w40]))]) hx hb hown hE hP hD hS 0 rfl rfl rfl (Nat.le_of_ble_eq_true rfl) dX10_sets_17 rfl (fun H locs hP hD hS => ?_)
  refine lv_aload_n hx hb dX10_sets_20 rfl (lv_at hl 0 rfl) ?_
  refine gf_RX10_86 hx hb hown hE hP 0 rfl rfl dX10_sets_21 ?_
  refine lv_if_le (tgt := 29) hx hb dX10_sets_24 (by decide) (fun h => absurd h (by decide)) (fun _ => ?_)
  refine lv_iconst (v := 0) hx hb dX10_sets_27 (by decide) ?_
  exact x_zret hx hb hr rfl rfl hlocks hP hD hS hAe hsz (Nat.le_of_ble_eq_true rfl) (Nat.le_of_ble_eq_true rfl) (fun _ => 0) [0] (by decide) rfl dX10_sets_28

set_option maxHeartbeats 4000000 in
set_option maxRecDepth 100000 in
theorem c111_X10_setSwing (l : Launch) (g : gG) (q1 : Nat) (x2 : Int32) (w4 w5 w6 w7 w8 w9 w10 w11 w12 w13 w14 w15 w16 w17 w18 w19 w20 w21 w22 w23 w24 w25 w26 w27 w28 w29 w30 w31 w32 w33 w34 w35 w36 w37 w38 w39 w40 : Value) (h3 : x2 < 0) (sz : Nat) : Met l yX10_setSwing [Cond.code yX10_setSwing cX10_setSwing 2 (some .int)] ({ frames := 2, cells := 0, slots := 0, locals := 48 } : Room) (va_Pc [.ref q1, .int x2] (PX g sz [(q1, .inr (12, [w4, w5, w6, w7, w8, w9, w10, w11, w12, w13, w14, w15, w16, w17, w18, w19, w20, w21, w22, w23, w24, w25, w26, w27, w28, w29, w30, w31, w32, w33, w34, w35, w36, w37, w38, w39, w40]))])) (QI g [(q1, .inr (12, [w4, w5, w6, w7, w8, w9, w10, w11, w12, w13, w14, w15, w16, w17, w18, w19, w20, w21, w22, w23, w24, w25, w26, w27, w28, w29, w30, w31, w32, w33, w34, w35, w36, w37, w38, w39, w40]))] sz 0 (fun _ => [(q1, .inr (12, [w4, w5, w6, w7, w8, w9, .int 1, w11, w12, w13, w14, w15, w16, w17, w18, w19, w20, w21, w22, w23, w24, w25, w26, w27, w28, w29, w30, w31, w32, w33, w34, w35, w36, w37, w38, w39, w40]))])) 0 0 (va_A [(q1, .inr (12, [w4, w5, w6, w7, w8, w9, w10, w11, w12, w13, w14, w15, w16, w17, w18, w19, w20, w21, w22, w23, w24, w25, w26, w27, w28, w29, w30, w31, w32, w33, w34, w35, w36, w37, w38, w39, w40]))] sz) := by
  refine ofN (by decide) (Nat.le_of_ble_eq_true rfl) rfl ?_
  intro p e s m args below meth c A ls hAe hsz hx hb hml hr hlocks hin hown hE hP hD hA hS hl
  have hown : s.vm.findClass RX10 = some m.cls := hown
  refine lv_aload_n hx hb dX10_setSwing_0 rfl (lv_at hl 0 rfl) ?_
  refine lv_sipush (v := 494) hx hb dX10_setSwing_1 (by decide) ?_
  refine lv_iload_n hx hb dX10_setSwing_4 rfl (lv_at hl 1 rfl) ?_
  refine lv_iconst (v := 0) hx hb dX10_setSwing_5 (by decide) ?_
  refine lv_bipush (v := 50) hx hb dX10_setSwing_6 (by decide) ?_
  refine lv_iconst (v := 1) hx hb dX10_setSwing_8 (by decide) ?_
  refine g_i (wr := []) (rV (rest := []) hx hb hml hown hE hP hD 0 rfl rfl (c110_X10_sets l g q1 x2 w4 w5 w6 w7 w8 w9 w10 w11 w12 w13 w14 w15 w16 w17 w18 w19 w20 w21 w22 w23 w24 w25 w26 w27 w28 w29 w30 w31 w32 w33 w34 w35 w36 w37 w38 w39 w40 h3 s.heap.size) (kV_X10_sets hE (e1628 hE) rfl rfl ⟨(Nat.le_of_ble_eq_true rfl), (Nat.le_of_ble_eq_true rfl)⟩) [0] rfl (by decide) rfl hl.1 rfl (lv_room (Nat.le_of_ble_eq_true rfl)) dX10_setSwing_9 ⟨(Nat.le_of_ble_eq_true rfl), (Nat.le_of_ble_eq_true rfl)⟩) hP hD hS hA [0] [] rfl rfl (by decide) (by decide) (fun u1 H locs hP hD hS => ?_)
  have hP : va_P g.1 vwCl [(q1, .inr (12, [w4, w5, w6, w7, w8, w9, .int 1, w11, w12, w13, w14, w15, w16, w17, w18, w19, w20, w21, w22, w23, w24, w25, w26, w27, w28, w29, w30, w31, w32, w33, w34, w35, w36, w37, w38, w39, w40]))] H := hP
  have hD : va_D A [(q1, .inr (12, [w4, w5, w6, w7, w8, w9, .int 1, w11, w12, w13, w14, w15, w16, w17, w18, w19, w20, w21, w22, w23, w24, w25, w26, w27, w28, w29, w30, w31, w32, w33, w34, w35, w36, w37, w38, w39, w40]))] := hD
  exact x_zret hx hb hr rfl rfl hlocks hP hD hS hAe hsz (Nat.le_of_ble_eq_true rfl) (Nat.le_of_ble_eq_true rfl) (fun _ => 0) [0] (by decide) rfl dX10_setSwing_12

set_option maxHeartbeats 4000000 in
set_option maxRecDepth 100000 in
theorem c112_X9_requireRange (l : Launch) (g : gG) (x1 : Int32) (h2 : (0 : Int32) ≤ x1) (h3 : x1 ≤ 50) (sz : Nat) : Met l yX9_requireRange [Cond.code yX9_requireRange cX9_requireRange 3 none] ({ frames := 0, cells := 0, slots := 0, locals := 0 } : Room) (va_Pc [.int x1, .int 0, .int 50] (PX g sz [])) (QV g [] sz (fun _ => [])) 0 0 (va_A [] sz) := by
  refine ofN (by decide) (Nat.le_of_ble_eq_true rfl) rfl ?_
  intro p e s m args below meth c A ls hAe hsz hx hb hml hr hlocks hin hown hE hP hD hA hS hl
  have hown : s.vm.findClass RX9 = some m.cls := hown
  refine lv_iload_n hx hb dX9_requireRange_0 rfl (lv_at hl 0 rfl) ?_
  refine lv_iload_n hx hb dX9_requireRange_1 rfl (lv_at hl 1 rfl) ?_
  refine lv_icmp_lt (tgt := 10) hx hb dX9_requireRange_2 (by decide) (fun h => absurd h (i_nlt h2)) (fun _ => ?_)
  refine lv_iload_n hx hb dX9_requireRange_5 rfl (lv_at hl 0 rfl) ?_
  refine lv_iload_n hx hb dX9_requireRange_6 rfl (lv_at hl 2 rfl) ?_
  refine lv_icmp_le (tgt := 21) hx hb dX9_requireRange_7 (by decide) (fun _ => ?_) (fun h => absurd h3 h)
  exact x_vret hx hb hr hlocks hP hD hS hAe hsz (Nat.le_of_ble_eq_true rfl) (Nat.le_of_ble_eq_true rfl) (fun _ => 0) [] (by decide) rfl dX9_requireRange_21

set_option maxHeartbeats 4000000 in
set_option maxRecDepth 100000 in
theorem c113_J9_floorMod_7cf53 (l : Launch) (g : gG) (sz : Nat) : Met l yJ9_floorMod_7cf53 [Cond.code yJ9_floorMod_7cf53 cJ9_floorMod_7cf53 3 (some .int)] ({ frames := 0, cells := 0, slots := 0, locals := 0 } : Room) (va_Pc [.int 1, .int 10] (PX g sz [])) (QI g [] sz 1 (fun _ => [])) 0 0 (va_A [] sz) := by
  refine ofN (by decide) (Nat.le_of_ble_eq_true rfl) rfl ?_
  intro p e s m args below meth c A ls hAe hsz hx hb hml hr hlocks hin hown hE hP hD hA hS hl
  have hown : s.vm.findClass RJ9 = some m.cls := hown
  refine lv_iload_n hx hb dJ9_floorMod_7cf53_0 rfl (lv_at hl 0 rfl) ?_
  refine lv_iload_n hx hb dJ9_floorMod_7cf53_1 rfl (lv_at hl 1 rfl) ?_
  refine lv_irem hx hb dJ9_floorMod_7cf53_2 (by decide) ?_
  refine x_top (v := 1) (by decide) ?_
  refine lv_istore_n (lv' := [(2, .int 1), (0, .int 1), (1, .int 10)]) hx hb dJ9_floorMod_7cf53_3 rfl hl (by decide) rfl (fun ls hl => ?_)
  refine lv_iload_n hx hb dJ9_floorMod_7cf53_4 rfl (lv_at hl 1 rfl) ?_
  refine lv_iload_n hx hb dJ9_floorMod_7cf53_5 rfl (lv_at hl 2 rfl) ?_
  refine x_ixor (v := 11) hx hb dJ9_floorMod_7cf53_6 (by decide) ?_
  refine lv_if_ge (tgt := 18) hx hb dJ9_floorMod_7cf53_7 (by decide) (fun _ => ?_) (fun h => absurd (by decide) h)
  refine lv_iload_n hx hb dJ9_floorMod_7cf53_18 rfl (lv_at hl 0 rfl) ?_
  exact x_zret hx hb hr rfl rfl hlocks hP hD hS hAe hsz (Nat.le_of_ble_eq_true rfl) (Nat.le_of_ble_eq_true rfl) (fun _ => 0) [] (by decide) rfl dJ9_floorMod_7cf53_19

set_option maxHeartbeats 4000000 in
set_option maxRecDepth 100000 in
theorem c114_X9_copyRow (l : Launch) (g : gG) (q1 q2 : Nat) (f3 : Nat → Int32) (sz : Nat) : Met l yX9_copyRow [Cond.code yX9_copyRow cX9_copyRow 2 none] ({ frames := 1, cells := 0, slots := 0, locals := 64 } : Room) (va_Pc [.ref q1, .ref q2] (PX g sz [(q2, .inl (g.2 0, 384, .inl f3)), (q1, .inl (g.2 0, 384, .inl f3))])) (QV g [(q2, .inl (g.2 0, 384, .inl f3)), (q1, .inl (g.2 0, 384, .inl f3))] sz (fun _ => [(q2, .inl (g.2 0, 384, .inl f3)), (q1, .inl (g.2 0, 384, .inl f3))])) 0 0 (va_A [(q2, .inl (g.2 0, 384, .inl f3)), (q1, .inl (g.2 0, 384, .inl f3))] sz) := by
  refine ofN (by decide) (Nat.le_of_ble_eq_true rfl) rfl ?_
  intro p e s m args below meth c A ls hAe hsz hx hb hml hr hlocks hin hown hE hP hD hA hS hl
  have hown : s.vm.findClass RX9 = some m.cls := hown
  refine lv_aload_n hx hb dX9_copyRow_0 rfl (lv_at hl 0 rfl) ?_
  refine lv_iconst (v := 0) hx hb dX9_copyRow_1 (by decide) ?_
  refine lv_aload_n hx hb dX9_copyRow_2 rfl (lv_at hl 1 rfl) ?_
  refine lv_iconst (v := 0) hx hb dX9_copyRow_3 (by decide) ?_
  refine lv_aload_n hx hb dX9_copyRow_4 rfl (lv_at hl 0 rfl) ?_
  refine x_aleni (v := 384) hx hb hE hP 1 rfl rfl dX9_copyRow_5 ?_
  refine lv_aload_n hx hb dX9_copyRow_6 rfl (lv_at hl 1 rfl) ?_
  refine x_aleni (v := 384) hx hb hE hP 0 rfl rfl dX9_copyRow_7 ?_
  refine x_mmin (v := 384) hx hb (by rw [hml]; exact hl.1.symm) hown (e521 hE) (e362 hE) (e9 hE) (e363 hE) (Nat.le_of_ble_eq_true rfl) (Nat.le_of_ble_eq_true rfl) (Nat.le_of_ble_eq_true rfl) (Nat.le_of_ble_eq_true rfl) (by decide) dX9_copyRow_8 ?_
  refine x_copy (ws' := [(q2, .inl (g.2 0, 384, .inl f3)), (q1, .inl (g.2 0, 384, .inl f3))]) (ks := 0) (kd := 0) (kn := 384) hx hb (by rw [hml]; exact hl.1.symm) hown hE (e522 hE) (e379 hE) (e378 hE) (e21 hE) hP hD hS 1 0 rfl rfl (by decide) (by decide) (by decide) (by decide) (by decide) (by decide) (Nat.le_of_ble_eq_true rfl) (Nat.le_of_ble_eq_true rfl) (Nat.le_of_ble_eq_true rfl) (Nat.le_of_ble_eq_true rfl) dX9_copyRow_11 (by rw [va_cpy_self]; rfl) (fun H locs hP hD hS => ?_)
  exact x_vret hx hb hr hlocks hP hD hS hAe hsz (Nat.le_of_ble_eq_true rfl) (Nat.le_of_ble_eq_true rfl) (fun _ => 0) [0, 1] (by decide) rfl dX9_copyRow_14

set_option maxHeartbeats 4000000 in
set_option maxRecDepth 100000 in
theorem c115_X9_copyRow (l : Launch) (g : gG) (q1 q2 : Nat) (f3 : Nat → Int32) (sz : Nat) : Met l yX9_copyRow [Cond.code yX9_copyRow cX9_copyRow 2 none] ({ frames := 1, cells := 0, slots := 0, locals := 64 } : Room) (va_Pc [.ref q1, .ref q2] (PX g sz [(q2, .inl (g.2 0, 40, .inl f3)), (q1, .inl (g.2 0, 40, .inl f3))])) (QV g [(q2, .inl (g.2 0, 40, .inl f3)), (q1, .inl (g.2 0, 40, .inl f3))] sz (fun _ => [(q2, .inl (g.2 0, 40, .inl f3)), (q1, .inl (g.2 0, 40, .inl f3))])) 0 0 (va_A [(q2, .inl (g.2 0, 40, .inl f3)), (q1, .inl (g.2 0, 40, .inl f3))] sz) := by
  refine ofN (by decide) (Nat.le_of_ble_eq_true rfl) rfl ?_
  intro p e s m args below meth c A ls hAe hsz hx hb hml hr hlocks hin hown hE hP hD hA hS hl
  have hown : s.vm.findClass RX9 = some m.cls := hown
  refine lv_aload_n hx hb dX9_copyRow_0 rfl (lv_at hl 0 rfl) ?_
  refine lv_iconst (v := 0) hx hb dX9_copyRow_1 (by decide) ?_
  refine lv_aload_n hx hb dX9_copyRow_2 rfl (lv_at hl 1 rfl) ?_
  refine lv_iconst (v := 0) hx hb dX9_copyRow_3 (by decide) ?_
  refine lv_aload_n hx hb dX9_copyRow_4 rfl (lv_at hl 0 rfl) ?_
  refine x_aleni (v := 40) hx hb hE hP 1 rfl rfl dX9_copyRow_5 ?_
  refine lv_aload_n hx hb dX9_copyRow_6 rfl (lv_at hl 1 rfl) ?_
  refine x_aleni (v := 40) hx hb hE hP 0 rfl rfl dX9_copyRow_7 ?_
  refine x_mmin (v := 40) hx hb (by rw [hml]; exact hl.1.symm) hown (e521 hE) (e362 hE) (e9 hE) (e363 hE) (Nat.le_of_ble_eq_true rfl) (Nat.le_of_ble_eq_true rfl) (Nat.le_of_ble_eq_true rfl) (Nat.le_of_ble_eq_true rfl) (by decide) dX9_copyRow_8 ?_
  refine x_copy (ws' := [(q2, .inl (g.2 0, 40, .inl f3)), (q1, .inl (g.2 0, 40, .inl f3))]) (ks := 0) (kd := 0) (kn := 40) hx hb (by rw [hml]; exact hl.1.symm) hown hE (e522 hE) (e379 hE) (e378 hE) (e21 hE) hP hD hS 1 0 rfl rfl (by decide) (by decide) (by decide) (by decide) (by decide) (by decide) (Nat.le_of_ble_eq_true rfl) (Nat.le_of_ble_eq_true rfl) (Nat.le_of_ble_eq_true rfl) (Nat.le_of_ble_eq_true rfl) dX9_copyRow_11 (by rw [va_cpy_self]; rfl) (fun H locs hP hD hS => ?_)
  exact x_vret hx hb hr hlocks hP hD hS hAe hsz (Nat.le_of_ble_eq_true rfl) (Nat.le_of_ble_eq_true rfl) (fun _ => 0) [0, 1] (by decide) rfl dX9_copyRow_14

set_option maxHeartbeats 4000000 in
set_option maxRecDepth 100000 in
theorem c116_X3_copyFrom (l : Launch) (g : gG) (q1 q2 q5 q8 q10 q11 : Nat) (f9 : Nat → Int32) (f12 : Nat → Int32) (sz : Nat) : Met l yX3_copyFrom [Cond.code yX3_copyFrom cX3_copyFrom 2 none] ({ frames := 2, cells := 0, slots := 0, locals := 85 } : Room) (va_Pc [.ref q1, .ref q2] (PX g sz [(q11, .inl (g.2 0, 40, .inl f12)), (q10, .inl (g.2 0, 40, .inl f12)), (q8, .inl (g.2 0, 384, .inl f9)), (q5, .inl (g.2 0, 384, .inl f9)), (q1, .inr (5, [.ref q8, .ref q11])), (q2, .inr (5, [.ref q5, .ref q10]))])) (QV g [(q11, .inl (g.2 0, 40, .inl f12)), (q10, .inl (g.2 0, 40, .inl f12)), (q8, .inl (g.2 0, 384, .inl f9)), (q5, .inl (g.2 0, 384, .inl f9)), (q1, .inr (5, [.ref q8, .ref q11])), (q2, .inr (5, [.ref q5, .ref q10]))] sz (fun _ => [(q1, .inr (5, [.ref q8, .ref q11])), (q2, .inr (5, [.ref q5, .ref q10])), (q8, .inl (g.2 0, 384, .inl f9)), (q5, .inl (g.2 0, 384, .inl f9)), (q11, .inl (g.2 0, 40, .inl f12)), (q10, .inl (g.2 0, 40, .inl f12))])) 0 0 (va_A [(q11, .inl (g.2 0, 40, .inl f12)), (q10, .inl (g.2 0, 40, .inl f12)), (q8, .inl (g.2 0, 384, .inl f9)), (q5, .inl (g.2 0, 384, .inl f9)), (q1, .inr (5, [.ref q8, .ref q11])), (q2, .inr (5, [.ref q5, .ref q10]))] sz) := by
  refine ofN (by decide) (Nat.le_of_ble_eq_true rfl) rfl ?_
  intro p e s m args below meth c A ls hAe hsz hx hb hml hr hlocks hin hown hE hP hD hA hS hl
  have hown : s.vm.findClass RX3 = some m.cls := hown
  refine lv_aload_n hx hb dX3_copyFrom_0 rfl (lv_at hl 1 rfl) ?_
  refine gf_RX3_9 hx hb hown hE hP 5 rfl rfl dX3_copyFrom_1 ?_
  refine lv_aload_n hx hb dX3_copyFrom_4 rfl (lv_at hl 0 rfl) ?_
  refine gf_RX3_9 hx hb hown hE hP 4 rfl rfl dX3_copyFrom_5 ?_
  refine g_v (wr := [(q11, .inl (g.2 0, 40, .inl f12)), (q10, .inl (g.2 0, 40, .inl f12)), (q1, .inr (5, [.ref q8, .ref q11])), (q2, .inr (5, [.ref q5, .ref q10]))]) (rSN (rest := []) hx hb hml hown hE hP hD (c114_X9_copyRow l g q5 q8 f9 s.heap.size) (kSN_X9_copyRow hE (e518 hE) rfl rfl ⟨(Nat.le_of_ble_eq_true rfl), (Nat.le_of_ble_eq_true rfl)⟩) [2, 3] rfl (by decide) rfl hl.1 rfl (lv_room (Nat.le_of_ble_eq_true rfl)) dX3_copyFrom_8 ⟨(Nat.le_of_ble_eq_true rfl), (Nat.le_of_ble_eq_true rfl)⟩) hP hD hS hA [2, 3] [0, 1, 4, 5] rfl rfl (by decide) (by decide) (fun u1 H locs hP hD hS => ?_)
  have hP : va_P g.1 vwCl [(q11, .inl (g.2 0, 40, .inl f12)), (q10, .inl (g.2 0, 40, .inl f12)), (q1, .inr (5, [.ref q8, .ref q11])), (q2, .inr (5, [.ref q5, .ref q10])), (q8, .inl (g.2 0, 384, .inl f9)), (q5, .inl (g.2 0, 384, .inl f9))] H := hP
  have hD : va_D A [(q11, .inl (g.2 0, 40, .inl f12)), (q10, .inl (g.2 0, 40, .inl f12)), (q1, .inr (5, [.ref q8, .ref q11])), (q2, .inr (5, [.ref q5, .ref q10])), (q8, .inl (g.2 0, 384, .inl f9)), (q5, .inl (g.2 0, 384, .inl f9))] := hD
  refine lv_aload_n hx hb dX3_copyFrom_11 rfl (lv_at hl 1 rfl) ?_
  refine gf_RX3_15 hx hb hown hE hP 3 rfl rfl dX3_copyFrom_12 ?_
  refine lv_aload_n hx hb dX3_copyFrom_15 rfl (lv_at hl 0 rfl) ?_
  refine gf_RX3_15 hx hb hown hE hP 2 rfl rfl dX3_copyFrom_16 ?_
  refine g_v (wr := [(q1, .inr (5, [.ref q8, .ref q11])), (q2, .inr (5, [.ref q5, .ref q10])), (q8, .inl (g.2 0, 384, .inl f9)), (q5, .inl (g.2 0, 384, .inl f9))]) (rSN (rest := []) hx hb hml hown hE hP hD (c115_X9_copyRow l g q10 q11 f12 H.size) (kSN_X9_copyRow hE (e518 hE) rfl rfl ⟨(Nat.le_of_ble_eq_true rfl), (Nat.le_of_ble_eq_true rfl)⟩) [0, 1] rfl (by decide) rfl hl.1 rfl (lv_room (Nat.le_of_ble_eq_true rfl)) dX3_copyFrom_19 ⟨(Nat.le_of_ble_eq_true rfl), (Nat.le_of_ble_eq_true rfl)⟩) hP hD hS hA [0, 1] [2, 3, 4, 5] rfl rfl (by decide) (by decide) (fun u2 H locs hP hD hS => ?_)
  have hP : va_P g.1 vwCl [(q1, .inr (5, [.ref q8, .ref q11])), (q2, .inr (5, [.ref q5, .ref q10])), (q8, .inl (g.2 0, 384, .inl f9)), (q5, .inl (g.2 0, 384, .inl f9)), (q11, .inl (g.2 0, 40, .inl f12)), (q10, .inl (g.2 0, 40, .inl f12))] H := hP
  have hD : va_D A [(q1, .inr (5, [.ref q8, .ref q11])), (q2, .inr (5, [.ref q5, .ref q10])), (q8, .inl (g.2 0, 384, .inl f9)), (q5, .inl (g.2 0, 384, .inl f9)), (q11, .inl (g.2 0, 40, .inl f12)), (q10, .inl (g.2 0, 40, .inl f12))] := hD
  exact x_vret hx hb hr hlocks hP hD hS hAe hsz (Nat.le_of_ble_eq_true rfl) (Nat.le_of_ble_eq_true rfl) (fun _ => 0) [0, 1, 2, 3, 4, 5] (by decide) rfl dX3_copyFrom_22

set_option maxHeartbeats 4000000 in
set_option maxRecDepth 100000 in
theorem c117_X9_copyRow (l : Launch) (g : gG) (q1 q2 : Nat) (f3 : Nat → Int32) (sz : Nat) : Met l yX9_copyRow [Cond.code yX9_copyRow cX9_copyRow 2 none] ({ frames := 1, cells := 0, slots := 0, locals := 64 } : Room) (va_Pc [.ref q1, .ref q2] (PX g sz [(q2, .inl (g.2 0, 10, .inl f3)), (q1, .inl (g.2 0, 10, .inl f3))])) (QV g [(q2, .inl (g.2 0, 10, .inl f3)), (q1, .inl (g.2 0, 10, .inl f3))] sz (fun _ => [(q2, .inl (g.2 0, 10, .inl f3)), (q1, .inl (g.2 0, 10, .inl f3))])) 0 0 (va_A [(q2, .inl (g.2 0, 10, .inl f3)), (q1, .inl (g.2 0, 10, .inl f3))] sz) := by
  refine ofN (by decide) (Nat.le_of_ble_eq_true rfl) rfl ?_
  intro p e s m args below meth c A ls hAe hsz hx hb hml hr hlocks hin hown hE hP hD hA hS hl
  have hown : s.vm.findClass RX9 = some m.cls := hown
  refine lv_aload_n hx hb dX9_copyRow_0 rfl (lv_at hl 0 rfl) ?_
  refine lv_iconst (v := 0) hx hb dX9_copyRow_1 (by decide) ?_
  refine lv_aload_n hx hb dX9_copyRow_2 rfl (lv_at hl 1 rfl) ?_
  refine lv_iconst (v := 0) hx hb dX9_copyRow_3 (by decide) ?_
  refine lv_aload_n hx hb dX9_copyRow_4 rfl (lv_at hl 0 rfl) ?_
  refine x_aleni (v := 10) hx hb hE hP 1 rfl rfl dX9_copyRow_5 ?_
  refine lv_aload_n hx hb dX9_copyRow_6 rfl (lv_at hl 1 rfl) ?_
  refine x_aleni (v := 10) hx hb hE hP 0 rfl rfl dX9_copyRow_7 ?_
  refine x_mmin (v := 10) hx hb (by rw [hml]; exact hl.1.symm) hown (e521 hE) (e362 hE) (e9 hE) (e363 hE) (Nat.le_of_ble_eq_true rfl) (Nat.le_of_ble_eq_true rfl) (Nat.le_of_ble_eq_true rfl) (Nat.le_of_ble_eq_true rfl) (by decide) dX9_copyRow_8 ?_
  refine x_copy (ws' := [(q2, .inl (g.2 0, 10, .inl f3)), (q1, .inl (g.2 0, 10, .inl f3))]) (ks := 0) (kd := 0) (kn := 10) hx hb (by rw [hml]; exact hl.1.symm) hown hE (e522 hE) (e379 hE) (e378 hE) (e21 hE) hP hD hS 1 0 rfl rfl (by decide) (by decide) (by decide) (by decide) (by decide) (by decide) (Nat.le_of_ble_eq_true rfl) (Nat.le_of_ble_eq_true rfl) (Nat.le_of_ble_eq_true rfl) (Nat.le_of_ble_eq_true rfl) dX9_copyRow_11 (by rw [va_cpy_self]; rfl) (fun H locs hP hD hS => ?_)
  exact x_vret hx hb hr hlocks hP hD hS hAe hsz (Nat.le_of_ble_eq_true rfl) (Nat.le_of_ble_eq_true rfl) (fun _ => 0) [0, 1] (by decide) rfl dX9_copyRow_14

set_option maxHeartbeats 4000000 in
set_option maxRecDepth 100000 in
theorem c118_X7_copyFrom (l : Launch) (g : gG) (q1 q2 q7 q12 q14 q15 : Nat) (w10 w11 : Value) (f13 : Nat → Int32) (f16 : Nat → Int32) (sz : Nat) : Met l yX7_copyFrom [Cond.code yX7_copyFrom cX7_copyFrom 2 none] ({ frames := 2, cells := 0, slots := 0, locals := 85 } : Room) (va_Pc [.ref q1, .ref q2] (PX g sz [(q15, .inl (g.2 0, 10, .inl f16)), (q14, .inl (g.2 0, 10, .inl f16)), (q12, .inl (g.2 0, 10, .inl f13)), (q7, .inl (g.2 0, 10, .inl f13)), (q1, .inr (9, [.ref q12, .ref q15, w10, w11])), (q2, .inr (9, [.ref q7, .ref q14, .int 1, .int 0]))])) (QV g [(q15, .inl (g.2 0, 10, .inl f16)), (q14, .inl (g.2 0, 10, .inl f16)), (q12, .inl (g.2 0, 10, .inl f13)), (q7, .inl (g.2 0, 10, .inl f13)), (q1, .inr (9, [.ref q12, .ref q15, w10, w11])), (q2, .inr (9, [.ref q7, .ref q14, .int 1, .int 0]))] sz (fun _ => [(q1, .inr (9, [.ref q12, .ref q15, .int 1, .int 0])), (q2, .inr (9, [.ref q7, .ref q14, .int 1, .int 0])), (q12, .inl (g.2 0, 10, .inl f13)), (q7, .inl (g.2 0, 10, .inl f13)), (q15, .inl (g.2 0, 10, .inl f16)), (q14, .inl (g.2 0, 10, .inl f16))])) 0 0 (va_A [(q15, .inl (g.2 0, 10, .inl f16)), (q14, .inl (g.2 0, 10, .inl f16)), (q12, .inl (g.2 0, 10, .inl f13)), (q7, .inl (g.2 0, 10, .inl f13)), (q1, .inr (9, [.ref q12, .ref q15, w10, w11])), (q2, .inr (9, [.ref q7, .ref q14, .int 1, .int 0]))] sz) := by
  refine ofN (by decide) (Nat.le_of_ble_eq_true rfl) rfl ?_
  intro p e s m args below meth c A ls hAe hsz hx hb hml hr hlocks hin hown hE hP hD hA hS hl
  have hown : s.vm.findClass RX7 = some m.cls := hown
  refine lv_aload_n hx hb dX7_copyFrom_0 rfl (lv_at hl 1 rfl) ?_
  refine gf_RX7_9 hx hb hown hE hP 5 rfl rfl dX7_copyFrom_1 ?_
  refine lv_aload_n hx hb dX7_copyFrom_4 rfl (lv_at hl 0 rfl) ?_
  refine gf_RX7_9 hx hb hown hE hP 4 rfl rfl dX7_copyFrom_5 ?_
  refine g_v (wr := [(q15, .inl (g.2 0, 10, .inl f16)), (q14, .inl (g.2 0, 10, .inl f16)), (q1, .inr (9, [.ref q12, .ref q15, w10, w11])), (q2, .inr (9, [.ref q7, .ref q14, .int 1, .int 0]))]) (rSN (rest := []) hx hb hml hown hE hP hD (c117_X9_copyRow l g q7 q12 f13 s.heap.size) (kSN_X9_copyRow hE (e527 hE) rfl rfl ⟨(Nat.le_of_ble_eq_true rfl), (Nat.le_of_ble_eq_true rfl)⟩) [2, 3] rfl (by decide) rfl hl.1 rfl (lv_room (Nat.le_of_ble_eq_true rfl)) dX7_copyFrom_8 ⟨(Nat.le_of_ble_eq_true rfl), (Nat.le_of_ble_eq_true rfl)⟩) hP hD hS hA [2, 3] [0, 1, 4, 5] rfl rfl (by decide) (by decide) (fun u1 H locs hP hD hS => ?_)
  have hP : va_P g.1 vwCl [(q15, .inl (g.2 0, 10, .inl f16)), (q14, .inl (g.2 0, 10, .inl f16)), (q1, .inr (9, [.ref q12, .ref q15, w10, w11])), (q2, .inr (9, [.ref q7, .ref q14, .int 1, .int 0])), (q12, .inl (g.2 0, 10, .inl f13)), (q7, .inl (g.2 0, 10, .inl f13))] H := hP
  have hD : va_D A [(q15, .inl (g.2 0, 10, .inl f16)), (q14, .inl (g.2 0, 10, .inl f16)), (q1, .inr (9, [.ref q12, .ref q15, w10, w11])), (q2, .inr (9, [.ref q7, .ref q14, .int 1, .int 0])), (q12, .inl (g.2 0, 10, .inl f13)), (q7, .inl (g.2 0, 10, .inl f13))] := hD
  refine lv_aload_n hx hb dX7_copyFrom_11 rfl (lv_at hl 1 rfl) ?_
  refine gf_RX7_15 hx hb hown hE hP 3 rfl rfl dX7_copyFrom_12 ?_
  refine lv_aload_n hx hb dX7_copyFrom_15 rfl (lv_at hl 0 rfl) ?_
  refine gf_RX7_15 hx hb hown hE hP 2 rfl rfl dX7_copyFrom_16 ?_
  refine g_v (wr := [(q1, .inr (9, [.ref q12, .ref q15, w10, w11])), (q2, .inr (9, [.ref q7, .ref q14, .int 1, .int 0])), (q12, .inl (g.2 0, 10, .inl f13)), (q7, .inl (g.2 0, 10, .inl f13))]) (rSN (rest := []) hx hb hml hown hE hP hD (c117_X9_copyRow l g q14 q15 f16 H.size) (kSN_X9_copyRow hE (e527 hE) rfl rfl ⟨(Nat.le_of_ble_eq_true rfl), (Nat.le_of_ble_eq_true rfl)⟩) [0, 1] rfl (by decide) rfl hl.1 rfl (lv_room (Nat.le_of_ble_eq_true rfl)) dX7_copyFrom_19 ⟨(Nat.le_of_ble_eq_true rfl), (Nat.le_of_ble_eq_true rfl)⟩) hP hD hS hA [0, 1] [2, 3, 4, 5] rfl rfl (by decide) (by decide) (fun u2 H locs hP hD hS => ?_)
  have hP : va_P g.1 vwCl [(q1, .inr (9, [.ref q12, .ref q15, w10, w11])), (q2, .inr (9, [.ref q7, .ref q14, .int 1, .int 0])), (q12, .inl (g.2 0, 10, .inl f13)), (q7, .inl (g.2 0, 10, .inl f13)), (q15, .inl (g.2 0, 10, .inl f16)), (q14, .inl (g.2 0, 10, .inl f16))] H := hP
  have hD : va_D A [(q1, .inr (9, [.ref q12, .ref q15, w10, w11])), (q2, .inr (9, [.ref q7, .ref q14, .int 1, .int 0])), (q12, .inl (g.2 0, 10, .inl f13)), (q7, .inl (g.2 0, 10, .inl f13)), (q15, .inl (g.2 0, 10, .inl f16)), (q14, .inl (g.2 0, 10, .inl f16))] := hD
  refine lv_aload_n hx hb dX7_copyFrom_22 rfl (lv_at hl 0 rfl) ?_
  refine lv_aload_n hx hb dX7_copyFrom_23 rfl (lv_at hl 1 rfl) ?_
  refine gf_RX7_18 hx hb hown hE hP 1 rfl rfl dX7_copyFrom_24 ?_
  refine pf_RX7_18 (ws' := [(q1, .inr (9, [.ref q12, .ref q15, .int 1, w11])), (q2, .inr (9, [.ref q7, .ref q14, .int 1, .int 0])), (q12, .inl (g.2 0, 10, .inl f13)), (q7, .inl (g.2 0, 10, .inl f13)), (q15, .inl (g.2 0, 10, .inl f16)), (q14, .inl (g.2 0, 10, .inl f16))]) hx hb hown hE hP hD hS 0 rfl rfl rfl (Nat.le_of_ble_eq_true rfl) dX7_copyFrom_27 rfl (fun H locs hP hD hS => ?_)
  refine lv_aload_n hx hb dX7_copyFrom_30 rfl (lv_at hl 0 rfl) ?_
  refine lv_aload_n hx hb dX7_copyFrom_31 rfl (lv_at hl 1 rfl) ?_
  refine gf_RX7_22 hx hb hown hE hP 1 rfl rfl dX7_copyFrom_32 ?_
  refine pf_RX7_22 (ws' := [(q1, .inr (9, [.ref q12, .ref q15, .int 1, .int 0])), (q2, .inr (9, [.ref q7, .ref q14, .int 1, .int 0])), (q12, .inl (g.2 0, 10, .inl f13)), (q7, .inl (g.2 0, 10, .inl f13)), (q15, .inl (g.2 0, 10, .inl f16)), (q14, .inl (g.2 0, 10, .inl f16))]) hx hb hown hE hP hD hS 0 rfl rfl rfl (Nat.le_of_ble_eq_true rfl) dX7_copyFrom_35 rfl (fun H locs hP hD hS => ?_)
  exact x_vret hx hb hr hlocks hP hD hS hAe hsz (Nat.le_of_ble_eq_true rfl) (Nat.le_of_ble_eq_true rfl) (fun _ => 0) [0, 1, 2, 3, 4, 5] (by decide) rfl dX7_copyFrom_38

set_option maxHeartbeats 4000000 in
set_option maxRecDepth 100000 in
theorem c119_X9_copyRow (l : Launch) (g : gG) (q1 q2 : Nat) (f3 : Nat → Int32) (sz : Nat) : Met l yX9_copyRow [Cond.code yX9_copyRow cX9_copyRow 2 none] ({ frames := 1, cells := 0, slots := 0, locals := 64 } : Room) (va_Pc [.ref q1, .ref q2] (PX g sz [(q2, .inl (g.2 0, 60, .inl f3)), (q1, .inl (g.2 0, 60, .inl f3))])) (QV g [(q2, .inl (g.2 0, 60, .inl f3)), (q1, .inl (g.2 0, 60, .inl f3))] sz (fun _ => [(q2, .inl (g.2 0, 60, .inl f3)), (q1, .inl (g.2 0, 60, .inl f3))])) 0 0 (va_A [(q2, .inl (g.2 0, 60, .inl f3)), (q1, .inl (g.2 0, 60, .inl f3))] sz) := by
  refine ofN (by decide) (Nat.le_of_ble_eq_true rfl) rfl ?_
  intro p e s m args below meth c A ls hAe hsz hx hb hml hr hlocks hin hown hE hP hD hA hS hl
  have hown : s.vm.findClass RX9 = some m.cls := hown
  refine lv_aload_n hx hb dX9_copyRow_0 rfl (lv_at hl 0 rfl) ?_
  refine lv_iconst (v := 0) hx hb dX9_copyRow_1 (by decide) ?_
  refine lv_aload_n hx hb dX9_copyRow_2 rfl (lv_at hl 1 rfl) ?_
  refine lv_iconst (v := 0) hx hb dX9_copyRow_3 (by decide) ?_
  refine lv_aload_n hx hb dX9_copyRow_4 rfl (lv_at hl 0 rfl) ?_
  refine x_aleni (v := 60) hx hb hE hP 1 rfl rfl dX9_copyRow_5 ?_
  refine lv_aload_n hx hb dX9_copyRow_6 rfl (lv_at hl 1 rfl) ?_
  refine x_aleni (v := 60) hx hb hE hP 0 rfl rfl dX9_copyRow_7 ?_
  refine x_mmin (v := 60) hx hb (by rw [hml]; exact hl.1.symm) hown (e521 hE) (e362 hE) (e9 hE) (e363 hE) (Nat.le_of_ble_eq_true rfl) (Nat.le_of_ble_eq_true rfl) (Nat.le_of_ble_eq_true rfl) (Nat.le_of_ble_eq_true rfl) (by decide) dX9_copyRow_8 ?_
  refine x_copy (ws' := [(q2, .inl (g.2 0, 60, .inl f3)), (q1, .inl (g.2 0, 60, .inl f3))]) (ks := 0) (kd := 0) (kn := 60) hx hb (by rw [hml]; exact hl.1.symm) hown hE (e522 hE) (e379 hE) (e378 hE) (e21 hE) hP hD hS 1 0 rfl rfl (by decide) (by decide) (by decide) (by decide) (by decide) (by decide) (Nat.le_of_ble_eq_true rfl) (Nat.le_of_ble_eq_true rfl) (Nat.le_of_ble_eq_true rfl) (Nat.le_of_ble_eq_true rfl) dX9_copyRow_11 (by rw [va_cpy_self]; rfl) (fun H locs hP hD hS => ?_)
  exact x_vret hx hb hr hlocks hP hD hS hAe hsz (Nat.le_of_ble_eq_true rfl) (Nat.le_of_ble_eq_true rfl) (fun _ => 0) [0, 1] (by decide) rfl dX9_copyRow_14

set_option maxHeartbeats 4000000 in
set_option maxRecDepth 100000 in
theorem c120_X9_copyRow (l : Launch) (g : gG) (q1 q2 : Nat) (f3 : Nat → Int32) (sz : Nat) : Met l yX9_copyRow [Cond.code yX9_copyRow cX9_copyRow 2 none] ({ frames := 1, cells := 0, slots := 0, locals := 64 } : Room) (va_Pc [.ref q1, .ref q2] (PX g sz [(q2, .inl (g.2 0, 20, .inl f3)), (q1, .inl (g.2 0, 20, .inl f3))])) (QV g [(q2, .inl (g.2 0, 20, .inl f3)), (q1, .inl (g.2 0, 20, .inl f3))] sz (fun _ => [(q2, .inl (g.2 0, 20, .inl f3)), (q1, .inl (g.2 0, 20, .inl f3))])) 0 0 (va_A [(q2, .inl (g.2 0, 20, .inl f3)), (q1, .inl (g.2 0, 20, .inl f3))] sz) := by
  refine ofN (by decide) (Nat.le_of_ble_eq_true rfl) rfl ?_
  intro p e s m args below meth c A ls hAe hsz hx hb hml hr hlocks hin hown hE hP hD hA hS hl
  have hown : s.vm.findClass RX9 = some m.cls := hown
  refine lv_aload_n hx hb dX9_copyRow_0 rfl (lv_at hl 0 rfl) ?_
  refine lv_iconst (v := 0) hx hb dX9_copyRow_1 (by decide) ?_
  refine lv_aload_n hx hb dX9_copyRow_2 rfl (lv_at hl 1 rfl) ?_
  refine lv_iconst (v := 0) hx hb dX9_copyRow_3 (by decide) ?_
  refine lv_aload_n hx hb dX9_copyRow_4 rfl (lv_at hl 0 rfl) ?_
  refine x_aleni (v := 20) hx hb hE hP 1 rfl rfl dX9_copyRow_5 ?_
  refine lv_aload_n hx hb dX9_copyRow_6 rfl (lv_at hl 1 rfl) ?_
  refine x_aleni (v := 20) hx hb hE hP 0 rfl rfl dX9_copyRow_7 ?_
  refine x_mmin (v := 20) hx hb (by rw [hml]; exact hl.1.symm) hown (e521 hE) (e362 hE) (e9 hE) (e363 hE) (Nat.le_of_ble_eq_true rfl) (Nat.le_of_ble_eq_true rfl) (Nat.le_of_ble_eq_true rfl) (Nat.le_of_ble_eq_true rfl) (by decide) dX9_copyRow_8 ?_
  refine x_copy (ws' := [(q2, .inl (g.2 0, 20, .inl f3)), (q1, .inl (g.2 0, 20, .inl f3))]) (ks := 0) (kd := 0) (kn := 20) hx hb (by rw [hml]; exact hl.1.symm) hown hE (e522 hE) (e379 hE) (e378 hE) (e21 hE) hP hD hS 1 0 rfl rfl (by decide) (by decide) (by decide) (by decide) (by decide) (by decide) (Nat.le_of_ble_eq_true rfl) (Nat.le_of_ble_eq_true rfl) (Nat.le_of_ble_eq_true rfl) (Nat.le_of_ble_eq_true rfl) dX9_copyRow_11 (by rw [va_cpy_self]; rfl) (fun H locs hP hD hS => ?_)
  exact x_vret hx hb hr hlocks hP hD hS hAe hsz (Nat.le_of_ble_eq_true rfl) (Nat.le_of_ble_eq_true rfl) (fun _ => 0) [0, 1] (by decide) rfl dX9_copyRow_14

set_option maxHeartbeats 4000000 in
set_option maxRecDepth 100000 in
theorem c121_X6_copyFrom (l : Launch) (g : gG) (q1 q2 q10 q18 q21 q24 q26 q27 q29 q30 q35 q40 q41 q42 q44 q45 q46 q47 : Nat) (w7 w8 w9 w38 w39 : Value) (f25 : Nat → Int32) (f28 : Nat → Int32) (f43 : Nat → Int32) (f48 : Nat → Int32) (sz : Nat) : Met l yX6_copyFrom [Cond.code yX6_copyFrom cX6_copyFrom 2 none] ({ frames := 3, cells := 0, slots := 0, locals := 106 } : Room) (va_Pc [.ref q1, .ref q2] (PX g sz [(q47, .inl (g.2 0, 20, .inl f48)), (q46, .inl (g.2 0, 20, .inl f48)), (q45, .inl (g.2 0, 60, .inl f25)), (q44, .inl (g.2 0, 60, .inl f25)), (q42, .inl (g.2 0, 10, .inl f43)), (q41, .inl (g.2 0, 10, .inl f43)), (q40, .inl (g.2 0, 10, .inl f25)), (q35, .inl (g.2 0, 10, .inl f25)), (q29, .inr (9, [.ref q40, .ref q42, w38, w39])), (q30, .inr (9, [.ref q35, .ref q41, .int 1, .int 0])), (q27, .inl (g.2 0, 40, .inl f28)), (q26, .inl (g.2 0, 40, .inl f28)), (q24, .inl (g.2 0, 384, .inl f25)), (q21, .inl (g.2 0, 384, .inl f25)), (q10, .inr (5, [.ref q24, .ref q27])), (q18, .inr (5, [.ref q21, .ref q26])), (q2, .inr (8, [.ref q18, .ref q30, .ref q44, .ref q46, .int 0, .int 4, .int 0])), (q1, .inr (8, [.ref q10, .ref q29, .ref q45, .ref q47, w7, w8, w9]))])) (QV g [(q47, .inl (g.2 0, 20, .inl f48)), (q46, .inl (g.2 0, 20, .inl f48)), (q45, .inl (g.2 0, 60, .inl f25)), (q44, .inl (g.2 0, 60, .inl f25)), (q42, .inl (g.2 0, 10, .inl f43)), (q41, .inl (g.2 0, 10, .inl f43)), (q40, .inl (g.2 0, 10, .inl f25)), (q35, .inl (g.2 0, 10, .inl f25)), (q29, .inr (9, [.ref q40, .ref q42, w38, w39])), (q30, .inr (9, [.ref q35, .ref q41, .int 1, .int 0])), (q27, .inl (g.2 0, 40, .inl f28)), (q26, .inl (g.2 0, 40, .inl f28)), (q24, .inl (g.2 0, 384, .inl f25)), (q21, .inl (g.2 0, 384, .inl f25)), (q10, .inr (5, [.ref q24, .ref q27])), (q18, .inr (5, [.ref q21, .ref q26])), (q2, .inr (8, [.ref q18, .ref q30, .ref q44, .ref q46, .int 0, .int 4, .int 0])), (q1, .inr (8, [.ref q10, .ref q29, .ref q45, .ref q47, w7, w8, w9]))] sz (fun _ => [(q2, .inr (8, [.ref q18, .ref q30, .ref q44, .ref q46, .int 0, .int 4, .int 0])), (q1, .inr (8, [.ref q10, .ref q29, .ref q45, .ref q47, .int 0, .int 4, .int 0])), (q10, .inr (5, [.ref q24, .ref q27])), (q18, .inr (5, [.ref q21, .ref q26])), (q24, .inl (g.2 0, 384, .inl f25)), (q21, .inl (g.2 0, 384, .inl f25)), (q27, .inl (g.2 0, 40, .inl f28)), (q26, .inl (g.2 0, 40, .inl f28)), (q29, .inr (9, [.ref q40, .ref q42, .int 1, .int 0])), (q30, .inr (9, [.ref q35, .ref q41, .int 1, .int 0])), (q40, .inl (g.2 0, 10, .inl f25)), (q35, .inl (g.2 0, 10, .inl f25)), (q42, .inl (g.2 0, 10, .inl f43)), (q41, .inl (g.2 0, 10, .inl f43)), (q45, .inl (g.2 0, 60, .inl f25)), (q44, .inl (g.2 0, 60, .inl f25)), (q47, .inl (g.2 0, 20, .inl f48)), (q46, .inl (g.2 0, 20, .inl f48))])) 0 0 (va_A [(q47, .inl (g.2 0, 20, .inl f48)), (q46, .inl (g.2 0, 20, .inl f48)), (q45, .inl (g.2 0, 60, .inl f25)), (q44, .inl (g.2 0, 60, .inl f25)), (q42, .inl (g.2 0, 10, .inl f43)), (q41, .inl (g.2 0, 10, .inl f43)), (q40, .inl (g.2 0, 10, .inl f25)), (q35, .inl (g.2 0, 10, .inl f25)), (q29, .inr (9, [.ref q40, .ref q42, w38, w39])), (q30, .inr (9, [.ref q35, .ref q41, .int 1, .int 0])), (q27, .inl (g.2 0, 40, .inl f28)), (q26, .inl (g.2 0, 40, .inl f28)), (q24, .inl (g.2 0, 384, .inl f25)), (q21, .inl (g.2 0, 384, .inl f25)), (q10, .inr (5, [.ref q24, .ref q27])), (q18, .inr (5, [.ref q21, .ref q26])), (q2, .inr (8, [.ref q18, .ref q30, .ref q44, .ref q46, .int 0, .int 4, .int 0])), (q1, .inr (8, [.ref q10, .ref q29, .ref q45, .ref q47, w7, w8, w9]))] sz) := by
  refine ofN (by decide) (Nat.le_of_ble_eq_true rfl) rfl ?_
  intro p e s m args below meth c A ls hAe hsz hx hb hml hr hlocks hin hown hE hP hD hA hS hl
  have hown : s.vm.findClass RX6 = some m.cls := hown
  refine lv_aload_n hx hb dX6_copyFrom_0 rfl (lv_at hl 0 rfl) ?_
  refine gf_RX6_12 hx hb hown hE hP 17 rfl rfl dX6_copyFrom_1 ?_
  refine lv_aload_n hx hb dX6_copyFrom_4 rfl (lv_at hl 1 rfl) ?_
  refine gf_RX6_12 hx hb hown hE hP 16 rfl rfl dX6_copyFrom_5 ?_
  refine g_v (wr := [(q47, .inl (g.2 0, 20, .inl f48)), (q46, .inl (g.2 0, 20, .inl f48)), (q45, .inl (g.2 0, 60, .inl f25)), (q44, .inl (g.2 0, 60, .inl f25)), (q42, .inl (g.2 0, 10, .inl f43)), (q41, .inl (g.2 0, 10, .inl f43)), (q40, .inl (g.2 0, 10, .inl f25)), (q35, .inl (g.2 0, 10, .inl f25)), (q29, .inr (9, [.ref q40, .ref q42, w38, w39])), (q30, .inr (9, [.ref q35, .ref q41, .int 1, .int 0])), (q2, .inr (8, [.ref q18, .ref q30, .ref q44, .ref q46, .int 0, .int 4, .int 0])), (q1, .inr (8, [.ref q10, .ref q29, .ref q45, .ref q47, w7, w8, w9]))]) (rV (rest := []) hx hb hml hown hE hP hD 14 rfl rfl (c116_X3_copyFrom l g q10 q18 q21 q24 q26 q27 f25 f28 s.heap.size) (kV_X3_copyFrom hE (e514 hE) rfl rfl ⟨(Nat.le_of_ble_eq_true rfl), (Nat.le_of_ble_eq_true rfl)⟩) [10, 11, 12, 13, 14, 15] rfl (by decide) rfl hl.1 rfl (lv_room (Nat.le_of_ble_eq_true rfl)) dX6_copyFrom_8 ⟨(Nat.le_of_ble_eq_true rfl), (Nat.le_of_ble_eq_true rfl)⟩) hP hD hS hA [10, 11, 12, 13, 14, 15] [0, 1, 2, 3, 4, 5, 6, 7, 8, 9, 16, 17] rfl rfl (by decide) (by decide) (fun u1 H locs hP hD hS => ?_)
  have hP : va_P g.1 vwCl [(q47, .inl (g.2 0, 20, .inl f48)), (q46, .inl (g.2 0, 20, .inl f48)), (q45, .inl (g.2 0, 60, .inl f25)), (q44, .inl (g.2 0, 60, .inl f25)), (q42, .inl (g.2 0, 10, .inl f43)), (q41, .inl (g.2 0, 10, .inl f43)), (q40, .inl (g.2 0, 10, .inl f25)), (q35, .inl (g.2 0, 10, .inl f25)), (q29, .inr (9, [.ref q40, .ref q42, w38, w39])), (q30, .inr (9, [.ref q35, .ref q41, .int 1, .int 0])), (q2, .inr (8, [.ref q18, .ref q30, .ref q44, .ref q46, .int 0, .int 4, .int 0])), (q1, .inr (8, [.ref q10, .ref q29, .ref q45, .ref q47, w7, w8, w9])), (q10, .inr (5, [.ref q24, .ref q27])), (q18, .inr (5, [.ref q21, .ref q26])), (q24, .inl (g.2 0, 384, .inl f25)), (q21, .inl (g.2 0, 384, .inl f25)), (q27, .inl (g.2 0, 40, .inl f28)), (q26, .inl (g.2 0, 40, .inl f28))] H := hP
  have hD : va_D A [(q47, .inl (g.2 0, 20, .inl f48)), (q46, .inl (g.2 0, 20, .inl f48)), (q45, .inl (g.2 0, 60, .inl f25)), (q44, .inl (g.2 0, 60, .inl f25)), (q42, .inl (g.2 0, 10, .inl f43)), (q41, .inl (g.2 0, 10, .inl f43)), (q40, .inl (g.2 0, 10, .inl f25)), (q35, .inl (g.2 0, 10, .inl f25)), (q29, .inr (9, [.ref q40, .ref q42, w38, w39])), (q30, .inr (9, [.ref q35, .ref q41, .int 1, .int 0])), (q2, .inr (8, [.ref q18, .ref q30, .ref q44, .ref q46, .int 0, .int 4, .int 0])), (q1, .inr (8, [.ref q10, .ref q29, .ref q45, .ref q47, w7, w8, w9])), (q10, .inr (5, [.ref q24, .ref q27])), (q18, .inr (5, [.ref q21, .ref q26])), (q24, .inl (g.2 0, 384, .inl f25)), (q21, .inl (g.2 0, 384, .inl f25)), (q27, .inl (g.2 0, 40, .inl f28)), (q26, .inl (g.2 0, 40, .inl f28))] := hD
  refine lv_aload_n hx hb dX6_copyFrom_11 rfl (lv_at hl 0 rfl) ?_
  refine gf_RX6_21 hx hb hown hE hP 11 rfl rfl dX6_copyFrom_12 ?_
  refine lv_aload_n hx hb dX6_copyFrom_15 rfl (lv_at hl 1 rfl) ?_
  refine gf_RX6_21 hx hb hown hE hP 10 rfl rfl dX6_copyFrom_16 ?_
  refine g_v (wr := [(q47, .inl (g.2 0, 20, .inl f48)), (q46, .inl (g.2 0, 20, .inl f48)), (q45, .inl (g.2 0, 60, .inl f25)), (q44, .inl (g.2 0, 60, .inl f25)), (q2, .inr (8, [.ref q18, .ref q30, .ref q44, .ref q46, .int 0, .int 4, .int 0])), (q1, .inr (8, [.ref q10, .ref q29, .ref q45, .ref q47, w7, w8, w9])), (q10, .inr (5, [.ref q24, .ref q27])), (q18, .inr (5, [.ref q21, .ref q26])), (q24, .inl (g.2 0, 384, .inl f25)), (q21, .inl (g.2 0, 384, .inl f25)), (q27, .inl (g.2 0, 40, .inl f28)), (q26, .inl (g.2 0, 40, .inl f28))]) (rV (rest := []) hx hb hml hown hE hP hD 8 rfl rfl (c118_X7_copyFrom l g q29 q30 q35 q40 q41 q42 w38 w39 f25 f43 H.size) (kV_X7_copyFrom hE (e523 hE) rfl rfl ⟨(Nat.le_of_ble_eq_true rfl), (Nat.le_of_ble_eq_true rfl)⟩) [4, 5, 6, 7, 8, 9] rfl (by decide) rfl hl.1 rfl (lv_room (Nat.le_of_ble_eq_true rfl)) dX6_copyFrom_19 ⟨(Nat.le_of_ble_eq_true rfl), (Nat.le_of_ble_eq_true rfl)⟩) hP hD hS hA [4, 5, 6, 7, 8, 9] [0, 1, 2, 3, 10, 11, 12, 13, 14, 15, 16, 17] rfl rfl (by decide) (by decide) (fun u2 H locs hP hD hS => ?_)
  have hP : va_P g.1 vwCl [(q47, .inl (g.2 0, 20, .inl f48)), (q46, .inl (g.2 0, 20, .inl f48)), (q45, .inl (g.2 0, 60, .inl f25)), (q44, .inl (g.2 0, 60, .inl f25)), (q2, .inr (8, [.ref q18, .ref q30, .ref q44, .ref q46, .int 0, .int 4, .int 0])), (q1, .inr (8, [.ref q10, .ref q29, .ref q45, .ref q47, w7, w8, w9])), (q10, .inr (5, [.ref q24, .ref q27])), (q18, .inr (5, [.ref q21, .ref q26])), (q24, .inl (g.2 0, 384, .inl f25)), (q21, .inl (g.2 0, 384, .inl f25)), (q27, .inl (g.2 0, 40, .inl f28)), (q26, .inl (g.2 0, 40, .inl f28)), (q29, .inr (9, [.ref q40, .ref q42, .int 1, .int 0])), (q30, .inr (9, [.ref q35, .ref q41, .int 1, .int 0])), (q40, .inl (g.2 0, 10, .inl f25)), (q35, .inl (g.2 0, 10, .inl f25)), (q42, .inl (g.2 0, 10, .inl f43)), (q41, .inl (g.2 0, 10, .inl f43))] H := hP
  have hD : va_D A [(q47, .inl (g.2 0, 20, .inl f48)), (q46, .inl (g.2 0, 20, .inl f48)), (q45, .inl (g.2 0, 60, .inl f25)), (q44, .inl (g.2 0, 60, .inl f25)), (q2, .inr (8, [.ref q18, .ref q30, .ref q44, .ref q46, .int 0, .int 4, .int 0])), (q1, .inr (8, [.ref q10, .ref q29, .ref q45, .ref q47, w7, w8, w9])), (q10, .inr (5, [.ref q24, .ref q27])), (q18, .inr (5, [.ref q21, .ref q26])), (q24, .inl (g.2 0, 384, .inl f25)), (q21, .inl (g.2 0, 384, .inl f25)), (q27, .inl (g.2 0, 40, .inl f28)), (q26, .inl (g.2 0, 40, .inl f28)), (q29, .inr (9, [.ref q40, .ref q42, .int 1, .int 0])), (q30, .inr (9, [.ref q35, .ref q41, .int 1, .int 0])), (q40, .inl (g.2 0, 10, .inl f25)), (q35, .inl (g.2 0, 10, .inl f25)), (q42, .inl (g.2 0, 10, .inl f43)), (q41, .inl (g.2 0, 10, .inl f43))] := hD
  refine lv_aload_n hx hb dX6_copyFrom_22 rfl (lv_at hl 1 rfl) ?_
  refine gf_RX6_25 hx hb hown hE hP 4 rfl rfl dX6_copyFrom_23 ?_
  refine lv_aload_n hx hb dX6_copyFrom_26 rfl (lv_at hl 0 rfl) ?_
  refine gf_RX6_25 hx hb hown hE hP 5 rfl rfl dX6_copyFrom_27 ?_
  refine g_v (wr := [(q47, .inl (g.2 0, 20, .inl f48)), (q46, .inl (g.2 0, 20, .inl f48)), (q2, .inr (8, [.ref q18, .ref q30, .ref q44, .ref q46, .int 0, .int 4, .int 0])), (q1, .inr (8, [.ref q10, .ref q29, .ref q45, .ref q47, w7, w8, w9])), (q10, .inr (5, [.ref q24, .ref q27])), (q18, .inr (5, [.ref q21, .ref q26])), (q24, .inl (g.2 0, 384, .inl f25)), (q21, .inl (g.2 0, 384, .inl f25)), (q27, .inl (g.2 0, 40, .inl f28)), (q26, .inl (g.2 0, 40, .inl f28)), (q29, .inr (9, [.ref q40, .ref q42, .int 1, .int 0])), (q30, .inr (9, [.ref q35, .ref q41, .int 1, .int 0])), (q40, .inl (g.2 0, 10, .inl f25)), (q35, .inl (g.2 0, 10, .inl f25)), (q42, .inl (g.2 0, 10, .inl f43)), (q41, .inl (g.2 0, 10, .inl f43))]) (rSN (rest := []) hx hb hml hown hE hP hD (c119_X9_copyRow l g q44 q45 f25 H.size) (kSN_X9_copyRow hE (e528 hE) rfl rfl ⟨(Nat.le_of_ble_eq_true rfl), (Nat.le_of_ble_eq_true rfl)⟩) [2, 3] rfl (by decide) rfl hl.1 rfl (lv_room (Nat.le_of_ble_eq_true rfl)) dX6_copyFrom_30 ⟨(Nat.le_of_ble_eq_true rfl), (Nat.le_of_ble_eq_true rfl)⟩) hP hD hS hA [2, 3] [0, 1, 4, 5, 6, 7, 8, 9, 10, 11, 12, 13, 14, 15, 16, 17] rfl rfl (by decide) (by decide) (fun u3 H locs hP hD hS => ?_)
  have hP : va_P g.1 vwCl [(q47, .inl (g.2 0, 20, .inl f48)), (q46, .inl (g.2 0, 20, .inl f48)), (q2, .inr (8, [.ref q18, .ref q30, .ref q44, .ref q46, .int 0, .int 4, .int 0])), (q1, .inr (8, [.ref q10, .ref q29, .ref q45, .ref q47, w7, w8, w9])), (q10, .inr (5, [.ref q24, .ref q27])), (q18, .inr (5, [.ref q21, .ref q26])), (q24, .inl (g.2 0, 384, .inl f25)), (q21, .inl (g.2 0, 384, .inl f25)), (q27, .inl (g.2 0, 40, .inl f28)), (q26, .inl (g.2 0, 40, .inl f28)), (q29, .inr (9, [.ref q40, .ref q42, .int 1, .int 0])), (q30, .inr (9, [.ref q35, .ref q41, .int 1, .int 0])), (q40, .inl (g.2 0, 10, .inl f25)), (q35, .inl (g.2 0, 10, .inl f25)), (q42, .inl (g.2 0, 10, .inl f43)), (q41, .inl (g.2 0, 10, .inl f43)), (q45, .inl (g.2 0, 60, .inl f25)), (q44, .inl (g.2 0, 60, .inl f25))] H := hP
  have hD : va_D A [(q47, .inl (g.2 0, 20, .inl f48)), (q46, .inl (g.2 0, 20, .inl f48)), (q2, .inr (8, [.ref q18, .ref q30, .ref q44, .ref q46, .int 0, .int 4, .int 0])), (q1, .inr (8, [.ref q10, .ref q29, .ref q45, .ref q47, w7, w8, w9])), (q10, .inr (5, [.ref q24, .ref q27])), (q18, .inr (5, [.ref q21, .ref q26])), (q24, .inl (g.2 0, 384, .inl f25)), (q21, .inl (g.2 0, 384, .inl f25)), (q27, .inl (g.2 0, 40, .inl f28)), (q26, .inl (g.2 0, 40, .inl f28)), (q29, .inr (9, [.ref q40, .ref q42, .int 1, .int 0])), (q30, .inr (9, [.ref q35, .ref q41, .int 1, .int 0])), (q40, .inl (g.2 0, 10, .inl f25)), (q35, .inl (g.2 0, 10, .inl f25)), (q42, .inl (g.2 0, 10, .inl f43)), (q41, .inl (g.2 0, 10, .inl f43)), (q45, .inl (g.2 0, 60, .inl f25)), (q44, .inl (g.2 0, 60, .inl f25))] := hD
  refine lv_aload_n hx hb dX6_copyFrom_33 rfl (lv_at hl 1 rfl) ?_
  refine gf_RX6_29 hx hb hown hE hP 2 rfl rfl dX6_copyFrom_34 ?_
  refine lv_aload_n hx hb dX6_copyFrom_37 rfl (lv_at hl 0 rfl) ?_
  refine gf_RX6_29 hx hb hown hE hP 3 rfl rfl dX6_copyFrom_38 ?_
  refine g_v (wr := [(q2, .inr (8, [.ref q18, .ref q30, .ref q44, .ref q46, .int 0, .int 4, .int 0])), (q1, .inr (8, [.ref q10, .ref q29, .ref q45, .ref q47, w7, w8, w9])), (q10, .inr (5, [.ref q24, .ref q27])), (q18, .inr (5, [.ref q21, .ref q26])), (q24, .inl (g.2 0, 384, .inl f25)), (q21, .inl (g.2 0, 384, .inl f25)), (q27, .inl (g.2 0, 40, .inl f28)), (q26, .inl (g.2 0, 40, .inl f28)), (q29, .inr (9, [.ref q40, .ref q42, .int 1, .int 0])), (q30, .inr (9, [.ref q35, .ref q41, .int 1, .int 0])), (q40, .inl (g.2 0, 10, .inl f25)), (q35, .inl (g.2 0, 10, .inl f25)), (q42, .inl (g.2 0, 10, .inl f43)), (q41, .inl (g.2 0, 10, .inl f43)), (q45, .inl (g.2 0, 60, .inl f25)), (q44, .inl (g.2 0, 60, .inl f25))]) (rSN (rest := []) hx hb hml hown hE hP hD (c120_X9_copyRow l g q46 q47 f48 H.size) (kSN_X9_copyRow hE (e528 hE) rfl rfl ⟨(Nat.le_of_ble_eq_true rfl), (Nat.le_of_ble_eq_true rfl)⟩) [0, 1] rfl (by decide) rfl hl.1 rfl (lv_room (Nat.le_of_ble_eq_true rfl)) dX6_copyFrom_41 ⟨(Nat.le_of_ble_eq_true rfl), (Nat.le_of_ble_eq_true rfl)⟩) hP hD hS hA [0, 1] [2, 3, 4, 5, 6, 7, 8, 9, 10, 11, 12, 13, 14, 15, 16, 17] rfl rfl (by decide) (by decide) (fun u4 H locs hP hD hS => ?_)
  have hP : va_P g.1 vwCl [(q2, .inr (8, [.ref q18, .ref q30, .ref q44, .ref q46, .int 0, .int 4, .int 0])), (q1, .inr (8, [.ref q10, .ref q29, .ref q45, .ref q47, w7, w8, w9])), (q10, .inr (5, [.ref q24, .ref q27])), (q18, .inr (5, [.ref q21, .ref q26])), (q24, .inl (g.2 0, 384, .inl f25)), (q21, .inl (g.2 0, 384, .inl f25)), (q27, .inl (g.2 0, 40, .inl f28)), (q26, .inl (g.2 0, 40, .inl f28)), (q29, .inr (9, [.ref q40, .ref q42, .int 1, .int 0])), (q30, .inr (9, [.ref q35, .ref q41, .int 1, .int 0])), (q40, .inl (g.2 0, 10, .inl f25)), (q35, .inl (g.2 0, 10, .inl f25)), (q42, .inl (g.2 0, 10, .inl f43)), (q41, .inl (g.2 0, 10, .inl f43)), (q45, .inl (g.2 0, 60, .inl f25)), (q44, .inl (g.2 0, 60, .inl f25)), (q47, .inl (g.2 0, 20, .inl f48)), (q46, .inl (g.2 0, 20, .inl f48))] H := hP
  have hD : va_D A [(q2, .inr (8, [.ref q18, .ref q30, .ref q44, .ref q46, .int 0, .int 4, .int 0])), (q1, .inr (8, [.ref q10, .ref q29, .ref q45, .ref q47, w7, w8, w9])), (q10, .inr (5, [.ref q24, .ref q27])), (q18, .inr (5, [.ref q21, .ref q26])), (q24, .inl (g.2 0, 384, .inl f25)), (q21, .inl (g.2 0, 384, .inl f25)), (q27, .inl (g.2 0, 40, .inl f28)), (q26, .inl (g.2 0, 40, .inl f28)), (q29, .inr (9, [.ref q40, .ref q42, .int 1, .int 0])), (q30, .inr (9, [.ref q35, .ref q41, .int 1, .int 0])), (q40, .inl (g.2 0, 10, .inl f25)), (q35, .inl (g.2 0, 10, .inl f25)), (q42, .inl (g.2 0, 10, .inl f43)), (q41, .inl (g.2 0, 10, .inl f43)), (q45, .inl (g.2 0, 60, .inl f25)), (q44, .inl (g.2 0, 60, .inl f25)), (q47, .inl (g.2 0, 20, .inl f48)), (q46, .inl (g.2 0, 20, .inl f48))] := hD
  refine lv_aload_n hx hb dX6_copyFrom_44 rfl (lv_at hl 0 rfl) ?_
  refine lv_aload_n hx hb dX6_copyFrom_45 rfl (lv_at hl 1 rfl) ?_
  refine gf_RX6_37 hx hb hown hE hP 0 rfl rfl dX6_copyFrom_46 ?_
  refine pf_RX6_37 (ws' := [(q2, .inr (8, [.ref q18, .ref q30, .ref q44, .ref q46, .int 0, .int 4, .int 0])), (q1, .inr (8, [.ref q10, .ref q29, .ref q45, .ref q47, .int 0, w8, w9])), (q10, .inr (5, [.ref q24, .ref q27])), (q18, .inr (5, [.ref q21, .ref q26])), (q24, .inl (g.2 0, 384, .inl f25)), (q21, .inl (g.2 0, 384, .inl f25)), (q27, .inl (g.2 0, 40, .inl f28)), (q26, .inl (g.2 0, 40, .inl f28)), (q29, .inr (9, [.ref q40, .ref q42, .int 1, .int 0])), (q30, .inr (9, [.ref q35, .ref q41, .int 1, .int 0])), (q40, .inl (g.2 0, 10, .inl f25)), (q35, .inl (g.2 0, 10, .inl f25)), (q42, .inl (g.2 0, 10, .inl f43)), (q41, .inl (g.2 0, 10, .inl f43)), (q45, .inl (g.2 0, 60, .inl f25)), (q44, .inl (g.2 0, 60, .inl f25)), (q47, .inl (g.2 0, 20, .inl f48)), (q46, .inl (g.2 0, 20, .inl f48))]) hx hb hown hE hP hD hS 1 rfl rfl rfl (Nat.le_of_ble_eq_true rfl) dX6_copyFrom_49 rfl (fun H locs hP hD hS => ?_)
  refine lv_aload_n hx hb dX6_copyFrom_52 rfl (lv_at hl 0 rfl) ?_
  refine lv_aload_n hx hb dX6_copyFrom_53 rfl (lv_at hl 1 rfl) ?_
  refine gf_RX6_41 hx hb hown hE hP 0 rfl rfl dX6_copyFrom_54 ?_
  refine pf_RX6_41 (ws' := [(q2, .inr (8, [.ref q18, .ref q30, .ref q44, .ref q46, .int 0, .int 4, .int 0])), (q1, .inr (8, [.ref q10, .ref q29, .ref q45, .ref q47, .int 0, .int 4, w9])), (q10, .inr (5, [.ref q24, .ref q27])), (q18, .inr (5, [.ref q21, .ref q26])), (q24, .inl (g.2 0, 384, .inl f25)), (q21, .inl (g.2 0, 384, .inl f25)), (q27, .inl (g.2 0, 40, .inl f28)), (q26, .inl (g.2 0, 40, .inl f28)), (q29, .inr (9, [.ref q40, .ref q42, .int 1, .int 0])), (q30, .inr (9, [.ref q35, .ref q41, .int 1, .int 0])), (q40, .inl (g.2 0, 10, .inl f25)), (q35, .inl (g.2 0, 10, .inl f25)), (q42, .inl (g.2 0, 10, .inl f43)), (q41, .inl (g.2 0, 10, .inl f43)), (q45, .inl (g.2 0, 60, .inl f25)), (q44, .inl (g.2 0, 60, .inl f25)), (q47, .inl (g.2 0, 20, .inl f48)), (q46, .inl (g.2 0, 20, .inl f48))]) hx hb hown hE hP hD hS 1 rfl rfl rfl (Nat.le_of_ble_eq_true rfl) dX6_copyFrom_57 rfl (fun H locs hP hD hS => ?_)
  refine lv_aload_n hx hb dX6_copyFrom_60 rfl (lv_at hl 0 rfl) ?_
  refine lv_aload_n hx hb dX6_copyFrom_61 rfl (lv_at hl 1 rfl) ?_
  refine gf_RX6_44 hx hb hown hE hP 0 rfl rfl dX6_copyFrom_62 ?_
  refine pf_RX6_44 (ws' := [(q2, .inr (8, [.ref q18, .ref q30, .ref q44, .ref q46, .int 0, .int 4, .int 0])), (q1, .inr (8, [.ref q10, .ref q29, .ref q45, .ref q47, .int 0, .int 4, .int 0])), (q10, .inr (5, [.ref q24, .ref q27])), (q18, .inr (5, [.ref q21, .ref q26])), (q24, .inl (g.2 0, 384, .inl f25)), (q21, .inl (g.2 0, 384, .inl f25)), (q27, .inl (g.2 0, 40, .inl f28)), (q26, .inl (g.2 0, 40, .inl f28)), (q29, .inr (9, [.ref q40, .ref q42, .int 1, .int 0])), (q30, .inr (9, [.ref q35, .ref q41, .int 1, .int 0])), (q40, .inl (g.2 0, 10, .inl f25)), (q35, .inl (g.2 0, 10, .inl f25)), (q42, .inl (g.2 0, 10, .inl f43)), (q41, .inl (g.2 0, 10, .inl f43)), (q45, .inl (g.2 0, 60, .inl f25)), (q44, .inl (g.2 0, 60, .inl f25)), (q47, .inl (g.2 0, 20, .inl f48)), (q46, .inl (g.2 0, 20, .inl f48))]) hx hb hown hE hP hD hS 1 rfl rfl rfl (Nat.le_of_ble_eq_true rfl) dX6_copyFrom_65 rfl (fun H locs hP hD hS => ?_)
  exact x_vret hx hb hr hlocks hP hD hS hAe hsz (Nat.le_of_ble_eq_true rfl) (Nat.le_of_ble_eq_true rfl) (fun _ => 0) [0, 1, 2, 3, 4, 5, 6, 7, 8, 9, 10, 11, 12, 13, 14, 15, 16, 17] (by decide) rfl dX6_copyFrom_68

set_option maxHeartbeats 4000000 in
set_option maxRecDepth 100000 in
theorem c122_X8_draft (l : Launch) (g : gG) (q1 q5 q8 q10 q18 q26 q29 q32 q34 q35 q37 q38 q43 q48 q49 q50 q52 q53 q54 q55 : Nat) (w4 w15 w16 w17 w46 w47 : Value) (f6 : Nat → Option Nat) (f33 : Nat → Int32) (f36 : Nat → Int32) (f51 : Nat → Int32) (f56 : Nat → Int32) (hf7 : f6 1 = some q8) (hf9 : f6 0 = some q10) (sz : Nat) : Met l yX8_draft [Cond.code yX8_draft cX8_draft 2 (some (.object "PatternSequencer$Song"))] ({ frames := 4, cells := 0, slots := 0, locals := 127 } : Room) (va_Pc [.ref q1] (PX g sz [(q55, .inl (g.2 0, 20, .inl f56)), (q54, .inl (g.2 0, 20, .inl f56)), (q53, .inl (g.2 0, 60, .inl f33)), (q52, .inl (g.2 0, 60, .inl f33)), (q50, .inl (g.2 0, 10, .inl f51)), (q49, .inl (g.2 0, 10, .inl f51)), (q48, .inl (g.2 0, 10, .inl f33)), (q43, .inl (g.2 0, 10, .inl f33)), (q37, .inr (9, [.ref q48, .ref q50, w46, w47])), (q38, .inr (9, [.ref q43, .ref q49, .int 1, .int 0])), (q35, .inl (g.2 0, 40, .inl f36)), (q34, .inl (g.2 0, 40, .inl f36)), (q32, .inl (g.2 0, 384, .inl f33)), (q29, .inl (g.2 0, 384, .inl f33)), (q18, .inr (5, [.ref q32, .ref q35])), (q26, .inr (5, [.ref q29, .ref q34])), (q10, .inr (8, [.ref q26, .ref q38, .ref q52, .ref q54, .int 0, .int 4, .int 0])), (q8, .inr (8, [.ref q18, .ref q37, .ref q53, .ref q55, w15, w16, w17])), (q5, .inl (g.2 3, 10, .inr (.inr (.inr (.inr f6))))), (q1, .inr (10, [.ref q5, .int 0, w4]))])) (QR g [(q55, .inl (g.2 0, 20, .inl f56)), (q54, .inl (g.2 0, 20, .inl f56)), (q53, .inl (g.2 0, 60, .inl f33)), (q52, .inl (g.2 0, 60, .inl f33)), (q50, .inl (g.2 0, 10, .inl f51)), (q49, .inl (g.2 0, 10, .inl f51)), (q48, .inl (g.2 0, 10, .inl f33)), (q43, .inl (g.2 0, 10, .inl f33)), (q37, .inr (9, [.ref q48, .ref q50, w46, w47])), (q38, .inr (9, [.ref q43, .ref q49, .int 1, .int 0])), (q35, .inl (g.2 0, 40, .inl f36)), (q34, .inl (g.2 0, 40, .inl f36)), (q32, .inl (g.2 0, 384, .inl f33)), (q29, .inl (g.2 0, 384, .inl f33)), (q18, .inr (5, [.ref q32, .ref q35])), (q26, .inr (5, [.ref q29, .ref q34])), (q10, .inr (8, [.ref q26, .ref q38, .ref q52, .ref q54, .int 0, .int 4, .int 0])), (q8, .inr (8, [.ref q18, .ref q37, .ref q53, .ref q55, w15, w16, w17])), (q5, .inl (g.2 3, 10, .inr (.inr (.inr (.inr f6))))), (q1, .inr (10, [.ref q5, .int 0, w4]))] sz q8 (fun _ => [(q5, .inl (g.2 3, 10, .inr (.inr (.inr (.inr f6))))), (q1, .inr (10, [.ref q5, .int 0, w4])), (q10, .inr (8, [.ref q26, .ref q38, .ref q52, .ref q54, .int 0, .int 4, .int 0])), (q8, .inr (8, [.ref q18, .ref q37, .ref q53, .ref q55, .int 0, .int 4, .int 0])), (q18, .inr (5, [.ref q32, .ref q35])), (q26, .inr (5, [.ref q29, .ref q34])), (q32, .inl (g.2 0, 384, .inl f33)), (q29, .inl (g.2 0, 384, .inl f33)), (q35, .inl (g.2 0, 40, .inl f36)), (q34, .inl (g.2 0, 40, .inl f36)), (q37, .inr (9, [.ref q48, .ref q50, .int 1, .int 0])), (q38, .inr (9, [.ref q43, .ref q49, .int 1, .int 0])), (q48, .inl (g.2 0, 10, .inl f33)), (q43, .inl (g.2 0, 10, .inl f33)), (q50, .inl (g.2 0, 10, .inl f51)), (q49, .inl (g.2 0, 10, .inl f51)), (q53, .inl (g.2 0, 60, .inl f33)), (q52, .inl (g.2 0, 60, .inl f33)), (q55, .inl (g.2 0, 20, .inl f56)), (q54, .inl (g.2 0, 20, .inl f56))])) 0 0 (va_A [(q55, .inl (g.2 0, 20, .inl f56)), (q54, .inl (g.2 0, 20, .inl f56)), (q53, .inl (g.2 0, 60, .inl f33)), (q52, .inl (g.2 0, 60, .inl f33)), (q50, .inl (g.2 0, 10, .inl f51)), (q49, .inl (g.2 0, 10, .inl f51)), (q48, .inl (g.2 0, 10, .inl f33)), (q43, .inl (g.2 0, 10, .inl f33)), (q37, .inr (9, [.ref q48, .ref q50, w46, w47])), (q38, .inr (9, [.ref q43, .ref q49, .int 1, .int 0])), (q35, .inl (g.2 0, 40, .inl f36)), (q34, .inl (g.2 0, 40, .inl f36)), (q32, .inl (g.2 0, 384, .inl f33)), (q29, .inl (g.2 0, 384, .inl f33)), (q18, .inr (5, [.ref q32, .ref q35])), (q26, .inr (5, [.ref q29, .ref q34])), (q10, .inr (8, [.ref q26, .ref q38, .ref q52, .ref q54, .int 0, .int 4, .int 0])), (q8, .inr (8, [.ref q18, .ref q37, .ref q53, .ref q55, w15, w16, w17])), (q5, .inl (g.2 3, 10, .inr (.inr (.inr (.inr f6))))), (q1, .inr (10, [.ref q5, .int 0, w4]))] sz) := by
  refine ofN (by decide) (Nat.le_of_ble_eq_true rfl) rfl ?_
  intro p e s m args below meth c A ls hAe hsz hx hb hml hr hlocks hin hown hE hP hD hA hS hl
  have hown : s.vm.findClass RX8 = some m.cls := hown
  refine lv_aload_n hx hb dX8_draft_0 rfl (lv_at hl 0 rfl) ?_
  refine gf_RX8_13 hx hb hown hE hP 19 rfl rfl dX8_draft_1 ?_
  refine lv_aload_n hx hb dX8_draft_4 rfl (lv_at hl 0 rfl) ?_
  refine gf_RX8_17 hx hb hown hE hP 19 rfl rfl dX8_draft_5 ?_
  refine lv_iconst (v := 1) hx hb dX8_draft_8 (by decide) ?_
  refine x_iadd (v := 1) hx hb dX8_draft_9 (by decide) ?_
  refine lv_bipush (v := 10) hx hb dX8_draft_10 (by decide) ?_
  refine g0_i (rS (rest := [.ref q5]) hx hb hml hown hE hP hD (c113_J9_floorMod_7cf53 l g s.heap.size) (kS_J9_floorMod_7cf53 hE (e294 hE) rfl rfl ⟨(Nat.le_of_ble_eq_true rfl), (Nat.le_of_ble_eq_true rfl)⟩) [] rfl (by decide) rfl hl.1 rfl (lv_room (Nat.le_of_ble_eq_true rfl)) dX8_draft_12 ⟨(Nat.le_of_ble_eq_true rfl), (Nat.le_of_ble_eq_true rfl)⟩) hP hD hS hA (fun u9 H locs hP hS => ?_)
  refine x_aald (v := q8) hx hb hE hP 18 rfl 1 (x_in (by decide)) (by decide) hf7 dX8_draft_15 ?_
  refine lv_astore_n (lv' := [(1, .ref q8), (0, .ref q1)]) hx hb dX8_draft_16 rfl hl (by decide) rfl (fun ls hl => ?_)
  refine lv_aload_n hx hb dX8_draft_17 rfl (lv_at hl 0 rfl) ?_
  refine lv_aload_n hx hb dX8_draft_18 rfl (lv_at hl 1 rfl) ?_
  refine g_r (wr := [(q55, .inl (g.2 0, 20, .inl f56)), (q54, .inl (g.2 0, 20, .inl f56)), (q53, .inl (g.2 0, 60, .inl f33)), (q52, .inl (g.2 0, 60, .inl f33)), (q50, .inl (g.2 0, 10, .inl f51)), (q49, .inl (g.2 0, 10, .inl f51)), (q48, .inl (g.2 0, 10, .inl f33)), (q43, .inl (g.2 0, 10, .inl f33)), (q37, .inr (9, [.ref q48, .ref q50, w46, w47])), (q38, .inr (9, [.ref q43, .ref q49, .int 1, .int 0])), (q35, .inl (g.2 0, 40, .inl f36)), (q34, .inl (g.2 0, 40, .inl f36)), (q32, .inl (g.2 0, 384, .inl f33)), (q29, .inl (g.2 0, 384, .inl f33)), (q18, .inr (5, [.ref q32, .ref q35])), (q26, .inr (5, [.ref q29, .ref q34])), (q10, .inr (8, [.ref q26, .ref q38, .ref q52, .ref q54, .int 0, .int 4, .int 0])), (q8, .inr (8, [.ref q18, .ref q37, .ref q53, .ref q55, w15, w16, w17]))]) (rV (rest := [.ref q8]) hx hb hml hown hE hP hD 19 rfl rfl (c79_X8_current l g q1 q5 q10 w4 f6 (hf9) H.size) (kV_X8_current hE (e663 hE) rfl rfl ⟨(Nat.le_of_ble_eq_true rfl), (Nat.le_of_ble_eq_true rfl)⟩) [18, 19] rfl (by decide) rfl hl.1 rfl (lv_room (Nat.le_of_ble_eq_true rfl)) dX8_draft_19 ⟨(Nat.le_of_ble_eq_true rfl), (Nat.le_of_ble_eq_true rfl)⟩) hP hD hS hA [18, 19] [0, 1, 2, 3, 4, 5, 6, 7, 8, 9, 10, 11, 12, 13, 14, 15, 16, 17] rfl rfl (by decide) (by decide) (fun u2 H locs hP hD hS => ?_)
  have hP : va_P g.1 vwCl [(q55, .inl (g.2 0, 20, .inl f56)), (q54, .inl (g.2 0, 20, .inl f56)), (q53, .inl (g.2 0, 60, .inl f33)), (q52, .inl (g.2 0, 60, .inl f33)), (q50, .inl (g.2 0, 10, .inl f51)), (q49, .inl (g.2 0, 10, .inl f51)), (q48, .inl (g.2 0, 10, .inl f33)), (q43, .inl (g.2 0, 10, .inl f33)), (q37, .inr (9, [.ref q48, .ref q50, w46, w47])), (q38, .inr (9, [.ref q43, .ref q49, .int 1, .int 0])), (q35, .inl (g.2 0, 40, .inl f36)), (q34, .inl (g.2 0, 40, .inl f36)), (q32, .inl (g.2 0, 384, .inl f33)), (q29, .inl (g.2 0, 384, .inl f33)), (q18, .inr (5, [.ref q32, .ref q35])), (q26, .inr (5, [.ref q29, .ref q34])), (q10, .inr (8, [.ref q26, .ref q38, .ref q52, .ref q54, .int 0, .int 4, .int 0])), (q8, .inr (8, [.ref q18, .ref q37, .ref q53, .ref q55, w15, w16, w17])), (q5, .inl (g.2 3, 10, .inr (.inr (.inr (.inr f6))))), (q1, .inr (10, [.ref q5, .int 0, w4]))] H := hP
  have hD : va_D A [(q55, .inl (g.2 0, 20, .inl f56)), (q54, .inl (g.2 0, 20, .inl f56)), (q53, .inl (g.2 0, 60, .inl f33)), (q52, .inl (g.2 0, 60, .inl f33)), (q50, .inl (g.2 0, 10, .inl f51)), (q49, .inl (g.2 0, 10, .inl f51)), (q48, .inl (g.2 0, 10, .inl f33)), (q43, .inl (g.2 0, 10, .inl f33)), (q37, .inr (9, [.ref q48, .ref q50, w46, w47])), (q38, .inr (9, [.ref q43, .ref q49, .int 1, .int 0])), (q35, .inl (g.2 0, 40, .inl f36)), (q34, .inl (g.2 0, 40, .inl f36)), (q32, .inl (g.2 0, 384, .inl f33)), (q29, .inl (g.2 0, 384, .inl f33)), (q18, .inr (5, [.ref q32, .ref q35])), (q26, .inr (5, [.ref q29, .ref q34])), (q10, .inr (8, [.ref q26, .ref q38, .ref q52, .ref q54, .int 0, .int 4, .int 0])), (q8, .inr (8, [.ref q18, .ref q37, .ref q53, .ref q55, w15, w16, w17])), (q5, .inl (g.2 3, 10, .inr (.inr (.inr (.inr f6))))), (q1, .inr (10, [.ref q5, .int 0, w4]))] := hD
  refine g_v (wr := [(q5, .inl (g.2 3, 10, .inr (.inr (.inr (.inr f6))))), (q1, .inr (10, [.ref q5, .int 0, w4]))]) (rV (rest := []) hx hb hml hown hE hP hD 17 rfl rfl (c121_X6_copyFrom l g q8 q10 q18 q26 q29 q32 q34 q35 q37 q38 q43 q48 q49 q50 q52 q53 q54 q55 w15 w16 w17 w46 w47 f33 f36 f51 f56 H.size) (kV_X6_copyFrom hE (e664 hE) rfl rfl ⟨(Nat.le_of_ble_eq_true rfl), (Nat.le_of_ble_eq_true rfl)⟩) [0, 1, 2, 3, 4, 5, 6, 7, 8, 9, 10, 11, 12, 13, 14, 15, 16, 17] rfl (by decide) rfl hl.1 rfl (lv_room (Nat.le_of_ble_eq_true rfl)) dX8_draft_22 ⟨(Nat.le_of_ble_eq_true rfl), (Nat.le_of_ble_eq_true rfl)⟩) hP hD hS hA [0, 1, 2, 3, 4, 5, 6, 7, 8, 9, 10, 11, 12, 13, 14, 15, 16, 17] [18, 19] rfl rfl (by decide) (by decide) (fun u3 H locs hP hD hS => ?_)
  have hP : va_P g.1 vwCl [(q5, .inl (g.2 3, 10, .inr (.inr (.inr (.inr f6))))), (q1, .inr (10, [.ref q5, .int 0, w4])), (q10, .inr (8, [.ref q26, .ref q38, .ref q52, .ref q54, .int 0, .int 4, .int 0])), (q8, .inr (8, [.ref q18, .ref q37, .ref q53, .ref q55, .int 0, .int 4, .int 0])), (q18, .inr (5, [.ref q32, .ref q35])), (q26, .inr (5, [.ref q29, .ref q34])), (q32, .inl (g.2 0, 384, .inl f33)), (q29, .inl (g.2 0, 384, .inl f33)), (q35, .inl (g.2 0, 40, .inl f36)), (q34, .inl (g.2 0, 40, .inl f36)), (q37, .inr (9, [.ref q48, .ref q50, .int 1, .int 0])), (q38, .inr (9, [.ref q43, .ref q49, .int 1, .int 0])), (q48, .inl (g.2 0, 10, .inl f33)), (q43, .inl (g.2 0, 10, .inl f33)), (q50, .inl (g.2 0, 10, .inl f51)), (q49, .inl (g.2 0, 10, .inl f51)), (q53, .inl (g.2 0, 60, .inl f33)), (q52, .inl (g.2 0, 60, .inl f33)), (q55, .inl (g.2 0, 20, .inl f56)), (q54, .inl (g.2 0, 20, .inl f56))] H := hP
  have hD : va_D A [(q5, .inl (g.2 3, 10, .inr (.inr (.inr (.inr f6))))), (q1, .inr (10, [.ref q5, .int 0, w4])), (q10, .inr (8, [.ref q26, .ref q38, .ref q52, .ref q54, .int 0, .int 4, .int 0])), (q8, .inr (8, [.ref q18, .ref q37, .ref q53, .ref q55, .int 0, .int 4, .int 0])), (q18, .inr (5, [.ref q32, .ref q35])), (q26, .inr (5, [.ref q29, .ref q34])), (q32, .inl (g.2 0, 384, .inl f33)), (q29, .inl (g.2 0, 384, .inl f33)), (q35, .inl (g.2 0, 40, .inl f36)), (q34, .inl (g.2 0, 40, .inl f36)), (q37, .inr (9, [.ref q48, .ref q50, .int 1, .int 0])), (q38, .inr (9, [.ref q43, .ref q49, .int 1, .int 0])), (q48, .inl (g.2 0, 10, .inl f33)), (q43, .inl (g.2 0, 10, .inl f33)), (q50, .inl (g.2 0, 10, .inl f51)), (q49, .inl (g.2 0, 10, .inl f51)), (q53, .inl (g.2 0, 60, .inl f33)), (q52, .inl (g.2 0, 60, .inl f33)), (q55, .inl (g.2 0, 20, .inl f56)), (q54, .inl (g.2 0, 20, .inl f56))] := hD
  refine lv_aload_n hx hb dX8_draft_25 rfl (lv_at hl 0 rfl) ?_
  exact x_aret hx hb hr (Or.inl ⟨_, rfl⟩) hlocks hP hD hS hAe hsz (Nat.le_of_ble_eq_true rfl) (Nat.le_of_ble_eq_true rfl) (fun _ => 0) [0, 1, 2, 3, 4, 5, 6, 7, 8, 9, 10, 11, 12, 13, 14, 15, 16, 17, 18, 19] (by decide) rfl dX8_draft_26

set_option maxHeartbeats 4000000 in
set_option maxRecDepth 100000 in
theorem c123_X8_acceptDraft (l : Launch) (g : gG) (q1 : Nat) (w2 : Value) (sz : Nat) : Met l yX8_acceptDraft [Cond.code yX8_acceptDraft cX8_acceptDraft 1 none] ({ frames := 1, cells := 0, slots := 0, locals := 24 } : Room) (va_Pc [.ref q1] (PX g sz [(q1, .inr (10, [w2, .int 0, .int 0]))])) (QV g [(q1, .inr (10, [w2, .int 0, .int 0]))] sz (fun _ => [(q1, .inr (10, [w2, .int 1, .int 1]))])) 0 0 (va_A [(q1, .inr (10, [w2, .int 0, .int 0]))] sz) := by
  refine ofN (by decide) (Nat.le_of_ble_eq_true rfl) rfl ?_
  intro p e s m args below meth c A ls hAe hsz hx hb hml hr hlocks hin hown hE hP hD hA hS hl
  have hown : s.vm.findClass RX8 = some m.cls := hown
  refine lv_aload_n hx hb dX8_acceptDraft_0 rfl (lv_at hl 0 rfl) ?_
  refine lv_aload_n hx hb dX8_acceptDraft_1 rfl (lv_at hl 0 rfl) ?_
  refine gf_RX8_17 hx hb hown hE hP 0 rfl rfl dX8_acceptDraft_2 ?_
  refine lv_iconst (v := 1) hx hb dX8_acceptDraft_5 (by decide) ?_
  refine x_iadd (v := 1) hx hb dX8_acceptDraft_6 (by decide) ?_
  refine lv_bipush (v := 10) hx hb dX8_acceptDraft_7 (by decide) ?_
  refine g0_i (rS (rest := [.ref q1]) hx hb hml hown hE hP hD (c113_J9_floorMod_7cf53 l g s.heap.size) (kS_J9_floorMod_7cf53 hE (e294 hE) rfl rfl ⟨(Nat.le_of_ble_eq_true rfl), (Nat.le_of_ble_eq_true rfl)⟩) [] rfl (by decide) rfl hl.1 rfl (lv_room (Nat.le_of_ble_eq_true rfl)) dX8_acceptDraft_9 ⟨(Nat.le_of_ble_eq_true rfl), (Nat.le_of_ble_eq_true rfl)⟩) hP hD hS hA (fun u9 H locs hP hS => ?_)
  refine pf_RX8_17 (ws' := [(q1, .inr (10, [w2, .int 1, .int 0]))]) hx hb hown hE hP hD hS 0 rfl rfl rfl (Nat.le_of_ble_eq_true rfl) dX8_acceptDraft_12 rfl (fun H locs hP hD hS => ?_)
  refine lv_aload_n hx hb dX8_acceptDraft_15 rfl (lv_at hl 0 rfl) ?_
  refine lv_aload_n hx hb dX8_acceptDraft_16 rfl (lv_at hl 0 rfl) ?_
  refine gf_RX8_21 hx hb hown hE hP 0 rfl rfl dX8_acceptDraft_17 ?_
  refine lv_iconst (v := 1) hx hb dX8_acceptDraft_20 (by decide) ?_
  refine x_iadd (v := 1) hx hb dX8_acceptDraft_21 (by decide) ?_
  refine lv_bipush (v := 8) hx hb dX8_acceptDraft_22 (by decide) ?_
  refine x_mmin (v := 1) hx hb (by rw [hml]; exact hl.1.symm) hown (e726 hE) (e362 hE) (e9 hE) (e363 hE) (Nat.le_of_ble_eq_true rfl) (Nat.le_of_ble_eq_true rfl) (Nat.le_of_ble_eq_true rfl) (Nat.le_of_ble_eq_true rfl) (by decide) dX8_acceptDraft_24 ?_
  refine pf_RX8_21 (ws' := [(q1, .inr (10, [w2, .int 1, .int 1]))]) hx hb hown hE hP hD hS 0 rfl rfl rfl (Nat.le_of_ble_eq_true rfl) dX8_acceptDraft_27 rfl (fun H locs hP hD hS => ?_)
  exact x_vret hx hb hr hlocks hP hD hS hAe hsz (Nat.le_of_ble_eq_true rfl) (Nat.le_of_ble_eq_true rfl) (fun _ => 0) [0] (by decide) rfl dX8_acceptDraft_30

set_option maxHeartbeats 4000000 in
set_option maxRecDepth 100000 in
theorem c124_X9_accept (l : Launch) (g : gG) (q1 q13 : Nat) (w3 w4 w5 w6 w7 w8 w9 w10 w11 w12 w14 : Value) (sz : Nat) : Met l yX9_accept [Cond.code yX9_accept cX9_accept 1 none] ({ frames := 2, cells := 0, slots := 0, locals := 44 } : Room) (va_Pc [.ref q1] (PX g sz [(q13, .inr (10, [w14, .int 0, .int 0])), (q1, .inr (11, [.ref q13, w3, w4, w5, w6, w7, w8, w9, w10, w11, w12]))])) (QV g [(q13, .inr (10, [w14, .int 0, .int 0])), (q1, .inr (11, [.ref q13, w3, w4, w5, w6, w7, w8, w9, w10, w11, w12]))] sz (fun _ => [(q13, .inr (10, [w14, .int 1, .int 1])), (q1, .inr (11, [.ref q13, w3, w4, w5, w6, w7, w8, w9, .int 0, .int 0, w12]))])) 0 0 (va_A [(q13, .inr (10, [w14, .int 0, .int 0])), (q1, .inr (11, [.ref q13, w3, w4, w5, w6, w7, w8, w9, w10, w11, w12]))] sz) := by
  refine ofN (by decide) (Nat.le_of_ble_eq_true rfl) rfl ?_
  intro p e s m args below meth c A ls hAe hsz hx hb hml hr hlocks hin hown hE hP hD hA hS hl
  have hown : s.vm.findClass RX9 = some m.cls := hown
  refine lv_aload_n hx hb dX9_accept_0 rfl (lv_at hl 0 rfl) ?_
  refine gf_RX9_12 hx hb hown hE hP 1 rfl rfl dX9_accept_1 ?_
  refine g_v (wr := [(q1, .inr (11, [.ref q13, w3, w4, w5, w6, w7, w8, w9, w10, w11, w12]))]) (rV (rest := []) hx hb hml hown hE hP hD 0 rfl rfl (c123_X8_acceptDraft l g q13 w14 s.heap.size) (kV_X8_acceptDraft hE (e722 hE) rfl rfl ⟨(Nat.le_of_ble_eq_true rfl), (Nat.le_of_ble_eq_true rfl)⟩) [0] rfl (by decide) rfl hl.1 rfl (lv_room (Nat.le_of_ble_eq_true rfl)) dX9_accept_4 ⟨(Nat.le_of_ble_eq_true rfl), (Nat.le_of_ble_eq_true rfl)⟩) hP hD hS hA [0] [1] rfl rfl (by decide) (by decide) (fun u1 H locs hP hD hS => ?_)
  have hP : va_P g.1 vwCl [(q1, .inr (11, [.ref q13, w3, w4, w5, w6, w7, w8, w9, w10, w11, w12])), (q13, .inr (10, [w14, .int 1, .int 1]))] H := hP
  have hD : va_D A [(q1, .inr (11, [.ref q13, w3, w4, w5, w6, w7, w8, w9, w10, w11, w12])), (q13, .inr (10, [w14, .int 1, .int 1]))] := hD
  refine lv_aload_n hx hb dX9_accept_7 rfl (lv_at hl 0 rfl) ?_
  refine g_v (wr := [(q13, .inr (10, [w14, .int 1, .int 1]))]) (rV (rest := []) hx hb hml hown hE hP hD 0 rfl rfl (c102_X9_outdate l g q1 (.ref q13) w3 w4 w5 w6 w7 w8 w9 w10 w11 w12 H.size) (kV_X9_outdate hE (e306 hE) rfl rfl ⟨(Nat.le_of_ble_eq_true rfl), (Nat.le_of_ble_eq_true rfl)⟩) [0] rfl (by decide) rfl hl.1 rfl (lv_room (Nat.le_of_ble_eq_true rfl)) dX9_accept_8 ⟨(Nat.le_of_ble_eq_true rfl), (Nat.le_of_ble_eq_true rfl)⟩) hP hD hS hA [0] [1] rfl rfl (by decide) (by decide) (fun u2 H locs hP hD hS => ?_)
  have hP : va_P g.1 vwCl [(q13, .inr (10, [w14, .int 1, .int 1])), (q1, .inr (11, [.ref q13, w3, w4, w5, w6, w7, w8, w9, .int 0, .int 0, w12]))] H := hP
  have hD : va_D A [(q13, .inr (10, [w14, .int 1, .int 1])), (q1, .inr (11, [.ref q13, w3, w4, w5, w6, w7, w8, w9, .int 0, .int 0, w12]))] := hD
  exact x_vret hx hb hr hlocks hP hD hS hAe hsz (Nat.le_of_ble_eq_true rfl) (Nat.le_of_ble_eq_true rfl) (fun _ => 0) [0, 1] (by decide) rfl dX9_accept_11

set_option maxHeartbeats 4000000 in
set_option maxRecDepth 100000 in
theorem c125_X9_setSwing (l : Launch) (g : gG) (q1 q16 q20 q23 q25 q33 q41 q44 q47 q49 q50 q52 q53 q58 q63 q64 q65 q67 q68 q69 q70 : Nat) (x2 : Int32) (w6 w7 w8 w9 w10 w11 w12 w13 w14 w15 w30 w31 w32 w61 w62 : Value) (f21 : Nat → Option Nat) (f48 : Nat → Int32) (f51 : Nat → Int32) (f66 : Nat → Int32) (f71 : Nat → Int32) (hf22 : f21 1 = some q23) (hf24 : f21 0 = some q25) (h3 : (0 : Int32) ≤ x2) (h4 : x2 ≤ 50) (sz : Nat) : Met l yX9_setSwing [Cond.code yX9_setSwing cX9_setSwing 4 (some .int)] ({ frames := 5, cells := 0, slots := 0, locals := 148 } : Room) (va_Pc [.ref q1, .int x2] (PX g sz [(q70, .inl (g.2 0, 20, .inl f71)), (q69, .inl (g.2 0, 20, .inl f71)), (q68, .inl (g.2 0, 60, .inl f48)), (q67, .inl (g.2 0, 60, .inl f48)), (q65, .inl (g.2 0, 10, .inl f66)), (q64, .inl (g.2 0, 10, .inl f66)), (q63, .inl (g.2 0, 10, .inl f48)), (q58, .inl (g.2 0, 10, .inl f48)), (q52, .inr (9, [.ref q63, .ref q65, w61, w62])), (q53, .inr (9, [.ref q58, .ref q64, .int 1, .int 0])), (q50, .inl (g.2 0, 40, .inl f51)), (q49, .inl (g.2 0, 40, .inl f51)), (q47, .inl (g.2 0, 384, .inl f48)), (q44, .inl (g.2 0, 384, .inl f48)), (q33, .inr (5, [.ref q47, .ref q50])), (q41, .inr (5, [.ref q44, .ref q49])), (q25, .inr (8, [.ref q41, .ref q53, .ref q67, .ref q69, .int 0, .int 4, .int 0])), (q23, .inr (8, [.ref q33, .ref q52, .ref q68, .ref q70, w30, w31, w32])), (q20, .inl (g.2 3, 10, .inr (.inr (.inr (.inr f21))))), (q16, .inr (10, [.ref q20, .int 0, .int 0])), (q1, .inr (11, [.ref q16, w6, w7, w8, w9, w10, w11, w12, w13, w14, w15]))])) (QI g [(q70, .inl (g.2 0, 20, .inl f71)), (q69, .inl (g.2 0, 20, .inl f71)), (q68, .inl (g.2 0, 60, .inl f48)), (q67, .inl (g.2 0, 60, .inl f48)), (q65, .inl (g.2 0, 10, .inl f66)), (q64, .inl (g.2 0, 10, .inl f66)), (q63, .inl (g.2 0, 10, .inl f48)), (q58, .inl (g.2 0, 10, .inl f48)), (q52, .inr (9, [.ref q63, .ref q65, w61, w62])), (q53, .inr (9, [.ref q58, .ref q64, .int 1, .int 0])), (q50, .inl (g.2 0, 40, .inl f51)), (q49, .inl (g.2 0, 40, .inl f51)), (q47, .inl (g.2 0, 384, .inl f48)), (q44, .inl (g.2 0, 384, .inl f48)), (q33, .inr (5, [.ref q47, .ref q50])), (q41, .inr (5, [.ref q44, .ref q49])), (q25, .inr (8, [.ref q41, .ref q53, .ref q67, .ref q69, .int 0, .int 4, .int 0])), (q23, .inr (8, [.ref q33, .ref q52, .ref q68, .ref q70, w30, w31, w32])), (q20, .inl (g.2 3, 10, .inr (.inr (.inr (.inr f21))))), (q16, .inr (10, [.ref q20, .int 0, .int 0])), (q1, .inr (11, [.ref q16, w6, w7, w8, w9, w10, w11, w12, w13, w14, w15]))] sz 0 (fun _ => [(q20, .inl (g.2 3, 10, .inr (.inr (.inr (.inr f21))))), (q25, .inr (8, [.ref q41, .ref q53, .ref q67, .ref q69, .int 0, .int 4, .int 0])), (q23, .inr (8, [.ref q33, .ref q52, .ref q68, .ref q70, .int 0, .int 4, .int 0])), (q33, .inr (5, [.ref q47, .ref q50])), (q41, .inr (5, [.ref q44, .ref q49])), (q47, .inl (g.2 0, 384, .inl f48)), (q44, .inl (g.2 0, 384, .inl f48)), (q50, .inl (g.2 0, 40, .inl f51)), (q49, .inl (g.2 0, 40, .inl f51)), (q52, .inr (9, [.ref q63, .ref q65, .int 1, .int x2])), (q53, .inr (9, [.ref q58, .ref q64, .int 1, .int 0])), (q63, .inl (g.2 0, 10, .inl f48)), (q58, .inl (g.2 0, 10, .inl f48)), (q65, .inl (g.2 0, 10, .inl f66)), (q64, .inl (g.2 0, 10, .inl f66)), (q68, .inl (g.2 0, 60, .inl f48)), (q67, .inl (g.2 0, 60, .inl f48)), (q70, .inl (g.2 0, 20, .inl f71)), (q69, .inl (g.2 0, 20, .inl f71)), (q16, .inr (10, [.ref q20, .int 1, .int 1])), (q1, .inr (11, [.ref q16, w6, w7, w8, w9, w10, w11, w12, .int 0, .int 0, w15]))])) 0 0 (va_A [(q70, .inl (g.2 0, 20, .inl f71)), (q69, .inl (g.2 0, 20, .inl f71)), (q68, .inl (g.2 0, 60, .inl f48)), (q67, .inl (g.2 0, 60, .inl f48)), (q65, .inl (g.2 0, 10, .inl f66)), (q64, .inl (g.2 0, 10, .inl f66)), (q63, .inl (g.2 0, 10, .inl f48)), (q58, .inl (g.2 0, 10, .inl f48)), (q52, .inr (9, [.ref q63, .ref q65, w61, w62])), (q53, .inr (9, [.ref q58, .ref q64, .int 1, .int 0])), (q50, .inl (g.2 0, 40, .inl f51)), (q49, .inl (g.2 0, 40, .inl f51)), (q47, .inl (g.2 0, 384, .inl f48)), (q44, .inl (g.2 0, 384, .inl f48)), (q33, .inr (5, [.ref q47, .ref q50])), (q41, .inr (5, [.ref q44, .ref q49])), (q25, .inr (8, [.ref q41, .ref q53, .ref q67, .ref q69, .int 0, .int 4, .int 0])), (q23, .inr (8, [.ref q33, .ref q52, .ref q68, .ref q70, w30, w31, w32])), (q20, .inl (g.2 3, 10, .inr (.inr (.inr (.inr f21))))), (q16, .inr (10, [.ref q20, .int 0, .int 0])), (q1, .inr (11, [.ref q16, w6, w7, w8, w9, w10, w11, w12, w13, w14, w15]))] sz) := by
  refine ofN (by decide) (Nat.le_of_ble_eq_true rfl) rfl ?_
  intro p e s m args below meth c A ls hAe hsz hx hb hml hr hlocks hin hown hE hP hD hA hS hl
  have hown : s.vm.findClass RX9 = some m.cls := hown
  refine lv_iload_n hx hb dX9_setSwing_0 rfl (lv_at hl 1 rfl) ?_
  refine lv_iconst (v := 0) hx hb dX9_setSwing_1 (by decide) ?_
  refine lv_bipush (v := 50) hx hb dX9_setSwing_2 (by decide) ?_
  refine g0_v (rS (rest := []) hx hb hml hown hE hP hD (c112_X9_requireRange l g x2 h3 h4 s.heap.size) (kS_X9_requireRange hE (e636 hE) rfl rfl ⟨(Nat.le_of_ble_eq_true rfl), (Nat.le_of_ble_eq_true rfl)⟩) [] rfl (by decide) rfl hl.1 rfl (lv_room (Nat.le_of_ble_eq_true rfl)) dX9_setSwing_4 ⟨(Nat.le_of_ble_eq_true rfl), (Nat.le_of_ble_eq_true rfl)⟩) hP hD hS hA (fun u9 H locs hP hS => ?_)
  refine lv_aload_n hx hb dX9_setSwing_7 rfl (lv_at hl 0 rfl) ?_
  refine gf_RX9_12 hx hb hown hE hP 20 rfl rfl dX9_setSwing_8 ?_
  refine g_r (wr := [(q1, .inr (11, [.ref q16, w6, w7, w8, w9, w10, w11, w12, w13, w14, w15]))]) (rV (rest := []) hx hb hml hown hE hP hD 19 rfl rfl (c122_X8_draft l g q16 q20 q23 q25 q33 q41 q44 q47 q49 q50 q52 q53 q58 q63 q64 q65 q67 q68 q69 q70 (.int 0) w30 w31 w32 w61 w62 f21 f48 f51 f66 f71 (hf22) (hf24) H.size) (kV_X8_draft hE (e659 hE) rfl rfl ⟨(Nat.le_of_ble_eq_true rfl), (Nat.le_of_ble_eq_true rfl)⟩) [0, 1, 2, 3, 4, 5, 6, 7, 8, 9, 10, 11, 12, 13, 14, 15, 16, 17, 18, 19] rfl (by decide) rfl hl.1 rfl (lv_room (Nat.le_of_ble_eq_true rfl)) dX9_setSwing_11 ⟨(Nat.le_of_ble_eq_true rfl), (Nat.le_of_ble_eq_true rfl)⟩) hP hD hS hA [0, 1, 2, 3, 4, 5, 6, 7, 8, 9, 10, 11, 12, 13, 14, 15, 16, 17, 18, 19] [20] rfl rfl (by decide) (by decide) (fun u2 H locs hP hD hS => ?_)
  have hP : va_P g.1 vwCl [(q1, .inr (11, [.ref q16, w6, w7, w8, w9, w10, w11, w12, w13, w14, w15])), (q20, .inl (g.2 3, 10, .inr (.inr (.inr (.inr f21))))), (q16, .inr (10, [.ref q20, .int 0, .int 0])), (q25, .inr (8, [.ref q41, .ref q53, .ref q67, .ref q69, .int 0, .int 4, .int 0])), (q23, .inr (8, [.ref q33, .ref q52, .ref q68, .ref q70, .int 0, .int 4, .int 0])), (q33, .inr (5, [.ref q47, .ref q50])), (q41, .inr (5, [.ref q44, .ref q49])), (q47, .inl (g.2 0, 384, .inl f48)), (q44, .inl (g.2 0, 384, .inl f48)), (q50, .inl (g.2 0, 40, .inl f51)), (q49, .inl (g.2 0, 40, .inl f51)), (q52, .inr (9, [.ref q63, .ref q65, .int 1, .int 0])), (q53, .inr (9, [.ref q58, .ref q64, .int 1, .int 0])), (q63, .inl (g.2 0, 10, .inl f48)), (q58, .inl (g.2 0, 10, .inl f48)), (q65, .inl (g.2 0, 10, .inl f66)), (q64, .inl (g.2 0, 10, .inl f66)), (q68, .inl (g.2 0, 60, .inl f48)), (q67, .inl (g.2 0, 60, .inl f48)), (q70, .inl (g.2 0, 20, .inl f71)), (q69, .inl (g.2 0, 20, .inl f71))] H := hP
  have hD : va_D A [(q1, .inr (11, [.ref q16, w6, w7, w8, w9, w10, w11, w12, w13, w14, w15])), (q20, .inl (g.2 3, 10, .inr (.inr (.inr (.inr f21))))), (q16, .inr (10, [.ref q20, .int 0, .int 0])), (q25, .inr (8, [.ref q41, .ref q53, .ref q67, .ref q69, .int 0, .int 4, .int 0])), (q23, .inr (8, [.ref q33, .ref q52, .ref q68, .ref q70, .int 0, .int 4, .int 0])), (q33, .inr (5, [.ref q47, .ref q50])), (q41, .inr (5, [.ref q44, .ref q49])), (q47, .inl (g.2 0, 384, .inl f48)), (q44, .inl (g.2 0, 384, .inl f48)), (q50, .inl (g.2 0, 40, .inl f51)), (q49, .inl (g.2 0, 40, .inl f51)), (q52, .inr (9, [.ref q63, .ref q65, .int 1, .int 0])), (q53, .inr (9, [.ref q58, .ref q64, .int 1, .int 0])), (q63, .inl (g.2 0, 10, .inl f48)), (q58, .inl (g.2 0, 10, .inl f48)), (q65, .inl (g.2 0, 10, .inl f66)), (q64, .inl (g.2 0, 10, .inl f66)), (q68, .inl (g.2 0, 60, .inl f48)), (q67, .inl (g.2 0, 60, .inl f48)), (q70, .inl (g.2 0, 20, .inl f71)), (q69, .inl (g.2 0, 20, .inl f71))] := hD
  refine lv_astore_n (lv' := [(2, .ref q23), (0, .ref q1), (1, .int x2)]) hx hb dX9_setSwing_14 rfl hl (by decide) rfl (fun ls hl => ?_)
  refine lv_aload_n hx hb dX9_setSwing_15 rfl (lv_at hl 0 rfl) ?_
  refine gf_RX9_193 hx hb hown hE hP 4 rfl rfl dX9_setSwing_16 ?_
  refine gf_RX9_202 hx hb hown hE hP 11 rfl rfl dX9_setSwing_19 ?_
  refine lv_istore_n (lv' := [(3, .int 0), (2, .ref q23), (0, .ref q1), (1, .int x2)]) hx hb dX9_setSwing_22 rfl hl (by decide) rfl (fun ls hl => ?_)
  refine lv_aload_n hx hb dX9_setSwing_23 rfl (lv_at hl 1 rfl) ?_
  refine gf_RX9_193 hx hb hown hE hP 4 rfl rfl dX9_setSwing_24 ?_
  refine lv_iload_n hx hb dX9_setSwing_27 rfl (lv_at hl 3 rfl) ?_
  refine pf_RX9_202 (ws' := [(q1, .inr (11, [.ref q16, w6, w7, w8, w9, w10, w11, w12, w13, w14, w15])), (q20, .inl (g.2 3, 10, .inr (.inr (.inr (.inr f21))))), (q16, .inr (10, [.ref q20, .int 0, .int 0])), (q25, .inr (8, [.ref q41, .ref q53, .ref q67, .ref q69, .int 0, .int 4, .int 0])), (q23, .inr (8, [.ref q33, .ref q52, .ref q68, .ref q70, .int 0, .int 4, .int 0])), (q33, .inr (5, [.ref q47, .ref q50])), (q41, .inr (5, [.ref q44, .ref q49])), (q47, .inl (g.2 0, 384, .inl f48)), (q44, .inl (g.2 0, 384, .inl f48)), (q50, .inl (g.2 0, 40, .inl f51)), (q49, .inl (g.2 0, 40, .inl f51)), (q52, .inr (9, [.ref q63, .ref q65, .int 1, .int x2])), (q53, .inr (9, [.ref q58, .ref q64, .int 1, .int 0])), (q63, .inl (g.2 0, 10, .inl f48)), (q58, .inl (g.2 0, 10, .inl f48)), (q65, .inl (g.2 0, 10, .inl f66)), (q64, .inl (g.2 0, 10, .inl f66)), (q68, .inl (g.2 0, 60, .inl f48)), (q67, .inl (g.2 0, 60, .inl f48)), (q70, .inl (g.2 0, 20, .inl f71)), (q69, .inl (g.2 0, 20, .inl f71))]) hx hb hown hE hP hD hS 11 rfl rfl rfl (Nat.le_of_ble_eq_true rfl) dX9_setSwing_28 rfl (fun H locs hP hD hS => ?_)
  refine lv_aload_n hx hb dX9_setSwing_31 rfl (lv_at hl 2 rfl) ?_
  refine g_v (wr := [(q20, .inl (g.2 3, 10, .inr (.inr (.inr (.inr f21))))), (q25, .inr (8, [.ref q41, .ref q53, .ref q67, .ref q69, .int 0, .int 4, .int 0])), (q23, .inr (8, [.ref q33, .ref q52, .ref q68, .ref q70, .int 0, .int 4, .int 0])), (q33, .inr (5, [.ref q47, .ref q50])), (q41, .inr (5, [.ref q44, .ref q49])), (q47, .inl (g.2 0, 384, .inl f48)), (q44, .inl (g.2 0, 384, .inl f48)), (q50, .inl (g.2 0, 40, .inl f51)), (q49, .inl (g.2 0, 40, .inl f51)), (q52, .inr (9, [.ref q63, .ref q65, .int 1, .int x2])), (q53, .inr (9, [.ref q58, .ref q64, .int 1, .int 0])), (q63, .inl (g.2 0, 10, .inl f48)), (q58, .inl (g.2 0, 10, .inl f48)), (q65, .inl (g.2 0, 10, .inl f66)), (q64, .inl (g.2 0, 10, .inl f66)), (q68, .inl (g.2 0, 60, .inl f48)), (q67, .inl (g.2 0, 60, .inl f48)), (q70, .inl (g.2 0, 20, .inl f71)), (q69, .inl (g.2 0, 20, .inl f71))]) (rV (rest := []) hx hb hml hown hE hP hD 0 rfl rfl (c124_X9_accept l g q1 q16 w6 w7 w8 w9 w10 w11 w12 w13 w14 w15 (.ref q20) H.size) (kV_X9_accept hE (e718 hE) rfl rfl ⟨(Nat.le_of_ble_eq_true rfl), (Nat.le_of_ble_eq_true rfl)⟩) [2, 0] rfl (by decide) rfl hl.1 rfl (lv_room (Nat.le_of_ble_eq_true rfl)) dX9_setSwing_32 ⟨(Nat.le_of_ble_eq_true rfl), (Nat.le_of_ble_eq_true rfl)⟩) hP hD hS hA [2, 0] [1, 3, 4, 5, 6, 7, 8, 9, 10, 11, 12, 13, 14, 15, 16, 17, 18, 19, 20] rfl rfl (by decide) (by decide) (fun u3 H locs hP hD hS => ?_)
  have hP : va_P g.1 vwCl [(q20, .inl (g.2 3, 10, .inr (.inr (.inr (.inr f21))))), (q25, .inr (8, [.ref q41, .ref q53, .ref q67, .ref q69, .int 0, .int 4, .int 0])), (q23, .inr (8, [.ref q33, .ref q52, .ref q68, .ref q70, .int 0, .int 4, .int 0])), (q33, .inr (5, [.ref q47, .ref q50])), (q41, .inr (5, [.ref q44, .ref q49])), (q47, .inl (g.2 0, 384, .inl f48)), (q44, .inl (g.2 0, 384, .inl f48)), (q50, .inl (g.2 0, 40, .inl f51)), (q49, .inl (g.2 0, 40, .inl f51)), (q52, .inr (9, [.ref q63, .ref q65, .int 1, .int x2])), (q53, .inr (9, [.ref q58, .ref q64, .int 1, .int 0])), (q63, .inl (g.2 0, 10, .inl f48)), (q58, .inl (g.2 0, 10, .inl f48)), (q65, .inl (g.2 0, 10, .inl f66)), (q64, .inl (g.2 0, 10, .inl f66)), (q68, .inl (g.2 0, 60, .inl f48)), (q67, .inl (g.2 0, 60, .inl f48)), (q70, .inl (g.2 0, 20, .inl f71)), (q69, .inl (g.2 0, 20, .inl f71)), (q16, .inr (10, [.ref q20, .int 1, .int 1])), (q1, .inr (11, [.ref q16, w6, w7, w8, w9, w10, w11, w12, .int 0, .int 0, w15]))] H := hP
  have hD : va_D A [(q20, .inl (g.2 3, 10, .inr (.inr (.inr (.inr f21))))), (q25, .inr (8, [.ref q41, .ref q53, .ref q67, .ref q69, .int 0, .int 4, .int 0])), (q23, .inr (8, [.ref q33, .ref q52, .ref q68, .ref q70, .int 0, .int 4, .int 0])), (q33, .inr (5, [.ref q47, .ref q50])), (q41, .inr (5, [.ref q44, .ref q49])), (q47, .inl (g.2 0, 384, .inl f48)), (q44, .inl (g.2 0, 384, .inl f48)), (q50, .inl (g.2 0, 40, .inl f51)), (q49, .inl (g.2 0, 40, .inl f51)), (q52, .inr (9, [.ref q63, .ref q65, .int 1, .int x2])), (q53, .inr (9, [.ref q58, .ref q64, .int 1, .int 0])), (q63, .inl (g.2 0, 10, .inl f48)), (q58, .inl (g.2 0, 10, .inl f48)), (q65, .inl (g.2 0, 10, .inl f66)), (q64, .inl (g.2 0, 10, .inl f66)), (q68, .inl (g.2 0, 60, .inl f48)), (q67, .inl (g.2 0, 60, .inl f48)), (q70, .inl (g.2 0, 20, .inl f71)), (q69, .inl (g.2 0, 20, .inl f71)), (q16, .inr (10, [.ref q20, .int 1, .int 1])), (q1, .inr (11, [.ref q16, w6, w7, w8, w9, w10, w11, w12, .int 0, .int 0, w15]))] := hD
  refine lv_iload_n hx hb dX9_setSwing_35 rfl (lv_at hl 0 rfl) ?_
  exact x_zret hx hb hr rfl rfl hlocks hP hD hS hAe hsz (Nat.le_of_ble_eq_true rfl) (Nat.le_of_ble_eq_true rfl) (fun _ => 0) [0, 1, 2, 3, 4, 5, 6, 7, 8, 9, 10, 11, 12, 13, 14, 15, 16, 17, 18, 19, 20] (by decide) rfl dX9_setSwing_36

set_option maxHeartbeats 4000000 in
set_option maxRecDepth 100000 in
theorem c126_L_setSwing (l : Launch) (g : gG) (hlx : l.stackTraces = false) (q1 q3 q17 q21 q24 q26 q34 q42 q45 q48 q50 q51 q53 q54 q59 q64 q65 q66 q68 q69 q70 q71 : Nat) (x2 : Int32) (w7 w8 w9 w10 w11 w12 w13 w14 w15 w16 w31 w32 w33 w62 w63 : Value) (f22 : Nat → Option Nat) (f49 : Nat → Int32) (f52 : Nat → Int32) (f67 : Nat → Int32) (f72 : Nat → Int32) (f73 : Nat → Int64) (hf23 : f22 1 = some q24) (hf25 : f22 0 = some q26) (h4 : (0 : Int32) ≤ x2) (h5 : x2 ≤ 50) (sz : Nat) : Met l yL_setSwing [Cond.codeWith yL_setSwing cL_setSwing 4 (some .int) [(0, 9, 12, 15)]] ({ frames := 6, cells := 0, slots := 0, locals := 171 } : Room) (va_Pc [.ref q1, .int x2, .ref q3] (PZ g sz [(q3, .inl (g.2 1, 1, .inr (.inl f73))), (q71, .inl (g.2 0, 20, .inl f72)), (q70, .inl (g.2 0, 20, .inl f72)), (q69, .inl (g.2 0, 60, .inl f49)), (q68, .inl (g.2 0, 60, .inl f49)), (q66, .inl (g.2 0, 10, .inl f67)), (q65, .inl (g.2 0, 10, .inl f67)), (q64, .inl (g.2 0, 10, .inl f49)), (q59, .inl (g.2 0, 10, .inl f49)), (q53, .inr (9, [.ref q64, .ref q66, w62, w63])), (q54, .inr (9, [.ref q59, .ref q65, .int 1, .int 0])), (q51, .inl (g.2 0, 40, .inl f52)), (q50, .inl (g.2 0, 40, .inl f52)), (q48, .inl (g.2 0, 384, .inl f49)), (q45, .inl (g.2 0, 384, .inl f49)), (q34, .inr (5, [.ref q48, .ref q51])), (q42, .inr (5, [.ref q45, .ref q50])), (q26, .inr (8, [.ref q42, .ref q54, .ref q68, .ref q70, .int 0, .int 4, .int 0])), (q24, .inr (8, [.ref q34, .ref q53, .ref q69, .ref q71, w31, w32, w33])), (q21, .inl (g.2 3, 10, .inr (.inr (.inr (.inr f22))))), (q17, .inr (10, [.ref q21, .int 0, .int 0])), (q1, .inr (11, [.ref q17, w7, w8, w9, w10, w11, w12, w13, w14, w15, w16]))])) (QI g [(q3, .inl (g.2 1, 1, .inr (.inl f73))), (q71, .inl (g.2 0, 20, .inl f72)), (q70, .inl (g.2 0, 20, .inl f72)), (q69, .inl (g.2 0, 60, .inl f49)), (q68, .inl (g.2 0, 60, .inl f49)), (q66, .inl (g.2 0, 10, .inl f67)), (q65, .inl (g.2 0, 10, .inl f67)), (q64, .inl (g.2 0, 10, .inl f49)), (q59, .inl (g.2 0, 10, .inl f49)), (q53, .inr (9, [.ref q64, .ref q66, w62, w63])), (q54, .inr (9, [.ref q59, .ref q65, .int 1, .int 0])), (q51, .inl (g.2 0, 40, .inl f52)), (q50, .inl (g.2 0, 40, .inl f52)), (q48, .inl (g.2 0, 384, .inl f49)), (q45, .inl (g.2 0, 384, .inl f49)), (q34, .inr (5, [.ref q48, .ref q51])), (q42, .inr (5, [.ref q45, .ref q50])), (q26, .inr (8, [.ref q42, .ref q54, .ref q68, .ref q70, .int 0, .int 4, .int 0])), (q24, .inr (8, [.ref q34, .ref q53, .ref q69, .ref q71, w31, w32, w33])), (q21, .inl (g.2 3, 10, .inr (.inr (.inr (.inr f22))))), (q17, .inr (10, [.ref q21, .int 0, .int 0])), (q1, .inr (11, [.ref q17, w7, w8, w9, w10, w11, w12, w13, w14, w15, w16]))] sz 0 (fun _ => [(q3, .inl (g.2 1, 1, .inr (.inl (vp_updL f73 0 0))))])) 0 0 (va_A [(q3, .inl (g.2 1, 1, .inr (.inl f73))), (q71, .inl (g.2 0, 20, .inl f72)), (q70, .inl (g.2 0, 20, .inl f72)), (q69, .inl (g.2 0, 60, .inl f49)), (q68, .inl (g.2 0, 60, .inl f49)), (q66, .inl (g.2 0, 10, .inl f67)), (q65, .inl (g.2 0, 10, .inl f67)), (q64, .inl (g.2 0, 10, .inl f49)), (q59, .inl (g.2 0, 10, .inl f49)), (q53, .inr (9, [.ref q64, .ref q66, w62, w63])), (q54, .inr (9, [.ref q59, .ref q65, .int 1, .int 0])), (q51, .inl (g.2 0, 40, .inl f52)), (q50, .inl (g.2 0, 40, .inl f52)), (q48, .inl (g.2 0, 384, .inl f49)), (q45, .inl (g.2 0, 384, .inl f49)), (q34, .inr (5, [.ref q48, .ref q51])), (q42, .inr (5, [.ref q45, .ref q50])), (q26, .inr (8, [.ref q42, .ref q54, .ref q68, .ref q70, .int 0, .int 4, .int 0])), (q24, .inr (8, [.ref q34, .ref q53, .ref q69, .ref q71, w31, w32, w33])), (q21, .inl (g.2 3, 10, .inr (.inr (.inr (.inr f22))))), (q17, .inr (10, [.ref q21, .int 0, .int 0])), (q1, .inr (11, [.ref q17, w7, w8, w9, w10, w11, w12, w13, w14, w15, w16]))] sz) := by
  refine ofH (by decide) (Nat.le_of_ble_eq_true rfl) rfl ?_
  intro p e s m args below meth c A ls hAe hsz hx hb hml hr hlocks hin hown hE hP hD hA hS hl htb hz
  have hown : s.vm.findClass RL = some m.cls := hown
  refine lv_aload_n hx hb dL_setSwing_0 rfl (lv_at hl 2 rfl) ?_
  refine lv_iconst (v := 0) hx hb dL_setSwing_1 (by decide) ?_
  refine lv_aload_n hx hb dL_setSwing_2 rfl (lv_at hl 0 rfl) ?_
  refine lv_iload_n hx hb dL_setSwing_3 rfl (lv_at hl 1 rfl) ?_
  refine g_i (wr := [(q3, .inl (g.2 1, 1, .inr (.inl f73)))]) (rV (rest := [.int 0, .ref q3]) hx hb hml hown hE hP hD 21 rfl rfl (c125_X9_setSwing l g q1 q17 q21 q24 q26 q34 q42 q45 q48 q50 q51 q53 q54 q59 q64 q65 q66 q68 q69 q70 q71 x2 w7 w8 w9 w10 w11 w12 w13 w14 w15 w16 w31 w32 w33 w62 w63 f22 f49 f52 f67 f72 (hf23) (hf25) h4 h5 s.heap.size) (kV_X9_setSwing hE (e955 hE) rfl rfl ⟨(Nat.le_of_ble_eq_true rfl), (Nat.le_of_ble_eq_true rfl)⟩) [1, 2, 3, 4, 5, 6, 7, 8, 9, 10, 11, 12, 13, 14, 15, 16, 17, 18, 19, 20, 21] rfl (by decide) rfl hl.1 rfl (lv_room (Nat.le_of_ble_eq_true rfl)) dL_setSwing_4 ⟨(Nat.le_of_ble_eq_true rfl), (Nat.le_of_ble_eq_true rfl)⟩) hP hD hS hA [1, 2, 3, 4, 5, 6, 7, 8, 9, 10, 11, 12, 13, 14, 15, 16, 17, 18, 19, 20, 21] [0] rfl rfl (by decide) (by decide) (fun u1 H locs hP hD hS => ?_)
  have hP : va_P g.1 vwCl [(q3, .inl (g.2 1, 1, .inr (.inl f73))), (q21, .inl (g.2 3, 10, .inr (.inr (.inr (.inr f22))))), (q26, .inr (8, [.ref q42, .ref q54, .ref q68, .ref q70, .int 0, .int 4, .int 0])), (q24, .inr (8, [.ref q34, .ref q53, .ref q69, .ref q71, .int 0, .int 4, .int 0])), (q34, .inr (5, [.ref q48, .ref q51])), (q42, .inr (5, [.ref q45, .ref q50])), (q48, .inl (g.2 0, 384, .inl f49)), (q45, .inl (g.2 0, 384, .inl f49)), (q51, .inl (g.2 0, 40, .inl f52)), (q50, .inl (g.2 0, 40, .inl f52)), (q53, .inr (9, [.ref q64, .ref q66, .int 1, .int x2])), (q54, .inr (9, [.ref q59, .ref q65, .int 1, .int 0])), (q64, .inl (g.2 0, 10, .inl f49)), (q59, .inl (g.2 0, 10, .inl f49)), (q66, .inl (g.2 0, 10, .inl f67)), (q65, .inl (g.2 0, 10, .inl f67)), (q69, .inl (g.2 0, 60, .inl f49)), (q68, .inl (g.2 0, 60, .inl f49)), (q71, .inl (g.2 0, 20, .inl f72)), (q70, .inl (g.2 0, 20, .inl f72)), (q17, .inr (10, [.ref q21, .int 1, .int 1])), (q1, .inr (11, [.ref q17, w7, w8, w9, w10, w11, w12, w13, .int 0, .int 0, w16]))] H := hP
  have hD : va_D A [(q3, .inl (g.2 1, 1, .inr (.inl f73))), (q21, .inl (g.2 3, 10, .inr (.inr (.inr (.inr f22))))), (q26, .inr (8, [.ref q42, .ref q54, .ref q68, .ref q70, .int 0, .int 4, .int 0])), (q24, .inr (8, [.ref q34, .ref q53, .ref q69, .ref q71, .int 0, .int 4, .int 0])), (q34, .inr (5, [.ref q48, .ref q51])), (q42, .inr (5, [.ref q45, .ref q50])), (q48, .inl (g.2 0, 384, .inl f49)), (q45, .inl (g.2 0, 384, .inl f49)), (q51, .inl (g.2 0, 40, .inl f52)), (q50, .inl (g.2 0, 40, .inl f52)), (q53, .inr (9, [.ref q64, .ref q66, .int 1, .int x2])), (q54, .inr (9, [.ref q59, .ref q65, .int 1, .int 0])), (q64, .inl (g.2 0, 10, .inl f49)), (q59, .inl (g.2 0, 10, .inl f49)), (q66, .inl (g.2 0, 10, .inl f67)), (q65, .inl (g.2 0, 10, .inl f67)), (q69, .inl (g.2 0, 60, .inl f49)), (q68, .inl (g.2 0, 60, .inl f49)), (q71, .inl (g.2 0, 20, .inl f72)), (q70, .inl (g.2 0, 20, .inl f72)), (q17, .inr (10, [.ref q21, .int 1, .int 1])), (q1, .inr (11, [.ref q17, w7, w8, w9, w10, w11, w12, w13, .int 0, .int 0, w16]))] := hD
  refine lv_i2l (v := 0) hx hb dL_setSwing_7 (by decide) ?_
  refine x_last (ws' := [(q3, .inl (g.2 1, 1, .inr (.inl (vp_updL f73 0 0)))), (q21, .inl (g.2 3, 10, .inr (.inr (.inr (.inr f22))))), (q26, .inr (8, [.ref q42, .ref q54, .ref q68, .ref q70, .int 0, .int 4, .int 0])), (q24, .inr (8, [.ref q34, .ref q53, .ref q69, .ref q71, .int 0, .int 4, .int 0])), (q34, .inr (5, [.ref q48, .ref q51])), (q42, .inr (5, [.ref q45, .ref q50])), (q48, .inl (g.2 0, 384, .inl f49)), (q45, .inl (g.2 0, 384, .inl f49)), (q51, .inl (g.2 0, 40, .inl f52)), (q50, .inl (g.2 0, 40, .inl f52)), (q53, .inr (9, [.ref q64, .ref q66, .int 1, .int x2])), (q54, .inr (9, [.ref q59, .ref q65, .int 1, .int 0])), (q64, .inl (g.2 0, 10, .inl f49)), (q59, .inl (g.2 0, 10, .inl f49)), (q66, .inl (g.2 0, 10, .inl f67)), (q65, .inl (g.2 0, 10, .inl f67)), (q69, .inl (g.2 0, 60, .inl f49)), (q68, .inl (g.2 0, 60, .inl f49)), (q71, .inl (g.2 0, 20, .inl f72)), (q70, .inl (g.2 0, 20, .inl f72)), (q17, .inr (10, [.ref q21, .int 1, .int 1])), (q1, .inr (11, [.ref q17, w7, w8, w9, w10, w11, w12, w13, .int 0, .int 0, w16]))]) hx hb hE hP hD hS 0 rfl 0 (x_in (by decide)) (by decide) dL_setSwing_8 rfl (fun H locs hP hD hS => ?_)
  refine lv_goto (tgt := 15) hx hb dL_setSwing_9 (by decide) ?_
  refine lv_iconst (v := 0) hx hb dL_setSwing_15 (by decide) ?_
  exact x_zret hx hb hr rfl rfl hlocks hP hD hS hAe hsz (Nat.le_of_ble_eq_true rfl) (Nat.le_of_ble_eq_true rfl) (fun _ => 0) [0] (by decide) rfl dL_setSwing_16

set_option maxHeartbeats 4000000 in
set_option maxRecDepth 100000 in
theorem c127_X10_in (l : Launch) (g : gG) (x1 : Int32) (h2 : (0 : Int32) ≤ x1) (h3 : x1 ≤ 50) (sz : Nat) : Met l yX10_in [Cond.code yX10_in cX10_in 3 (some .boolean)] ({ frames := 0, cells := 0, slots := 0, locals := 0 } : Room) (va_Pc [.int x1, .int 0, .int 50] (PX g sz [])) (QI g [] sz 1 (fun _ => [])) 0 0 (va_A [] sz) := by
  refine ofN (by decide) (Nat.le_of_ble_eq_true rfl) rfl ?_
  intro p e s m args below meth c A ls hAe hsz hx hb hml hr hlocks hin hown hE hP hD hA hS hl
  have hown : s.vm.findClass RX10 = some m.cls := hown
  refine lv_iload_n hx hb dX10_in_0 rfl (lv_at hl 0 rfl) ?_
  refine lv_iload_n hx hb dX10_in_1 rfl (lv_at hl 1 rfl) ?_
  refine lv_icmp_lt (tgt := 14) hx hb dX10_in_2 (by decide) (fun h => absurd h (i_nlt h2)) (fun _ => ?_)
  refine lv_iload_n hx hb dX10_in_5 rfl (lv_at hl 0 rfl) ?_
  refine lv_iload_n hx hb dX10_in_6 rfl (lv_at hl 2 rfl) ?_
  refine lv_icmp_gt (tgt := 14) hx hb dX10_in_7 (by decide) (fun h => absurd h (i_nlt h3)) (fun _ => ?_)
  refine lv_iconst (v := 1) hx hb dX10_in_10 (by decide) ?_
  refine lv_goto (tgt := 15) hx hb dX10_in_11 (by decide) ?_
  exact x_zret hx hb hr rfl rfl hlocks hP hD hS hAe hsz (Nat.le_of_ble_eq_true rfl) (Nat.le_of_ble_eq_true rfl) (fun _ => 0) [] (by decide) rfl dX10_in_15

set_option maxHeartbeats 4000000 in
set_option maxRecDepth 100000 in
theorem c128_X10_putAside (l : Launch) (g : gG) (q1 q39 q40 : Nat) (w3 w5 w6 w7 w8 w9 w10 w11 w12 w13 w14 w15 w16 w17 w18 w19 w20 w21 w22 w23 w24 w25 w26 w27 w28 w29 w30 w31 w32 w33 w34 w35 w36 w37 w38 : Value) (f41 : Nat → Int32) (f42 : Nat → Int32) (sz : Nat) : Met l yX10_putAside [Cond.code yX10_putAside cX10_putAside 2 none] ({ frames := 0, cells := 0, slots := 0, locals := 0 } : Room) (va_Pc [.ref q1] (PX g sz [(q39, .inl (g.2 0, 497, .inl f42)), (q40, .inl (g.2 0, 497, .inl f41)), (q1, .inr (12, [.ref q40, w3, .ref q39, w5, w6, w7, w8, w9, w10, w11, w12, w13, w14, w15, w16, w17, w18, w19, w20, w21, w22, w23, w24, w25, w26, w27, w28, w29, w30, w31, w32, w33, w34, w35, w36, w37, w38]))])) (QV g [(q39, .inl (g.2 0, 497, .inl f42)), (q40, .inl (g.2 0, 497, .inl f41)), (q1, .inr (12, [.ref q40, w3, .ref q39, w5, w6, w7, w8, w9, w10, w11, w12, w13, w14, w15, w16, w17, w18, w19, w20, w21, w22, w23, w24, w25, w26, w27, w28, w29, w30, w31, w32, w33, w34, w35, w36, w37, w38]))] sz (fun _ => [(q39, .inl (g.2 0, 497, .inl (cpF 497 f41 f42))), (q40, .inl (g.2 0, 497, .inl f41)), (q1, .inr (12, [.ref q40, w3, .ref q39, w5, w6, w7, w8, w9, w10, w11, w12, w13, w14, w15, w16, w17, w18, w19, w20, w21, w22, w23, w24, w25, w26, w27, w28, w29, w30, w31, w32, w33, w34, w35, w36, w37, w38]))])) 0 0 (va_A [(q39, .inl (g.2 0, 497, .inl f42)), (q40, .inl (g.2 0, 497, .inl f41)), (q1, .inr (12, [.ref q40, w3, .ref q39, w5, w6, w7, w8, w9, w10, w11, w12, w13, w14, w15, w16, w17, w18, w19, w20, w21, w22, w23, w24, w25, w26, w27, w28, w29, w30, w31, w32, w33, w34, w35, w36, w37, w38]))] sz) := by
  refine ofN (by decide) (Nat.le_of_ble_eq_true rfl) rfl ?_
  intro p e s m args below meth c A ls hAe hsz hx hb hml hr hlocks hin hown hE hP hD hA hS hl
  have hown : s.vm.findClass RX10 = some m.cls := hown
  refine lv_iconst (v := 0) hx hb dX10_putAside_0 (by decide) ?_
  refine lv_istore_n (lv' := [(1, .int 0), (0, .ref q1)]) hx hb dX10_putAside_1 rfl hl (by decide) rfl (fun ls hl => ?_)
  refine x_loop (N := 497) (fun i H locs ls => va_P g.1 vwCl [(q39, .inl (g.2 0, 497, .inl (cpF i f41 f42))), (q40, .inl (g.2 0, 497, .inl f41)), (q1, .inr (12, [.ref q40, w3, .ref q39, w5, w6, w7, w8, w9, w10, w11, w12, w13, w14, w15, w16, w17, w18, w19, w20, w21, w22, w23, w24, w25, w26, w27, w28, w29, w30, w31, w32, w33, w34, w35, w36, w37, w38]))] H ∧ va_D A [(q39, .inl (g.2 0, 497, .inl (cpF i f41 f42))), (q40, .inl (g.2 0, 497, .inl f41)), (q1, .inr (12, [.ref q40, w3, .ref q39, w5, w6, w7, w8, w9, w10, w11, w12, w13, w14, w15, w16, w17, w18, w19, w20, w21, w22, w23, w24, w25, w26, w27, w28, w29, w30, w31, w32, w33, w34, w35, w36, w37, w38]))] ∧ va_S A s.heap H locs ∧ lv_has ls 2 [(1, .int (nI i)), (0, .ref q1)]) ⟨by rw [cpF_0]; exact hP, by rw [cpF_0]; exact hD, hS, by rw [nI_0]; exact hl⟩ (by
    intro i hi ih H locs ls hI
    obtain ⟨hP, hD, hS, hl⟩ := hI
    have hlp : nI i < 497 := nI_lt hi (by decide)
    refine lv_iload_n hx hb dX10_putAside_2 rfl (lv_at hl 0 rfl) ?_
    refine lv_sipush (v := 497) hx hb dX10_putAside_3 (by decide) ?_
    refine lv_icmp_ge (tgt := 27) hx hb dX10_putAside_6 (by decide) (fun h => absurd h (i_nle hlp)) (fun _ => ?_)
    refine lv_aload_n hx hb dX10_putAside_9 rfl (lv_at hl 1 rfl) ?_
    refine gf_RX10_16 hx hb hown hE hP 2 rfl rfl dX10_putAside_10 ?_
    refine lv_iload_n hx hb dX10_putAside_13 rfl (lv_at hl 0 rfl) ?_
    refine lv_aload_n hx hb dX10_putAside_14 rfl (lv_at hl 1 rfl) ?_
    refine gf_RX10_9 hx hb hown hE hP 2 rfl rfl dX10_putAside_15 ?_
    refine lv_iload_n hx hb dX10_putAside_18 rfl (lv_at hl 0 rfl) ?_
    refine x_iald (v := (f41 i)) hx hb hE hP 1 rfl i (vp_in_nI (by omega) (by decide)) (nI_clamp (by omega)) rfl dX10_putAside_19 ?_
    refine x_iast (ws' := [(q39, .inl (g.2 0, 497, .inl (cpF (i + 1) f41 f42))), (q40, .inl (g.2 0, 497, .inl f41)), (q1, .inr (12, [.ref q40, w3, .ref q39, w5, w6, w7, w8, w9, w10, w11, w12, w13, w14, w15, w16, w17, w18, w19, w20, w21, w22, w23, w24, w25, w26, w27, w28, w29, w30, w31, w32, w33, w34, w35, w36, w37, w38]))]) hx hb hE hP hD hS 0 rfl i (vp_in_nI (by omega) (by decide)) (nI_clamp (by omega)) dX10_putAside_20 (by rw [← cpF_s]; rfl) (fun H locs hP hD hS => ?_)
    refine lv_iinc (v := (nI (i + 1))) (lv' := [(1, .int (nI (i + 1))), (0, .ref q1)]) hx hb dX10_putAside_21 hl (k := 0) rfl (by rw [← nI_1]; rfl) (by decide) rfl (fun ls hl => ?_)
    refine lv_goto (tgt := 2) hx hb dX10_putAside_24 (by decide) ?_
    exact ih _ _ _ ⟨hP, hD, hS, lv_sub hl [0, 1] rfl⟩) (fun H locs ls hI => ?_)
  obtain ⟨hP, hD, hS, hl⟩ := hI
  have hP : va_P g.1 vwCl [(q39, .inl (g.2 0, 497, .inl (cpF 497 f41 f42))), (q40, .inl (g.2 0, 497, .inl f41)), (q1, .inr (12, [.ref q40, w3, .ref q39, w5, w6, w7, w8, w9, w10, w11, w12, w13, w14, w15, w16, w17, w18, w19, w20, w21, w22, w23, w24, w25, w26, w27, w28, w29, w30, w31, w32, w33, w34, w35, w36, w37, w38]))] H := hP
  have hD : va_D A [(q39, .inl (g.2 0, 497, .inl (cpF 497 f41 f42))), (q40, .inl (g.2 0, 497, .inl f41)), (q1, .inr (12, [.ref q40, w3, .ref q39, w5, w6, w7, w8, w9, w10, w11, w12, w13, w14, w15, w16, w17, w18, w19, w20, w21, w22, w23, w24, w25, w26, w27, w28, w29, w30, w31, w32, w33, w34, w35, w36, w37, w38]))] := hD
  have hl : lv_has ls 2 [(1, .int 497), (0, .ref q1)] := hl
  refine lv_iload_n hx hb dX10_putAside_2 rfl (lv_at hl 0 rfl) ?_
  refine lv_sipush (v := 497) hx hb dX10_putAside_3 (by decide) ?_
  refine lv_icmp_ge (tgt := 27) hx hb dX10_putAside_6 (by decide) (fun _ => ?_) (fun h => absurd (by decide) h)
  exact x_vret hx hb hr hlocks hP hD hS hAe hsz (Nat.le_of_ble_eq_true rfl) (Nat.le_of_ble_eq_true rfl) (fun _ => 0) [0, 1, 2] (by decide) rfl dX10_putAside_27

set_option maxHeartbeats 4000000 in
set_option maxRecDepth 100000 in
theorem c129_X10_keep (l : Launch) (g : gG) (q1 q39 q40 : Nat) (w2 w3 w5 w8 w9 w10 w11 w12 w13 w14 w15 w16 w17 w18 w19 w20 w21 w22 w23 w24 w25 w26 w27 w28 w29 w30 w31 w32 w33 w34 w35 w36 w37 w38 : Value) (f41 : Nat → Int32) (f42 : Nat → Int32) (sz : Nat) : Met l yX10_keep [Cond.code yX10_keep cX10_keep 2 none] ({ frames := 0, cells := 0, slots := 0, locals := 0 } : Room) (va_Pc [.ref q1] (PX g sz [(q39, .inl (g.2 0, 3976, .inl f42)), (q40, .inl (g.2 0, 497, .inl f41)), (q1, .inr (12, [w2, w3, .ref q40, w5, .ref q39, .int 0, w8, w9, w10, w11, w12, w13, w14, w15, w16, w17, w18, w19, w20, w21, w22, w23, w24, w25, w26, w27, w28, w29, w30, w31, w32, w33, w34, w35, w36, w37, w38]))])) (QV g [(q39, .inl (g.2 0, 3976, .inl f42)), (q40, .inl (g.2 0, 497, .inl f41)), (q1, .inr (12, [w2, w3, .ref q40, w5, .ref q39, .int 0, w8, w9, w10, w11, w12, w13, w14, w15, w16, w17, w18, w19, w20, w21, w22, w23, w24, w25, w26, w27, w28, w29, w30, w31, w32, w33, w34, w35, w36, w37, w38]))] sz (fun _ => [(q39, .inl (g.2 0, 3976, .inl (cpF 497 f41 f42))), (q40, .inl (g.2 0, 497, .inl f41)), (q1, .inr (12, [w2, w3, .ref q40, w5, .ref q39, .int 1, w8, w9, w10, w11, w12, w13, w14, w15, w16, w17, w18, w19, w20, w21, w22, w23, w24, w25, w26, w27, w28, w29, w30, w31, w32, w33, w34, w35, w36, w37, w38]))])) 0 0 (va_A [(q39, .inl (g.2 0, 3976, .inl f42)), (q40, .inl (g.2 0, 497, .inl f41)), (q1, .inr (12, [w2, w3, .ref q40, w5, .ref q39, .int 0, w8, w9, w10, w11, w12, w13, w14, w15, w16, w17, w18, w19, w20, w21, w22, w23, w24, w25, w26, w27, w28, w29, w30, w31, w32, w33, w34, w35, w36, w37, w38]))] sz) := by
  refine ofN (by decide) (Nat.le_of_ble_eq_true rfl) rfl ?_
  intro p e s m args below meth c A ls hAe hsz hx hb hml hr hlocks hin hown hE hP hD hA hS hl
  have hown : s.vm.findClass RX10 = some m.cls := hown
  refine lv_aload_n hx hb dX10_keep_0 rfl (lv_at hl 0 rfl) ?_
  refine gf_RX10_89 hx hb hown hE hP 2 rfl rfl dX10_keep_1 ?_
  refine lv_bipush (v := 8) hx hb dX10_keep_4 (by decide) ?_
  refine lv_icmp_ne (tgt := 50) hx hb dX10_keep_6 (by decide) (fun _ => ?_) (fun h => absurd (by decide) h)
  refine lv_iconst (v := 0) hx hb dX10_keep_50 (by decide) ?_
  refine lv_istore_n (lv' := [(1, .int 0), (0, .ref q1)]) hx hb dX10_keep_51 rfl hl (by decide) rfl (fun ls hl => ?_)
  refine x_loop (N := 497) (fun i H locs ls => va_P g.1 vwCl [(q39, .inl (g.2 0, 3976, .inl (cpF i f41 f42))), (q40, .inl (g.2 0, 497, .inl f41)), (q1, .inr (12, [w2, w3, .ref q40, w5, .ref q39, .int 0, w8, w9, w10, w11, w12, w13, w14, w15, w16, w17, w18, w19, w20, w21, w22, w23, w24, w25, w26, w27, w28, w29, w30, w31, w32, w33, w34, w35, w36, w37, w38]))] H ∧ va_D A [(q39, .inl (g.2 0, 3976, .inl (cpF i f41 f42))), (q40, .inl (g.2 0, 497, .inl f41)), (q1, .inr (12, [w2, w3, .ref q40, w5, .ref q39, .int 0, w8, w9, w10, w11, w12, w13, w14, w15, w16, w17, w18, w19, w20, w21, w22, w23, w24, w25, w26, w27, w28, w29, w30, w31, w32, w33, w34, w35, w36, w37, w38]))] ∧ va_S A s.heap H locs ∧ lv_has ls 2 [(1, .int (nI i)), (0, .ref q1)]) ⟨by rw [cpF_0]; exact hP, by rw [cpF_0]; exact hD, hS, by rw [nI_0]; exact hl⟩ (by
    intro i hi ih H locs ls hI
    obtain ⟨hP, hD, hS, hl⟩ := hI
    have hlp : nI i < 497 := nI_lt hi (by decide)
    refine lv_iload_n hx hb dX10_keep_52 rfl (lv_at hl 0 rfl) ?_
    refine lv_sipush (v := 497) hx hb dX10_keep_53 (by decide) ?_
    refine lv_icmp_ge (tgt := 86) hx hb dX10_keep_56 (by decide) (fun h => absurd h (i_nle hlp)) (fun _ => ?_)
    refine lv_aload_n hx hb dX10_keep_59 rfl (lv_at hl 1 rfl) ?_
    refine gf_RX10_19 hx hb hown hE hP 2 rfl rfl dX10_keep_60 ?_
    refine lv_sipush (v := 497) hx hb dX10_keep_63 (by decide) ?_
    refine lv_aload_n hx hb dX10_keep_66 rfl (lv_at hl 1 rfl) ?_
    refine gf_RX10_89 hx hb hown hE hP 2 rfl rfl dX10_keep_67 ?_
    refine x_imul (v := 0) hx hb dX10_keep_70 (by decide) ?_
    refine lv_iload_n hx hb dX10_keep_71 rfl (lv_at hl 0 rfl) ?_
    refine x_iadd (v := (nI i)) hx hb dX10_keep_72 (Int32.zero_add _) ?_
    refine lv_aload_n hx hb dX10_keep_73 rfl (lv_at hl 1 rfl) ?_
    refine gf_RX10_16 hx hb hown hE hP 2 rfl rfl dX10_keep_74 ?_
    refine lv_iload_n hx hb dX10_keep_77 rfl (lv_at hl 0 rfl) ?_
    refine x_iald (v := (f41 i)) hx hb hE hP 1 rfl i (vp_in_nI (by omega) (by decide)) (nI_clamp (by omega)) rfl dX10_keep_78 ?_
    refine x_iast (ws' := [(q39, .inl (g.2 0, 3976, .inl (cpF (i + 1) f41 f42))), (q40, .inl (g.2 0, 497, .inl f41)), (q1, .inr (12, [w2, w3, .ref q40, w5, .ref q39, .int 0, w8, w9, w10, w11, w12, w13, w14, w15, w16, w17, w18, w19, w20, w21, w22, w23, w24, w25, w26, w27, w28, w29, w30, w31, w32, w33, w34, w35, w36, w37, w38]))]) hx hb hE hP hD hS 0 rfl i (vp_in_nI (by omega) (by decide)) (nI_clamp (by omega)) dX10_keep_79 (by rw [← cpF_s]; rfl) (fun H locs hP hD hS => ?_)
    refine lv_iinc (v := (nI (i + 1))) (lv' := [(1, .int (nI (i + 1))), (0, .ref q1)]) hx hb dX10_keep_80 hl (k := 0) rfl (by rw [← nI_1]; rfl) (by decide) rfl (fun ls hl => ?_)
    refine lv_goto (tgt := 52) hx hb dX10_keep_83 (by decide) ?_
    exact ih _ _ _ ⟨hP, hD, hS, lv_sub hl [0, 1] rfl⟩) (fun H locs ls hI => ?_)
  obtain ⟨hP, hD, hS, hl⟩ := hI
  have hP : va_P g.1 vwCl [(q39, .inl (g.2 0, 3976, .inl (cpF 497 f41 f42))), (q40, .inl (g.2 0, 497, .inl f41)), (q1, .inr (12, [w2, w3, .ref q40, w5, .ref q39, .int 0, w8, w9, w10, w11, w12, w13, w14, w15, w16, w17, w18, w19, w20, w21, w22, w23, w24, w25, w26, w27, w28, w29, w30, w31, w32, w33, w34, w35, w36, w37, w38]))] H := hP
  have hD : va_D A [(q39, .inl (g.2 0, 3976, .inl (cpF 497 f41 f42))), (q40, .inl (g.2 0, 497, .inl f41)), (q1, .inr (12, [w2, w3, .ref q40, w5, .ref q39, .int 0, w8, w9, w10, w11, w12, w13, w14, w15, w16, w17, w18, w19, w20, w21, w22, w23, w24, w25, w26, w27, w28, w29, w30, w31, w32, w33, w34, w35, w36, w37, w38]))] := hD
  have hl : lv_has ls 2 [(1, .int 497), (0, .ref q1)] := hl
  refine lv_iload_n hx hb dX10_keep_52 rfl (lv_at hl 0 rfl) ?_
  refine lv_sipush (v := 497) hx hb dX10_keep_53 (by decide) ?_
  refine lv_icmp_ge (tgt := 86) hx hb dX10_keep_56 (by decide) (fun _ => ?_) (fun h => absurd (by decide) h)
  refine lv_aload_n hx hb dX10_keep_86 rfl (lv_at hl 1 rfl) ?_
  refine lv_dup hx hb dX10_keep_87 rfl ?_
  refine gf_RX10_89 hx hb hown hE hP 2 rfl rfl dX10_keep_88 ?_
  refine lv_iconst (v := 1) hx hb dX10_keep_91 (by decide) ?_
  refine x_iadd (v := 1) hx hb dX10_keep_92 (by decide) ?_
  refine pf_RX10_89 (ws' := [(q39, .inl (g.2 0, 3976, .inl (cpF 497 f41 f42))), (q40, .inl (g.2 0, 497, .inl f41)), (q1, .inr (12, [w2, w3, .ref q40, w5, .ref q39, .int 1, w8, w9, w10, w11, w12, w13, w14, w15, w16, w17, w18, w19, w20, w21, w22, w23, w24, w25, w26, w27, w28, w29, w30, w31, w32, w33, w34, w35, w36, w37, w38]))]) hx hb hown hE hP hD hS 2 rfl rfl rfl (Nat.le_of_ble_eq_true rfl) dX10_keep_93 rfl (fun H locs hP hD hS => ?_)
  exact x_vret hx hb hr hlocks hP hD hS hAe hsz (Nat.le_of_ble_eq_true rfl) (Nat.le_of_ble_eq_true rfl) (fun _ => 0) [0, 1, 2] (by decide) rfl dX10_keep_96

set_option maxHeartbeats 4000000 in
set_option maxRecDepth 100000 in
theorem c130_X10_keepNow (l : Launch) (g : gG) (q1 q39 q40 q43 : Nat) (w3 w5 w8 w9 w10 w11 w12 w13 w14 w15 w16 w17 w18 w19 w20 w21 w22 w23 w24 w25 w26 w27 w28 w29 w30 w31 w32 w33 w34 w35 w36 w37 w38 : Value) (f41 : Nat → Int32) (f42 : Nat → Int32) (sz : Nat) : Met l yX10_keepNow [Cond.code yX10_keepNow cX10_keepNow 1 none] ({ frames := 1, cells := 0, slots := 0, locals := 21 } : Room) (va_Pc [.ref q1] (PX g sz [(q43, .inl (g.2 0, 3976, .inl f42)), (q39, .inl (g.2 0, 497, .inl f42)), (q40, .inl (g.2 0, 497, .inl f41)), (q1, .inr (12, [.ref q40, w3, .ref q39, w5, .ref q43, .int 0, w8, w9, w10, w11, w12, w13, w14, w15, w16, w17, w18, w19, w20, w21, w22, w23, w24, w25, w26, w27, w28, w29, w30, w31, w32, w33, w34, w35, w36, w37, w38]))])) (QV g [(q43, .inl (g.2 0, 3976, .inl f42)), (q39, .inl (g.2 0, 497, .inl f42)), (q40, .inl (g.2 0, 497, .inl f41)), (q1, .inr (12, [.ref q40, w3, .ref q39, w5, .ref q43, .int 0, w8, w9, w10, w11, w12, w13, w14, w15, w16, w17, w18, w19, w20, w21, w22, w23, w24, w25, w26, w27, w28, w29, w30, w31, w32, w33, w34, w35, w36, w37, w38]))] sz (fun _ => [(q40, .inl (g.2 0, 497, .inl f41)), (q43, .inl (g.2 0, 3976, .inl (cpF 497 (cpF 497 f41 f42) f42))), (q39, .inl (g.2 0, 497, .inl (cpF 497 f41 f42))), (q1, .inr (12, [.ref q40, w3, .ref q39, w5, .ref q43, .int 1, w8, w9, w10, w11, w12, w13, w14, w15, w16, w17, w18, w19, w20, w21, w22, w23, w24, w25, w26, w27, w28, w29, w30, w31, w32, w33, w34, w35, w36, w37, w38]))])) 0 0 (va_A [(q43, .inl (g.2 0, 3976, .inl f42)), (q39, .inl (g.2 0, 497, .inl f42)), (q40, .inl (g.2 0, 497, .inl f41)), (q1, .inr (12, [.ref q40, w3, .ref q39, w5, .ref q43, .int 0, w8, w9, w10, w11, w12, w13, w14, w15, w16, w17, w18, w19, w20, w21, w22, w23, w24, w25, w26, w27, w28, w29, w30, w31, w32, w33, w34, w35, w36, w37, w38]))] sz) := by
  refine ofN (by decide) (Nat.le_of_ble_eq_true rfl) rfl ?_
  intro p e s m args below meth c A ls hAe hsz hx hb hml hr hlocks hin hown hE hP hD hA hS hl
  have hown : s.vm.findClass RX10 = some m.cls := hown
  refine lv_aload_n hx hb dX10_keepNow_0 rfl (lv_at hl 0 rfl) ?_
  refine g_v (wr := [(q43, .inl (g.2 0, 3976, .inl f42))]) (rV (rest := []) hx hb hml hown hE hP hD 3 rfl rfl (c128_X10_putAside l g q1 q39 q40 w3 w5 (.ref q43) (.int 0) w8 w9 w10 w11 w12 w13 w14 w15 w16 w17 w18 w19 w20 w21 w22 w23 w24 w25 w26 w27 w28 w29 w30 w31 w32 w33 w34 w35 w36 w37 w38 f41 f42 s.heap.size) (kV_X10_putAside hE (e1437 hE) rfl rfl ⟨(Nat.le_of_ble_eq_true rfl), (Nat.le_of_ble_eq_true rfl)⟩) [1, 2, 3] rfl (by decide) rfl hl.1 rfl (lv_room (Nat.le_of_ble_eq_true rfl)) dX10_keepNow_1 ⟨(Nat.le_of_ble_eq_true rfl), (Nat.le_of_ble_eq_true rfl)⟩) hP hD hS hA [1, 2, 3] [0] rfl rfl (by decide) (by decide) (fun u1 H locs hP hD hS => ?_)
  have hP : va_P g.1 vwCl [(q43, .inl (g.2 0, 3976, .inl f42)), (q39, .inl (g.2 0, 497, .inl (cpF 497 f41 f42))), (q40, .inl (g.2 0, 497, .inl f41)), (q1, .inr (12, [.ref q40, w3, .ref q39, w5, .ref q43, .int 0, w8, w9, w10, w11, w12, w13, w14, w15, w16, w17, w18, w19, w20, w21, w22, w23, w24, w25, w26, w27, w28, w29, w30, w31, w32, w33, w34, w35, w36, w37, w38]))] H := hP
  have hD : va_D A [(q43, .inl (g.2 0, 3976, .inl f42)), (q39, .inl (g.2 0, 497, .inl (cpF 497 f41 f42))), (q40, .inl (g.2 0, 497, .inl f41)), (q1, .inr (12, [.ref q40, w3, .ref q39, w5, .ref q43, .int 0, w8, w9, w10, w11, w12, w13, w14, w15, w16, w17, w18, w19, w20, w21, w22, w23, w24, w25, w26, w27, w28, w29, w30, w31, w32, w33, w34, w35, w36, w37, w38]))] := hD
  refine lv_aload_n hx hb dX10_keepNow_4 rfl (lv_at hl 0 rfl) ?_
  refine g_v (wr := [(q40, .inl (g.2 0, 497, .inl f41))]) (rV (rest := []) hx hb hml hown hE hP hD 3 rfl rfl (c129_X10_keep l g q1 q43 q39 (.ref q40) w3 w5 w8 w9 w10 w11 w12 w13 w14 w15 w16 w17 w18 w19 w20 w21 w22 w23 w24 w25 w26 w27 w28 w29 w30 w31 w32 w33 w34 w35 w36 w37 w38 (cpF 497 f41 f42) f42 H.size) (kV_X10_keep hE (e1478 hE) rfl rfl ⟨(Nat.le_of_ble_eq_true rfl), (Nat.le_of_ble_eq_true rfl)⟩) [0, 1, 3] rfl (by decide) rfl hl.1 rfl (lv_room (Nat.le_of_ble_eq_true rfl)) dX10_keepNow_5 ⟨(Nat.le_of_ble_eq_true rfl), (Nat.le_of_ble_eq_true rfl)⟩) hP hD hS hA [0, 1, 3] [2] rfl rfl (by decide) (by decide) (fun u2 H locs hP hD hS => ?_)
  have hP : va_P g.1 vwCl [(q40, .inl (g.2 0, 497, .inl f41)), (q43, .inl (g.2 0, 3976, .inl (cpF 497 (cpF 497 f41 f42) f42))), (q39, .inl (g.2 0, 497, .inl (cpF 497 f41 f42))), (q1, .inr (12, [.ref q40, w3, .ref q39, w5, .ref q43, .int 1, w8, w9, w10, w11, w12, w13, w14, w15, w16, w17, w18, w19, w20, w21, w22, w23, w24, w25, w26, w27, w28, w29, w30, w31, w32, w33, w34, w35, w36, w37, w38]))] H := hP
  have hD : va_D A [(q40, .inl (g.2 0, 497, .inl f41)), (q43, .inl (g.2 0, 3976, .inl (cpF 497 (cpF 497 f41 f42) f42))), (q39, .inl (g.2 0, 497, .inl (cpF 497 f41 f42))), (q1, .inr (12, [.ref q40, w3, .ref q39, w5, .ref q43, .int 1, w8, w9, w10, w11, w12, w13, w14, w15, w16, w17, w18, w19, w20, w21, w22, w23, w24, w25, w26, w27, w28, w29, w30, w31, w32, w33, w34, w35, w36, w37, w38]))] := hD
  exact x_vret hx hb hr hlocks hP hD hS hAe hsz (Nat.le_of_ble_eq_true rfl) (Nat.le_of_ble_eq_true rfl) (fun _ => 0) [0, 1, 2, 3] (by decide) rfl dX10_keepNow_8

set_option maxHeartbeats 4000000 in
set_option maxRecDepth 100000 in
theorem c131_X10_sets (l : Launch) (g : gG) (q1 q42 q43 q46 : Nat) (x2 : Int32) (w6 w8 w11 w12 w13 w14 w15 w16 w17 w18 w19 w20 w21 w22 w23 w24 w25 w26 w27 w28 w29 w30 w31 w32 w33 w34 w35 w36 w37 w38 w39 w40 w41 : Value) (f44 : Nat → Int32) (f45 : Nat → Int32) (hf47 : f44 494 = 0) (h3 : (0 : Int32) ≤ x2) (h4 : x2 ≤ 50) (sz : Nat) : Met l yX10_sets [Cond.code yX10_sets cX10_sets 7 (some .int)] ({ frames := 2, cells := 0, slots := 0, locals := 41 } : Room) (va_Pc [.ref q1, .int 494, .int x2, .int 0, .int 50, .int 1] (PX g sz [(q46, .inl (g.2 0, 3976, .inl f45)), (q42, .inl (g.2 0, 497, .inl f45)), (q43, .inl (g.2 0, 497, .inl f44)), (q1, .inr (12, [.ref q43, w6, .ref q42, w8, .ref q46, .int 0, w11, w12, w13, w14, w15, w16, w17, w18, w19, w20, w21, w22, w23, w24, w25, w26, w27, w28, w29, w30, w31, w32, w33, w34, w35, w36, w37, w38, w39, w40, w41]))])) (QI g [(q46, .inl (g.2 0, 3976, .inl f45)), (q42, .inl (g.2 0, 497, .inl f45)), (q43, .inl (g.2 0, 497, .inl f44)), (q1, .inr (12, [.ref q43, w6, .ref q42, w8, .ref q46, .int 0, w11, w12, w13, w14, w15, w16, w17, w18, w19, w20, w21, w22, w23, w24, w25, w26, w27, w28, w29, w30, w31, w32, w33, w34, w35, w36, w37, w38, w39, w40, w41]))] sz 0 (fun _ => [(q43, .inl (g.2 0, 497, .inl (upd f44 494 x2))), (q46, .inl (g.2 0, 3976, .inl (cpF 497 (cpF 497 f44 f45) f45))), (q42, .inl (g.2 0, 497, .inl (cpF 497 f44 f45))), (q1, .inr (12, [.ref q43, w6, .ref q42, w8, .ref q46, .int 1, .int 0, w12, w13, w14, w15, w16, w17, w18, w19, w20, w21, w22, w23, w24, w25, w26, w27, w28, w29, w30, w31, w32, w33, w34, w35, w36, w37, w38, w39, w40, w41]))])) 0 0 (va_A [(q46, .inl (g.2 0, 3976, .inl f45)), (q42, .inl (g.2 0, 497, .inl f45)), (q43, .inl (g.2 0, 497, .inl f44)), (q1, .inr (12, [.ref q43, w6, .ref q42, w8, .ref q46, .int 0, w11, w12, w13, w14, w15, w16, w17, w18, w19, w20, w21, w22, w23, w24, w25, w26, w27, w28, w29, w30, w31, w32, w33, w34, w35, w36, w37, w38, w39, w40, w41]))] sz) := by
  refine ofN (by decide) (Nat.le_of_ble_eq_true rfl) rfl ?_
  intro p e s m args below meth c A ls hAe hsz hx hb hml hr hlocks hin hown hE hP hD hA hS hl
  have hown : s.vm.findClass RX10 = some m.cls := hown
  refine lv_aload_n hx hb dX10_sets_0 rfl (lv_at hl 0 rfl) ?_
  refine lv_iload_n hx hb dX10_sets_1 rfl (lv_at hl 2 rfl) ?_
  refine lv_iload_n hx hb dX10_sets_2 rfl (lv_at hl 3 rfl) ?_
  refine lv_iload hx hb dX10_sets_3 (lv_at hl 4 rfl) ?_
  refine g0_i (rS (rest := [.ref q1]) hx hb hml hown hE hP hD (c127_X10_in l g x2 h3 h4 s.heap.size) (kS_X10_in hE (e1431 hE) rfl rfl ⟨(Nat.le_of_ble_eq_true rfl), (Nat.le_of_ble_eq_true rfl)⟩) [] rfl (by decide) rfl hl.1 rfl (lv_room (Nat.le_of_ble_eq_true rfl)) dX10_sets_5 ⟨(Nat.le_of_ble_eq_true rfl), (Nat.le_of_ble_eq_true rfl)⟩) hP hD hS hA (fun u9 H locs hP hS => ?_)
  refine lv_if_eq (tgt := 15) hx hb dX10_sets_8 (by decide) (fun h => absurd h (by decide)) (fun _ => ?_)
  refine lv_iconst (v := 0) hx hb dX10_sets_11 (by decide) ?_
  refine lv_goto (tgt := 17) hx hb dX10_sets_12 (by decide) ?_
  refine pf_RX10_86 (ws' := [(q46, .inl (g.2 0, 3976, .inl f45)), (q42, .inl (g.2 0, 497, .inl f45)), (q43, .inl (g.2 0, 497, .inl f44)), (q1, .inr (12, [.ref q43, w6, .ref q42, w8, .ref q46, .int 0, .int 0, w12, w13, w14, w15, w16, w17, w18, w19, w20, w21, w22, w23, w24, w25, w26, w27, w28, w29, w30, w31, w32, w33, w34, w35, w36, w37, w38, w39, w40, w41]))]) hx hb hown hE hP hD hS 3 rfl rfl rfl (Nat.le_of_ble_eq_true rfl) dX10_sets_17 rfl (fun H locs hP hD hS => ?_)
  refine lv_aload_n hx hb dX10_sets_20 rfl (lv_at hl 0 rfl) ?_
  refine gf_RX10_86 hx hb hown hE hP 3 rfl rfl dX10_sets_21 ?_
  refine lv_if_le (tgt := 29) hx hb dX10_sets_24 (by decide) (fun _ => ?_) (fun h => absurd (by decide) h)
  refine lv_aload_n hx hb dX10_sets_29 rfl (lv_at hl 0 rfl) ?_
  refine g_v (wr := []) (rV (rest := []) hx hb hml hown hE hP hD 3 rfl rfl (c130_X10_keepNow l g q1 q42 q43 q46 w6 w8 (.int 0) w12 w13 w14 w15 w16 w17 w18 w19 w20 w21 w22 w23 w24 w25 w26 w27 w28 w29 w30 w31 w32 w33 w34 w35 w36 w37 w38 w39 w40 w41 f44 f45 H.size) (kV_X10_keepNow hE (e1494 hE) rfl rfl ⟨(Nat.le_of_ble_eq_true rfl), (Nat.le_of_ble_eq_true rfl)⟩) [0, 1, 2, 3] rfl (by decide) rfl hl.1 rfl (lv_room (Nat.le_of_ble_eq_true rfl)) dX10_sets_30 ⟨(Nat.le_of_ble_eq_true rfl), (Nat.le_of_ble_eq_true rfl)⟩) hP hD hS hA [0, 1, 2, 3] [] rfl rfl (by decide) (by decide) (fun u2 H locs hP hD hS => ?_)
  have hP : va_P g.1 vwCl [(q43, .inl (g.2 0, 497, .inl f44)), (q46, .inl (g.2 0, 3976, .inl (cpF 497 (cpF 497 f44 f45) f45))), (q42, .inl (g.2 0, 497, .inl (cpF 497 f44 f45))), (q1, .inr (12, [.ref q43, w6, .ref q42, w8, .ref q46, .int 1, .int 0, w12, w13, w14, w15, w16, w17, w18, w19, w20, w21, w22, w23, w24, w25, w26, w27, w28, w29, w30, w31, w32, w33, w34, w35, w36, w37, w38, w39, w40, w41]))] H := hP
  have hD : va_D A [(q43, .inl (g.2 0, 497, .inl f44)), (q46, .inl (g.2 0, 3976, .inl (cpF 497 (cpF 497 f44 f45) f45))), (q42, .inl (g.2 0, 497, .inl (cpF 497 f44 f45))), (q1, .inr (12, [.ref q43, w6, .ref q42, w8, .ref q46, .int 1, .int 0, w12, w13, w14, w15, w16, w17, w18, w19, w20, w21, w22, w23, w24, w25, w26, w27, w28, w29, w30, w31, w32, w33, w34, w35, w36, w37, w38, w39, w40, w41]))] := hD
  refine lv_aload_n hx hb dX10_sets_33 rfl (lv_at hl 0 rfl) ?_
  refine gf_RX10_9 hx hb hown hE hP 3 rfl rfl dX10_sets_34 ?_
  refine lv_iload_n hx hb dX10_sets_37 rfl (lv_at hl 1 rfl) ?_
  refine x_iald (v := 0) hx hb hE hP 0 rfl 494 (x_in (by decide)) (by decide) hf47 dX10_sets_38 ?_
  refine lv_istore (lv' := [(6, .int 0), (0, .ref q1), (1, .int 494), (2, .int x2), (3, .int 0), (4, .int 50), (5, .int 1)]) hx hb dX10_sets_39 hl (by decide) rfl (fun ls hl => ?_)
  refine lv_aload_n hx hb dX10_sets_41 rfl (lv_at hl 1 rfl) ?_
  refine gf_RX10_9 hx hb hown hE hP 3 rfl rfl dX10_sets_42 ?_
  refine lv_iload_n hx hb dX10_sets_45 rfl (lv_at hl 2 rfl) ?_
  refine lv_iload_n hx hb dX10_sets_46 rfl (lv_at hl 3 rfl) ?_
  refine x_iast (ws' := [(q43, .inl (g.2 0, 497, .inl (upd f44 494 x2))), (q46, .inl (g.2 0, 3976, .inl (cpF 497 (cpF 497 f44 f45) f45))), (q42, .inl (g.2 0, 497, .inl (cpF 497 f44 f45))), (q1, .inr (12, [.ref q43, w6, .ref q42, w8, .ref q46, .int 1, .int 0, w12, w13, w14, w15, w16, w17, w18, w19, w20, w21, w22, w23, w24, w25, w26, w27, w28, w29, w30, w31, w32, w33, w34, w35, w36, w37, w38, w39, w40, w41]))]) hx hb hE hP hD hS 0 rfl 494 (x_in (by decide)) (by decide) dX10_sets_47 rfl (fun H locs hP hD hS => ?_)
  refine lv_iload hx hb dX10_sets_48 (lv_at hl 0 rfl) ?_
  exact x_zret hx hb hr rfl rfl hlocks hP hD hS hAe hsz (Nat.le_of_ble_eq_true rfl) (Nat.le_of_ble_eq_true rfl) (fun _ => 0) [0, 1, 2, 3] (by decide) rfl dX10_sets_50

set_option maxHeartbeats 4000000 in
set_option maxRecDepth 100000 in
theorem c132_X10_setSwing (l : Launch) (g : gG) (q1 q42 q43 q46 : Nat) (x2 : Int32) (w4 w6 w9 w10 w11 w12 w13 w14 w15 w16 w17 w18 w19 w20 w21 w22 w23 w24 w25 w26 w27 w28 w29 w30 w31 w32 w33 w34 w35 w36 w37 w38 w39 : Value) (f44 : Nat → Int32) (f45 : Nat → Int32) (hf47 : f44 494 = 0) (h40 : (0 : Int32) ≤ x2) (h41 : x2 ≤ 50) (sz : Nat) : Met l yX10_setSwing [Cond.code yX10_setSwing cX10_setSwing 2 (some .int)] ({ frames := 3, cells := 0, slots := 0, locals := 67 } : Room) (va_Pc [.ref q1, .int x2] (PX g sz [(q46, .inl (g.2 0, 3976, .inl f45)), (q42, .inl (g.2 0, 497, .inl f45)), (q43, .inl (g.2 0, 497, .inl f44)), (q1, .inr (12, [.ref q43, w4, .ref q42, w6, .ref q46, .int 0, w9, w10, w11, w12, w13, w14, w15, w16, w17, w18, w19, w20, w21, w22, w23, w24, w25, w26, w27, w28, w29, w30, w31, w32, w33, w34, w35, w36, w37, w38, w39]))])) (QI g [(q46, .inl (g.2 0, 3976, .inl f45)), (q42, .inl (g.2 0, 497, .inl f45)), (q43, .inl (g.2 0, 497, .inl f44)), (q1, .inr (12, [.ref q43, w4, .ref q42, w6, .ref q46, .int 0, w9, w10, w11, w12, w13, w14, w15, w16, w17, w18, w19, w20, w21, w22, w23, w24, w25, w26, w27, w28, w29, w30, w31, w32, w33, w34, w35, w36, w37, w38, w39]))] sz 0 (fun _ => [(q1, .inr (12, [.ref q43, w4, .ref q42, w6, .ref q46, .int 1, .int 0, w10, w11, w12, w13, w14, w15, w16, w17, w18, w19, w20, w21, w22, w23, w24, w25, w26, w27, w28, w29, w30, w31, w32, w33, w34, w35, w36, w37, w38, w39]))])) 0 0 (va_A [(q46, .inl (g.2 0, 3976, .inl f45)), (q42, .inl (g.2 0, 497, .inl f45)), (q43, .inl (g.2 0, 497, .inl f44)), (q1, .inr (12, [.ref q43, w4, .ref q42, w6, .ref q46, .int 0, w9, w10, w11, w12, w13, w14, w15, w16, w17, w18, w19, w20, w21, w22, w23, w24, w25, w26, w27, w28, w29, w30, w31, w32, w33, w34, w35, w36, w37, w38, w39]))] sz) := by
  refine ofN (by decide) (Nat.le_of_ble_eq_true rfl) rfl ?_
  intro p e s m args below meth c A ls hAe hsz hx hb hml hr hlocks hin hown hE hP hD hA hS hl
  have hown : s.vm.findClass RX10 = some m.cls := hown
  refine lv_aload_n hx hb dX10_setSwing_0 rfl (lv_at hl 0 rfl) ?_
  refine lv_sipush (v := 494) hx hb dX10_setSwing_1 (by decide) ?_
  refine lv_iload_n hx hb dX10_setSwing_4 rfl (lv_at hl 1 rfl) ?_
  refine lv_iconst (v := 0) hx hb dX10_setSwing_5 (by decide) ?_
  refine lv_bipush (v := 50) hx hb dX10_setSwing_6 (by decide) ?_
  refine lv_iconst (v := 1) hx hb dX10_setSwing_8 (by decide) ?_
  refine g_i (wr := []) (rV (rest := []) hx hb hml hown hE hP hD 3 rfl rfl (c131_X10_sets l g q1 q42 q43 q46 x2 w4 w6 w9 w10 w11 w12 w13 w14 w15 w16 w17 w18 w19 w20 w21 w22 w23 w24 w25 w26 w27 w28 w29 w30 w31 w32 w33 w34 w35 w36 w37 w38 w39 f44 f45 (hf47) h40 h41 s.heap.size) (kV_X10_sets hE (e1628 hE) rfl rfl ⟨(Nat.le_of_ble_eq_true rfl), (Nat.le_of_ble_eq_true rfl)⟩) [0, 1, 2, 3] rfl (by decide) rfl hl.1 rfl (lv_room (Nat.le_of_ble_eq_true rfl)) dX10_setSwing_9 ⟨(Nat.le_of_ble_eq_true rfl), (Nat.le_of_ble_eq_true rfl)⟩) hP hD hS hA [0, 1, 2, 3] [] rfl rfl (by decide) (by decide) (fun u1 H locs hP hD hS => ?_)
  have hP : va_P g.1 vwCl [(q43, .inl (g.2 0, 497, .inl (upd f44 494 x2))), (q46, .inl (g.2 0, 3976, .inl (cpF 497 (cpF 497 f44 f45) f45))), (q42, .inl (g.2 0, 497, .inl (cpF 497 f44 f45))), (q1, .inr (12, [.ref q43, w4, .ref q42, w6, .ref q46, .int 1, .int 0, w10, w11, w12, w13, w14, w15, w16, w17, w18, w19, w20, w21, w22, w23, w24, w25, w26, w27, w28, w29, w30, w31, w32, w33, w34, w35, w36, w37, w38, w39]))] H := hP
  have hD : va_D A [(q43, .inl (g.2 0, 497, .inl (upd f44 494 x2))), (q46, .inl (g.2 0, 3976, .inl (cpF 497 (cpF 497 f44 f45) f45))), (q42, .inl (g.2 0, 497, .inl (cpF 497 f44 f45))), (q1, .inr (12, [.ref q43, w4, .ref q42, w6, .ref q46, .int 1, .int 0, w10, w11, w12, w13, w14, w15, w16, w17, w18, w19, w20, w21, w22, w23, w24, w25, w26, w27, w28, w29, w30, w31, w32, w33, w34, w35, w36, w37, w38, w39]))] := hD
  exact x_zret hx hb hr rfl rfl hlocks hP hD hS hAe hsz (Nat.le_of_ble_eq_true rfl) (Nat.le_of_ble_eq_true rfl) (fun _ => 0) [3] (by decide) rfl dX10_setSwing_12

set_option maxHeartbeats 4000000 in
set_option maxRecDepth 100000 in
theorem c133_X9_requireRange (l : Launch) (g : gG) (hlx : l.stackTraces = false) (x1 : Int32) (h2 : (0 : Int32) ≤ x1) (h3 : (50 : Int32) < x1) (sz : Nat) : vx_Met l yX9_requireRange [Cond.code yX9_requireRange cX9_requireRange 3 none] ({ frames := 6, cells := 1, slots := 6, locals := 100 } : Room) (va_Pc [.int x1, .int 0, .int 50] (PZ g sz [])) NV (XW g [] sz "java/lang/IllegalArgumentException" []) 1 6 (va_A [] sz) := by
  refine ofX (by decide) (Nat.le_of_ble_eq_true rfl) rfl ?_
  intro p e s m args below meth c A ls hAe hsz hx hb hml hr hlocks hin hown hE hP hD hA hS hl hex hz
  have hown : s.vm.findClass RX9 = some m.cls := hown
  refine lv_iload_n hx hb dX9_requireRange_0 rfl (lv_at hl 0 rfl) ?_
  refine lv_iload_n hx hb dX9_requireRange_1 rfl (lv_at hl 1 rfl) ?_
  refine lv_icmp_lt (tgt := 10) hx hb dX9_requireRange_2 (by decide) (fun h => absurd h (i_nlt h2)) (fun _ => ?_)
  refine lv_iload_n hx hb dX9_requireRange_5 rfl (lv_at hl 0 rfl) ?_
  refine lv_iload_n hx hb dX9_requireRange_6 rfl (lv_at hl 2 rfl) ?_
  refine lv_icmp_le (tgt := 21) hx hb dX9_requireRange_7 (by decide) (fun h => absurd h (i_nle h3)) (fun _ => ?_)
  exact x_throwW (text := "a number is out of range") (names := ["java/lang/RuntimeException", "java/lang/Exception"]) hx hb hlx hown hE (by decide) (by decide) (e639 hE) (e20 hE) (by decide +kernel) (th_215 hE) tg_215_211 hz (by rw [hml]; exact hl.1) dX9_requireRange_10 dX9_requireRange_13 dX9_requireRange_14 dX9_requireRange_17 dX9_requireRange_20 hex (Nat.le_of_ble_eq_true rfl) (Nat.le_of_ble_eq_true rfl) (Nat.le_of_ble_eq_true rfl) (Nat.le_of_ble_eq_true rfl) hlocks hP hD hS hAe hsz (Nat.le_of_ble_eq_true rfl) (Nat.le_of_ble_eq_true rfl) [] (by decide) rfl

set_option maxHeartbeats 4000000 in
set_option maxRecDepth 100000 in
theorem c134_X9_setSwing (l : Launch) (g : gG) (hlx : l.stackTraces = false) (q1 : Nat) (x2 : Int32) (h3 : (0 : Int32) ≤ x2) (h4 : (50 : Int32) < x2) (sz : Nat) : vx_Met l yX9_setSwing [Cond.code yX9_setSwing cX9_setSwing 4 (some .int)] ({ frames := 7, cells := 1, slots := 6, locals := 122 } : Room) (va_Pc [.ref q1, .int x2] (PZ g sz [])) NI (XW g [] sz "java/lang/IllegalArgumentException" []) 1 6 (va_A [] sz) := by
  refine ofX (by decide) (Nat.le_of_ble_eq_true rfl) rfl ?_
  intro p e s m args below meth c A ls hAe hsz hx hb hml hr hlocks hin hown hE hP hD hA hS hl hex hz
  have hown : s.vm.findClass RX9 = some m.cls := hown
  refine lv_iload_n hx hb dX9_setSwing_0 rfl (lv_at hl 1 rfl) ?_
  refine lv_iconst (v := 0) hx hb dX9_setSwing_1 (by decide) ?_
  refine lv_bipush (v := 50) hx hb dX9_setSwing_2 (by decide) ?_
  refine gx_v (wr := []) (rSx (rest := []) hx hb hml hown hE hP hD hS hA hz (c133_X9_requireRange l g hlx x2 h3 h4 s.heap.size) (kS_X9_requireRange hE (e636 hE) rfl rfl ⟨(Nat.le_of_ble_eq_true rfl), (Nat.le_of_ble_eq_true rfl)⟩) [] rfl (by decide) rfl hl.1 rfl (lv_room (Nat.le_of_ble_eq_true rfl)) dX9_setSwing_4 ⟨(Nat.le_of_ble_eq_true rfl), (Nat.le_of_ble_eq_true rfl)⟩) hP hD hS hA [] [] rfl rfl (by decide) (by decide) (fun ce9 q9 H locs hP hD hS hq1 hq2 hq3 => ?_)
  exact x_out hex hlocks hq1 hq2 hq3 hP hD hS hAe hsz (Nat.le_of_ble_eq_true rfl) (Nat.le_of_ble_eq_true rfl) [] (by decide) rfl

set_option maxHeartbeats 4000000 in
set_option maxRecDepth 100000 in
theorem c135_L_setSwing (l : Launch) (g : gG) (hlx : l.stackTraces = false) (q1 q3 q16 q20 q23 q25 q33 q34 q35 q36 q44 q45 q46 q47 q50 q51 q54 q55 q62 q63 q68 q69 : Nat) (x2 : Int32) (w6 w7 w8 w9 w10 w11 w12 w13 w14 w15 w30 w31 w32 w66 w67 : Value) (f21 : Nat → Option Nat) (f56 : Nat → Int32) (f57 : Nat → Int32) (f70 : Nat → Int32) (f71 : Nat → Int32) (hf22 : f21 1 = some q23) (hf24 : f21 0 = some q25) (h4 : (0 : Int32) ≤ x2) (h72 : (50 : Int32) < x2) (sz : Nat) : Met l yL_setSwing [Cond.codeWith yL_setSwing cL_setSwing 4 (some .int) [(0, 9, 12, 15)]] ({ frames := 8, cells := 1, slots := 6, locals := 145 } : Room) (va_Pc [.ref q1, .int x2, .ref q3] (PZ g sz [(q36, .inl (g.2 0, 20, .inl f71)), (q47, .inl (g.2 0, 20, .inl f71)), (q35, .inl (g.2 0, 60, .inl f56)), (q46, .inl (g.2 0, 60, .inl f56)), (q69, .inl (g.2 0, 10, .inl f70)), (q63, .inl (g.2 0, 10, .inl f70)), (q68, .inl (g.2 0, 10, .inl f56)), (q62, .inl (g.2 0, 10, .inl f56)), (q34, .inr (9, [.ref q68, .ref q69, w66, w67])), (q45, .inr (9, [.ref q62, .ref q63, .int 1, .int 0])), (q55, .inl (g.2 0, 40, .inl f57)), (q51, .inl (g.2 0, 40, .inl f57)), (q54, .inl (g.2 0, 384, .inl f56)), (q50, .inl (g.2 0, 384, .inl f56)), (q33, .inr (5, [.ref q54, .ref q55])), (q44, .inr (5, [.ref q50, .ref q51])), (q25, .inr (8, [.ref q44, .ref q45, .ref q46, .ref q47, .int 0, .int 4, .int 0])), (q23, .inr (8, [.ref q33, .ref q34, .ref q35, .ref q36, w30, w31, w32])), (q20, .inl (g.2 3, 10, .inr (.inr (.inr (.inr f21))))), (q16, .inr (10, [.ref q20, .int 0, .int 0])), (q1, .inr (11, [.ref q16, w6, w7, w8, w9, w10, w11, w12, w13, w14, w15]))])) (QI g [(q36, .inl (g.2 0, 20, .inl f71)), (q47, .inl (g.2 0, 20, .inl f71)), (q35, .inl (g.2 0, 60, .inl f56)), (q46, .inl (g.2 0, 60, .inl f56)), (q69, .inl (g.2 0, 10, .inl f70)), (q63, .inl (g.2 0, 10, .inl f70)), (q68, .inl (g.2 0, 10, .inl f56)), (q62, .inl (g.2 0, 10, .inl f56)), (q34, .inr (9, [.ref q68, .ref q69, w66, w67])), (q45, .inr (9, [.ref q62, .ref q63, .int 1, .int 0])), (q55, .inl (g.2 0, 40, .inl f57)), (q51, .inl (g.2 0, 40, .inl f57)), (q54, .inl (g.2 0, 384, .inl f56)), (q50, .inl (g.2 0, 384, .inl f56)), (q33, .inr (5, [.ref q54, .ref q55])), (q44, .inr (5, [.ref q50, .ref q51])), (q25, .inr (8, [.ref q44, .ref q45, .ref q46, .ref q47, .int 0, .int 4, .int 0])), (q23, .inr (8, [.ref q33, .ref q34, .ref q35, .ref q36, w30, w31, w32])), (q20, .inl (g.2 3, 10, .inr (.inr (.inr (.inr f21))))), (q16, .inr (10, [.ref q20, .int 0, .int 0])), (q1, .inr (11, [.ref q16, w6, w7, w8, w9, w10, w11, w12, w13, w14, w15]))] sz 1 (fun _ => [])) 1 6 (va_A [(q36, .inl (g.2 0, 20, .inl f71)), (q47, .inl (g.2 0, 20, .inl f71)), (q35, .inl (g.2 0, 60, .inl f56)), (q46, .inl (g.2 0, 60, .inl f56)), (q69, .inl (g.2 0, 10, .inl f70)), (q63, .inl (g.2 0, 10, .inl f70)), (q68, .inl (g.2 0, 10, .inl f56)), (q62, .inl (g.2 0, 10, .inl f56)), (q34, .inr (9, [.ref q68, .ref q69, w66, w67])), (q45, .inr (9, [.ref q62, .ref q63, .int 1, .int 0])), (q55, .inl (g.2 0, 40, .inl f57)), (q51, .inl (g.2 0, 40, .inl f57)), (q54, .inl (g.2 0, 384, .inl f56)), (q50, .inl (g.2 0, 384, .inl f56)), (q33, .inr (5, [.ref q54, .ref q55])), (q44, .inr (5, [.ref q50, .ref q51])), (q25, .inr (8, [.ref q44, .ref q45, .ref q46, .ref q47, .int 0, .int 4, .int 0])), (q23, .inr (8, [.ref q33, .ref q34, .ref q35, .ref q36, w30, w31, w32])), (q20, .inl (g.2 3, 10, .inr (.inr (.inr (.inr f21))))), (q16, .inr (10, [.ref q20, .int 0, .int 0])), (q1, .inr (11, [.ref q16, w6, w7, w8, w9, w10, w11, w12, w13, w14, w15]))] sz) := by
  refine ofH (by decide) (Nat.le_of_ble_eq_true rfl) rfl ?_
  intro p e s m args below meth c A ls hAe hsz hx hb hml hr hlocks hin hown hE hP hD hA hS hl htb hz
  have hown : s.vm.findClass RL = some m.cls := hown
  refine lv_aload_n hx hb dL_setSwing_0 rfl (lv_at hl 2 rfl) ?_
  refine lv_iconst (v := 0) hx hb dL_setSwing_1 (by decide) ?_
  refine lv_aload_n hx hb dL_setSwing_2 rfl (lv_at hl 0 rfl) ?_
  refine lv_iload_n hx hb dL_setSwing_3 rfl (lv_at hl 1 rfl) ?_
  refine gx_i (wr := [(q36, .inl (g.2 0, 20, .inl f71)), (q47, .inl (g.2 0, 20, .inl f71)), (q35, .inl (g.2 0, 60, .inl f56)), (q46, .inl (g.2 0, 60, .inl f56)), (q69, .inl (g.2 0, 10, .inl f70)), (q63, .inl (g.2 0, 10, .inl f70)), (q68, .inl (g.2 0, 10, .inl f56)), (q62, .inl (g.2 0, 10, .inl f56)), (q34, .inr (9, [.ref q68, .ref q69, w66, w67])), (q45, .inr (9, [.ref q62, .ref q63, .int 1, .int 0])), (q55, .inl (g.2 0, 40, .inl f57)), (q51, .inl (g.2 0, 40, .inl f57)), (q54, .inl (g.2 0, 384, .inl f56)), (q50, .inl (g.2 0, 384, .inl f56)), (q33, .inr (5, [.ref q54, .ref q55])), (q44, .inr (5, [.ref q50, .ref q51])), (q25, .inr (8, [.ref q44, .ref q45, .ref q46, .ref q47, .int 0, .int 4, .int 0])), (q23, .inr (8, [.ref q33, .ref q34, .ref q35, .ref q36, w30, w31, w32])), (q20, .inl (g.2 3, 10, .inr (.inr (.inr (.inr f21))))), (q16, .inr (10, [.ref q20, .int 0, .int 0])), (q1, .inr (11, [.ref q16, w6, w7, w8, w9, w10, w11, w12, w13, w14, w15]))]) (rVx (rest := [.int 0, .ref q3]) hx hb hml hown hE hP hD hS hA hz 20 rfl rfl (c134_X9_setSwing l g hlx q1 x2 h4 h72 s.heap.size) (kV_X9_setSwing hE (e955 hE) rfl rfl ⟨(Nat.le_of_ble_eq_true rfl), (Nat.le_of_ble_eq_true rfl)⟩) [] rfl (by decide) rfl hl.1 rfl (lv_room (Nat.le_of_ble_eq_true rfl)) dL_setSwing_4 ⟨(Nat.le_of_ble_eq_true rfl), (Nat.le_of_ble_eq_true rfl)⟩) hP hD hS hA [] [0, 1, 2, 3, 4, 5, 6, 7, 8, 9, 10, 11, 12, 13, 14, 15, 16, 17, 18, 19, 20] rfl rfl (by decide) (by decide) (fun ce9 q9 H locs hP hD hS hq1 hq2 hq3 => ?_)
  have hP : va_P g.1 vwCl [(q36, .inl (g.2 0, 20, .inl f71)), (q47, .inl (g.2 0, 20, .inl f71)), (q35, .inl (g.2 0, 60, .inl f56)), (q46, .inl (g.2 0, 60, .inl f56)), (q69, .inl (g.2 0, 10, .inl f70)), (q63, .inl (g.2 0, 10, .inl f70)), (q68, .inl (g.2 0, 10, .inl f56)), (q62, .inl (g.2 0, 10, .inl f56)), (q34, .inr (9, [.ref q68, .ref q69, w66, w67])), (q45, .inr (9, [.ref q62, .ref q63, .int 1, .int 0])), (q55, .inl (g.2 0, 40, .inl f57)), (q51, .inl (g.2 0, 40, .inl f57)), (q54, .inl (g.2 0, 384, .inl f56)), (q50, .inl (g.2 0, 384, .inl f56)), (q33, .inr (5, [.ref q54, .ref q55])), (q44, .inr (5, [.ref q50, .ref q51])), (q25, .inr (8, [.ref q44, .ref q45, .ref q46, .ref q47, .int 0, .int 4, .int 0])), (q23, .inr (8, [.ref q33, .ref q34, .ref q35, .ref q36, w30, w31, w32])), (q20, .inl (g.2 3, 10, .inr (.inr (.inr (.inr f21))))), (q16, .inr (10, [.ref q20, .int 0, .int 0])), (q1, .inr (11, [.ref q16, w6, w7, w8, w9, w10, w11, w12, w13, w14, w15]))] H := hP
  have hD : va_D A [(q36, .inl (g.2 0, 20, .inl f71)), (q47, .inl (g.2 0, 20, .inl f71)), (q35, .inl (g.2 0, 60, .inl f56)), (q46, .inl (g.2 0, 60, .inl f56)), (q69, .inl (g.2 0, 10, .inl f70)), (q63, .inl (g.2 0, 10, .inl f70)), (q68, .inl (g.2 0, 10, .inl f56)), (q62, .inl (g.2 0, 10, .inl f56)), (q34, .inr (9, [.ref q68, .ref q69, w66, w67])), (q45, .inr (9, [.ref q62, .ref q63, .int 1, .int 0])), (q55, .inl (g.2 0, 40, .inl f57)), (q51, .inl (g.2 0, 40, .inl f57)), (q54, .inl (g.2 0, 384, .inl f56)), (q50, .inl (g.2 0, 384, .inl f56)), (q33, .inr (5, [.ref q54, .ref q55])), (q44, .inr (5, [.ref q50, .ref q51])), (q25, .inr (8, [.ref q44, .ref q45, .ref q46, .ref q47, .int 0, .int 4, .int 0])), (q23, .inr (8, [.ref q33, .ref q34, .ref q35, .ref q36, w30, w31, w32])), (q20, .inl (g.2 3, 10, .inr (.inr (.inr (.inr f21))))), (q16, .inr (10, [.ref q20, .int 0, .int 0])), (q1, .inr (11, [.ref q16, w6, w7, w8, w9, w10, w11, w12, w13, w14, w15]))] := hD
  refine x_catch (name := "java/lang/IllegalArgumentException") (hh := [(0, 9, 12, 15)]) (tgt := 12) hown htb [] ⟨0, 9, 12, 15⟩ [] rfl (fun _ h => nomatch h) rfl (by decide) (e611 hE) (e641 hE) hq1 hq2 hq3 rfl ?_
  refine lv_astore_n (lv' := [(3, .ref q9), (0, .ref q1), (1, .int x2), (2, .ref q3)]) hx hb dL_setSwing_12 rfl hl (by decide) rfl (fun ls hl => ?_)
  refine lv_iconst (v := 1) hx hb dL_setSwing_13 (by decide) ?_
  exact x_zret hx hb hr rfl rfl hlocks hP hD hS hAe hsz (Nat.le_of_ble_eq_true rfl) (Nat.le_of_ble_eq_true rfl) (fun _ => 0) [] (by decide) rfl dL_setSwing_14

set_option maxHeartbeats 4000000 in
set_option maxRecDepth 100000 in
theorem c136_X10_in (l : Launch) (g : gG) (x1 : Int32) (h2 : (0 : Int32) ≤ x1) (h3 : (50 : Int32) < x1) (sz : Nat) : Met l yX10_in [Cond.code yX10_in cX10_in 3 (some .boolean)] ({ frames := 0, cells := 0, slots := 0, locals := 0 } : Room) (va_Pc [.int x1, .int 0, .int 50] (PX g sz [])) (QI g [] sz 0 (fun _ => [])) 0 0 (va_A [] sz) := by
  refine ofN (by decide) (Nat.le_of_ble_eq_true rfl) rfl ?_
  intro p e s m args below meth c A ls hAe hsz hx hb hml hr hlocks hin hown hE hP hD hA hS hl
  have hown : s.vm.findClass RX10 = some m.cls := hown
  refine lv_iload_n hx hb dX10_in_0 rfl (lv_at hl 0 rfl) ?_
  refine lv_iload_n hx hb dX10_in_1 rfl (lv_at hl 1 rfl) ?_
  refine lv_icmp_lt (tgt := 14) hx hb dX10_in_2 (by decide) (fun h => absurd h (i_nlt h2)) (fun _ => ?_)
  refine lv_iload_n hx hb dX10_in_5 rfl (lv_at hl 0 rfl) ?_
  refine lv_iload_n hx hb dX10_in_6 rfl (lv_at hl 2 rfl) ?_
  refine lv_icmp_gt (tgt := 14) hx hb dX10_in_7 (by decide) (fun _ => ?_) (fun h => absurd h3 h)
  refine lv_iconst (v := 0) hx hb dX10_in_14 (by decide) ?_
  exact x_zret hx hb hr rfl rfl hlocks hP hD hS hAe hsz (Nat.le_of_ble_eq_true rfl) (Nat.le_of_ble_eq_true rfl) (fun _ => 0) [] (by decide) rfl dX10_in_15

set_option maxHeartbeats 4000000 in
set_option maxRecDepth 100000 in
theorem c137_X10_sets (l : Launch) (g : gG) (q1 : Nat) (x2 : Int32) (w5 w6 w7 w8 w9 w10 w11 w12 w13 w14 w15 w16 w17 w18 w19 w20 w21 w22 w23 w24 w25 w26 w27 w28 w29 w30 w31 w32 w33 w34 w35 w36 w37 w38 w39 w40 w41 : Value) (h3 : (0 : Int32) ≤ x2) (h4 : (50 : Int32) < x2) (sz : Nat) : Met l yX10_sets [Cond.code yX10_sets cX10_sets 7 (some .int)] ({ frames := 1, cells := 0, slots := 0, locals := 22 } : Room) (va_Pc [.ref q1, .int 494, .int x2, .int 0, .int 50, .int 1] (PX g sz [(q1, .inr (12, [w5, w6, w7, w8, w9, w10, w11, w12, w13, w14, w15, w16, w17, w18, w19, w20, w21, w22, w23, w24, w25, w26, w27, w28, w29, w30, w31, w32, w33, w34, w35, w36, w37, w38, w39, w40, w41]))])) (QI g [(q1, .inr (12, [w5, w6, w7, w8, w9, w10, w11, w12, w13, w14, w15, w16, w17, w18, w19, w20, w21, w22, w23, w24, w25, w26, w27, w28, w29, w30, w31, w32, w33, w34, w35, w36, w37, w38, w39, w40, w41]))] sz 0 (fun _ => [(q1, .inr (12, [w5, w6, w7, w8, w9, w10, .int 1, w12, w13, w14, w15, w16, w17, w18, w19, w20, w21, w22, w23, w24, w25, w26, w27, w28, w29, w30, w31, w32, w33, w34, w35, w36, w37, w38, w39, w40, w41]))])) 0 0 (va_A [(q1, .inr (12, [w5, w6, w7, w8, w9, w10, w11, w12, w13, w14, w15, w16, w17, w18, w19, w20, w21, w22, w23, w24, w25, w26, w27, w28, w29, w30, w31, w32, w33, w34, w35, w36, w37, w38, w39, w40, w41]))] sz) := by
  refine ofN (by decide) (Nat.le_of_ble_eq_true rfl) rfl ?_
  intro p e s m args below meth c A ls hAe hsz hx hb hml hr hlocks hin hown hE hP hD hA hS hl
  have hown : s.vm.findClass RX10 = some m.cls := hown
  refine lv_aload_n hx hb dX10_sets_0 rfl (lv_at hl 0 rfl) ?_
  refine lv_iload_n hx hb dX10_sets_1 rfl (lv_at hl 2 rfl) ?_
  refine lv_iload_n hx hb dX10_sets_2 rfl (lv_at hl 3 rfl) ?_
  refine lv_iload hx hb dX10_sets_3 (lv_at hl 4 rfl) ?_
  refine g0_i (rS (rest := [.ref q1]) hx hb hml hown hE hP hD (c136_X10_in l g x2 h3 h4 s.heap.size) (kS_X10_in hE (e1431 hE) rfl rfl ⟨(Nat.le_of_ble_eq_true rfl), (Nat.le_of_ble_eq_true rfl)⟩) [] rfl (by decide) rfl hl.1 rfl (lv_room (Nat.le_of_ble_eq_true rfl)) dX10_sets_5 ⟨(Nat.le_of_ble_eq_true rfl), (Nat.le_of_ble_eq_true rfl)⟩) hP hD hS hA (fun u9 H locs hP hS => ?_)
  refine lv_if_eq (tgt := 15) hx hb dX10_sets_8 (by decide) (fun _ => ?_) (fun h => absurd (by decide) h)
  refine lv_iload hx hb dX10_sets_15 (lv_at hl 5 rfl) ?_
  refine pf_RX10_86 (ws' := [(q1, .inr (12, [w5, w6, w7, w8, w9, w10, .int 1, w12, w13, w14, w15, w16, w17, w18, w19, w20, w21, w22, w23, w24, w25, w26, w27, w28, w29, w30, w31, w32, w33, w34, w35, w36, w37, w38, w39, w40, w41]))]) hx hb hown hE hP hD hS 0 rfl rfl rfl (Nat.le_of_ble_eq_true rfl) dX10_sets_17 rfl (fun H locs hP hD hS => ?_)
  refine lv_aload_n hx hb dX10_sets_20 rfl (lv_at hl 0 rfl) ?_
  refine gf_RX10_86 hx hb hown hE hP 0 rfl rfl dX10_sets_21 ?_
  refine lv_if_le (tgt := 29) hx hb dX10_sets_24 (by decide) (fun h => absurd h (by decide)) (fun _ => ?_)
  refine lv_iconst (v := 0) hx hb dX10_sets_27 (by decide) ?_
  exact x_zret hx hb hr rfl rfl hlocks hP hD hS hAe hsz (Nat.le_of_ble_eq_true rfl) (Nat.le_of_ble_eq_true rfl) (fun _ => 0) [0] (by decide) rfl dX10_sets_28

set_option maxHeartbeats 4000000 in
set_option maxRecDepth 100000 in
theorem c138_X10_setSwing (l : Launch) (g : gG) (q1 q41 q42 q43 : Nat) (x2 : Int32) (w4 w6 w9 w10 w11 w12 w13 w14 w15 w16 w17 w18 w19 w20 w21 w22 w23 w24 w25 w26 w27 w28 w29 w30 w31 w32 w33 w34 w35 w36 w37 w38 w39 : Value) (f44 : Nat → Int32) (f46 : Nat → Int32) (hf45 : f44 494 = 0) (h40 : (0 : Int32) ≤ x2) (h47 : (50 : Int32) < x2) (sz : Nat) : Met l yX10_setSwing [Cond.code yX10_setSwing cX10_setSwing 2 (some .int)] ({ frames := 2, cells := 0, slots := 0, locals := 48 } : Room) (va_Pc [.ref q1, .int x2] (PX g sz [(q43, .inl (g.2 0, 3976, .inl f46)), (q42, .inl (g.2 0, 497, .inl f46)), (q41, .inl (g.2 0, 497, .inl f44)), (q1, .inr (12, [.ref q41, w4, .ref q42, w6, .ref q43, .int 0, w9, w10, w11, w12, w13, w14, w15, w16, w17, w18, w19, w20, w21, w22, w23, w24, w25, w26, w27, w28, w29, w30, w31, w32, w33, w34, w35, w36, w37, w38, w39]))])) (QI g [(q43, .inl (g.2 0, 3976, .inl f46)), (q42, .inl (g.2 0, 497, .inl f46)), (q41, .inl (g.2 0, 497, .inl f44)), (q1, .inr (12, [.ref q41, w4, .ref q42, w6, .ref q43, .int 0, w9, w10, w11, w12, w13, w14, w15, w16, w17, w18, w19, w20, w21, w22, w23, w24, w25, w26, w27, w28, w29, w30, w31, w32, w33, w34, w35, w36, w37, w38, w39]))] sz 0 (fun _ => [(q1, .inr (12, [.ref q41, w4, .ref q42, w6, .ref q43, .int 0, .int 1, w10, w11, w12, w13, w14, w15, w16, w17, w18, w19, w20, w21, w22, w23, w24, w25, w26, w27, w28, w29, w30, w31, w32, w33, w34, w35, w36, w37, w38, w39]))])) 0 0 (va_A [(q43, .inl (g.2 0, 3976, .inl f46)), (q42, .inl (g.2 0, 497, .inl f46)), (q41, .inl (g.2 0, 497, .inl f44)), (q1, .inr (12, [.ref q41, w4, .ref q42, w6, .ref q43, .int 0, w9, w10, w11, w12, w13, w14, w15, w16, w17, w18, w19, w20, w21, w22, w23, w24, w25, w26, w27, w28, w29, w30, w31, w32, w33, w34, w35, w36, w37, w38, w39]))] sz) := by
  refine ofN (by decide) (Nat.le_of_ble_eq_true rfl) rfl ?_
  intro p e s m args below meth c A ls hAe hsz hx hb hml hr hlocks hin hown hE hP hD hA hS hl
  have hown : s.vm.findClass RX10 = some m.cls := hown
  refine lv_aload_n hx hb dX10_setSwing_0 rfl (lv_at hl 0 rfl) ?_
  refine lv_sipush (v := 494) hx hb dX10_setSwing_1 (by decide) ?_
  refine lv_iload_n hx hb dX10_setSwing_4 rfl (lv_at hl 1 rfl) ?_
  refine lv_iconst (v := 0) hx hb dX10_setSwing_5 (by decide) ?_
  refine lv_bipush (v := 50) hx hb dX10_setSwing_6 (by decide) ?_
  refine lv_iconst (v := 1) hx hb dX10_setSwing_8 (by decide) ?_
  refine g_i (wr := [(q43, .inl (g.2 0, 3976, .inl f46)), (q42, .inl (g.2 0, 497, .inl f46)), (q41, .inl (g.2 0, 497, .inl f44))]) (rV (rest := []) hx hb hml hown hE hP hD 3 rfl rfl (c137_X10_sets l g q1 x2 (.ref q41) w4 (.ref q42) w6 (.ref q43) (.int 0) w9 w10 w11 w12 w13 w14 w15 w16 w17 w18 w19 w20 w21 w22 w23 w24 w25 w26 w27 w28 w29 w30 w31 w32 w33 w34 w35 w36 w37 w38 w39 h40 h47 s.heap.size) (kV_X10_sets hE (e1628 hE) rfl rfl ⟨(Nat.le_of_ble_eq_true rfl), (Nat.le_of_ble_eq_true rfl)⟩) [3] rfl (by decide) rfl hl.1 rfl (lv_room (Nat.le_of_ble_eq_true rfl)) dX10_setSwing_9 ⟨(Nat.le_of_ble_eq_true rfl), (Nat.le_of_ble_eq_true rfl)⟩) hP hD hS hA [3] [0, 1, 2] rfl rfl (by decide) (by decide) (fun u1 H locs hP hD hS => ?_)
  have hP : va_P g.1 vwCl [(q43, .inl (g.2 0, 3976, .inl f46)), (q42, .inl (g.2 0, 497, .inl f46)), (q41, .inl (g.2 0, 497, .inl f44)), (q1, .inr (12, [.ref q41, w4, .ref q42, w6, .ref q43, .int 0, .int 1, w10, w11, w12, w13, w14, w15, w16, w17, w18, w19, w20, w21, w22, w23, w24, w25, w26, w27, w28, w29, w30, w31, w32, w33, w34, w35, w36, w37, w38, w39]))] H := hP
  have hD : va_D A [(q43, .inl (g.2 0, 3976, .inl f46)), (q42, .inl (g.2 0, 497, .inl f46)), (q41, .inl (g.2 0, 497, .inl f44)), (q1, .inr (12, [.ref q41, w4, .ref q42, w6, .ref q43, .int 0, .int 1, w10, w11, w12, w13, w14, w15, w16, w17, w18, w19, w20, w21, w22, w23, w24, w25, w26, w27, w28, w29, w30, w31, w32, w33, w34, w35, w36, w37, w38, w39]))] := hD
  exact x_zret hx hb hr rfl rfl hlocks hP hD hS hAe hsz (Nat.le_of_ble_eq_true rfl) (Nat.le_of_ble_eq_true rfl) (fun _ => 0) [3] (by decide) rfl dX10_setSwing_12

set_option maxHeartbeats 4000000 in
set_option maxRecDepth 100000 in
theorem c139_X9_errorPosition (l : Launch) (g : gG) (hlx : l.stackTraces = false) (q1 : Nat) (w2 w3 w4 w5 w6 w7 w8 w9 w10 w11 : Value) (sz : Nat) : vx_Met l yX9_errorPosition [Cond.code yX9_errorPosition cX9_errorPosition 1 (some .int)] ({ frames := 6, cells := 1, slots := 6, locals := 100 } : Room) (va_Pc [.ref q1] (PZ g sz [(q1, .inr (11, [w2, w3, w4, w5, w6, w7, w8, w9, w10, w11, .int (-1)]))])) NI (XW g [(q1, .inr (11, [w2, w3, w4, w5, w6, w7, w8, w9, w10, w11, .int (-1)]))] sz "java/util/NoSuchElementException" [(q1, .inr (11, [w2, w3, w4, w5, w6, w7, w8, w9, w10, w11, .int (-1)]))]) 1 6 (va_A [(q1, .inr (11, [w2, w3, w4, w5, w6, w7, w8, w9, w10, w11, .int (-1)]))] sz) := by
  refine ofX (by decide) (Nat.le_of_ble_eq_true rfl) rfl ?_
  intro p e s m args below meth c A ls hAe hsz hx hb hml hr hlocks hin hown hE hP hD hA hS hl hex hz
  have hown : s.vm.findClass RX9 = some m.cls := hown
  refine lv_aload_n hx hb dX9_errorPosition_0 rfl (lv_at hl 0 rfl) ?_
  refine gf_RX9_66 hx hb hown hE hP 0 rfl rfl dX9_errorPosition_1 ?_
  refine lv_iconst (v := (-1)) hx hb dX9_errorPosition_4 (by decide) ?_
  refine lv_icmp_ne (tgt := 19) hx hb dX9_errorPosition_5 (by decide) (fun h => absurd h (by decide)) (fun _ => ?_)
  exact x_throwNW (text := "no error position was kept") hx hb hlx hown hE (e783 hE) (e23 hE) (by decide +kernel) hz (by rw [hml]; exact hl.1) dX9_errorPosition_8 dX9_errorPosition_11 dX9_errorPosition_12 dX9_errorPosition_15 dX9_errorPosition_18 hex (Nat.le_of_ble_eq_true rfl) (Nat.le_of_ble_eq_true rfl) (Nat.le_of_ble_eq_true rfl) (Nat.le_of_ble_eq_true rfl) hlocks hP hD hS hAe hsz (Nat.le_of_ble_eq_true rfl) (Nat.le_of_ble_eq_true rfl) [0] (by decide) rfl

set_option maxHeartbeats 4000000 in
set_option maxRecDepth 100000 in
theorem c140_L_errorPosition (l : Launch) (g : gG) (hlx : l.stackTraces = false) (q1 q2 : Nat) (w3 w4 w5 w6 w7 w8 w9 w10 w11 w12 : Value) (sz : Nat) : Met l yL_errorPosition [Cond.codeWith yL_errorPosition cL_errorPosition 3 (some .int) [(0, 8, 11, 39)]] ({ frames := 7, cells := 1, slots := 6, locals := 120 } : Room) (va_Pc [.ref q1, .ref q2] (PZ g sz [(q1, .inr (11, [w3, w4, w5, w6, w7, w8, w9, w10, w11, w12, .int (-1)]))])) (QI g [(q1, .inr (11, [w3, w4, w5, w6, w7, w8, w9, w10, w11, w12, .int (-1)]))] sz 1 (fun _ => [])) 1 6 (va_A [(q1, .inr (11, [w3, w4, w5, w6, w7, w8, w9, w10, w11, w12, .int (-1)]))] sz) := by
  refine ofH (by decide) (Nat.le_of_ble_eq_true rfl) rfl ?_
  intro p e s m args below meth c A ls hAe hsz hx hb hml hr hlocks hin hown hE hP hD hA hS hl htb hz
  have hown : s.vm.findClass RL = some m.cls := hown
  refine lv_aload_n hx hb dL_errorPosition_0 rfl (lv_at hl 1 rfl) ?_
  refine lv_iconst (v := 0) hx hb dL_errorPosition_1 (by decide) ?_
  refine lv_aload_n hx hb dL_errorPosition_2 rfl (lv_at hl 0 rfl) ?_
  refine gx_i (wr := []) (rVx (rest := [.int 0, .ref q2]) hx hb hml hown hE hP hD hS hA hz 0 rfl rfl (c139_X9_errorPosition l g hlx q1 w3 w4 w5 w6 w7 w8 w9 w10 w11 w12 s.heap.size) (kV_X9_errorPosition hE (e1237 hE) rfl rfl ⟨(Nat.le_of_ble_eq_true rfl), (Nat.le_of_ble_eq_true rfl)⟩) [0] rfl (by decide) rfl hl.1 rfl (lv_room (Nat.le_of_ble_eq_true rfl)) dL_errorPosition_3 ⟨(Nat.le_of_ble_eq_true rfl), (Nat.le_of_ble_eq_true rfl)⟩) hP hD hS hA [0] [] rfl rfl (by decide) (by decide) (fun ce9 q9 H locs hP hD hS hq1 hq2 hq3 => ?_)
  have hP : va_P g.1 vwCl [(q1, .inr (11, [w3, w4, w5, w6, w7, w8, w9, w10, w11, w12, .int (-1)]))] H := hP
  have hD : va_D A [(q1, .inr (11, [w3, w4, w5, w6, w7, w8, w9, w10, w11, w12, .int (-1)]))] := hD
  refine x_catch (name := "java/util/NoSuchElementException") (hh := [(0, 8, 11, 39)]) (tgt := 11) hown htb [] ⟨0, 8, 11, 39⟩ [] rfl (fun _ h => nomatch h) rfl (by decide) (e777 hE) (e785 hE) hq1 hq2 hq3 rfl ?_
  refine lv_astore_n (lv' := [(2, .ref q9), (0, .ref q1), (1, .ref q2)]) hx hb dL_errorPosition_11 rfl hl (by decide) rfl (fun ls hl => ?_)
  refine lv_iconst (v := 1) hx hb dL_errorPosition_12 (by decide) ?_
  exact x_zret hx hb hr rfl rfl hlocks hP hD hS hAe hsz (Nat.le_of_ble_eq_true rfl) (Nat.le_of_ble_eq_true rfl) (fun _ => 0) [] (by decide) rfl dL_errorPosition_13

set_option maxHeartbeats 4000000 in
set_option maxRecDepth 100000 in
theorem c141_X10_errorPosition (l : Launch) (g : gG) (q1 : Nat) (w2 w3 w4 w5 w6 w7 w8 w9 w10 w11 w12 w13 w14 w15 w16 w17 w18 w19 w20 w21 w22 w23 w24 w25 w26 w27 w28 w29 w30 w31 w32 w33 w35 w36 w37 w38 : Value) (sz : Nat) : Met l yX10_errorPosition [Cond.code yX10_errorPosition cX10_errorPosition 1 (some .int)] ({ frames := 0, cells := 0, slots := 0, locals := 0 } : Room) (va_Pc [.ref q1] (PX g sz [(q1, .inr (12, [w2, w3, w4, w5, w6, w7, w8, w9, w10, w11, w12, w13, w14, w15, w16, w17, w18, w19, w20, w21, w22, w23, w24, w25, w26, w27, w28, w29, w30, w31, w32, w33, .int (-1), w35, w36, w37, w38]))])) (QI g [(q1, .inr (12, [w2, w3, w4, w5, w6, w7, w8, w9, w10, w11, w12, w13, w14, w15, w16, w17, w18, w19, w20, w21, w22, w23, w24, w25, w26, w27, w28, w29, w30, w31, w32, w33, .int (-1), w35, w36, w37, w38]))] sz 0 (fun _ => [(q1, .inr (12, [w2, w3, w4, w5, w6, w7, .int 1, w9, w10, w11, w12, w13, w14, w15, w16, w17, w18, w19, w20, w21, w22, w23, w24, w25, w26, w27, w28, w29, w30, w31, w32, w33, .int (-1), w35, w36, w37, w38]))])) 0 0 (va_A [(q1, .inr (12, [w2, w3, w4, w5, w6, w7, w8, w9, w10, w11, w12, w13, w14, w15, w16, w17, w18, w19, w20, w21, w22, w23, w24, w25, w26, w27, w28, w29, w30, w31, w32, w33, .int (-1), w35, w36, w37, w38]))] sz) := by
  refine ofN (by decide) (Nat.le_of_ble_eq_true rfl) rfl ?_
  intro p e s m args below meth c A ls hAe hsz hx hb hml hr hlocks hin hown hE hP hD hA hS hl
  have hown : s.vm.findClass RX10 = some m.cls := hown
  refine lv_aload_n hx hb dX10_errorPosition_0 rfl (lv_at hl 0 rfl) ?_
  refine lv_aload_n hx hb dX10_errorPosition_1 rfl (lv_at hl 0 rfl) ?_
  refine gf_RX10_73 hx hb hown hE hP 0 rfl rfl dX10_errorPosition_2 ?_
  refine lv_if_ge (tgt := 12) hx hb dX10_errorPosition_5 (by decide) (fun h => absurd h (by decide)) (fun _ => ?_)
  refine lv_iconst (v := 1) hx hb dX10_errorPosition_8 (by decide) ?_
  refine lv_goto (tgt := 13) hx hb dX10_errorPosition_9 (by decide) ?_
  refine pf_RX10_86 (ws' := [(q1, .inr (12, [w2, w3, w4, w5, w6, w7, .int 1, w9, w10, w11, w12, w13, w14, w15, w16, w17, w18, w19, w20, w21, w22, w23, w24, w25, w26, w27, w28, w29, w30, w31, w32, w33, .int (-1), w35, w36, w37, w38]))]) hx hb hown hE hP hD hS 0 rfl rfl rfl (Nat.le_of_ble_eq_true rfl) dX10_errorPosition_13 rfl (fun H locs hP hD hS => ?_)
  refine lv_aload_n hx hb dX10_errorPosition_16 rfl (lv_at hl 0 rfl) ?_
  refine gf_RX10_86 hx hb hown hE hP 0 rfl rfl dX10_errorPosition_17 ?_
  refine lv_if_le (tgt := 27) hx hb dX10_errorPosition_20 (by decide) (fun h => absurd h (by decide)) (fun _ => ?_)
  refine lv_iconst (v := 0) hx hb dX10_errorPosition_23 (by decide) ?_
  refine lv_goto (tgt := 31) hx hb dX10_errorPosition_24 (by decide) ?_
  exact x_zret hx hb hr rfl rfl hlocks hP hD hS hAe hsz (Nat.le_of_ble_eq_true rfl) (Nat.le_of_ble_eq_true rfl) (fun _ => 0) [0] (by decide) rfl dX10_errorPosition_31

set_option maxHeartbeats 4000000 in
set_option maxRecDepth 100000 in
theorem c142_X9_save (l : Launch) (g : gG) (q1 q13 q14 q18 q21 q29 q30 q31 q32 q40 q41 q42 q43 q46 q47 q50 q51 q58 q59 q64 q65 : Nat) (w4 w5 w6 w7 w8 w9 w10 w11 w12 w17 w26 w27 w28 w62 w63 : Value) (f19 : Nat → Option Nat) (f52 : Nat → Int32) (f53 : Nat → Int32) (f66 : Nat → Int32) (f67 : Nat → Int32) (hf20 : f19 0 = some q21) (sz : Nat) : Met l yX9_save [Cond.code yX9_save cX9_save 1 (some .int)] ({ frames := 4, cells := 0, slots := 0, locals := 127 } : Room) (va_Pc [.ref q1] (PX g sz [(q32, .inl (g.2 0, 20, .inl f67)), (q43, .inl (g.2 0, 20, .inl f67)), (q31, .inl (g.2 0, 60, .inl f52)), (q42, .inl (g.2 0, 60, .inl f52)), (q65, .inl (g.2 0, 10, .inl f66)), (q59, .inl (g.2 0, 10, .inl f66)), (q64, .inl (g.2 0, 10, .inl f52)), (q58, .inl (g.2 0, 10, .inl f52)), (q30, .inr (9, [.ref q64, .ref q65, w62, w63])), (q41, .inr (9, [.ref q58, .ref q59, .int 1, .int 0])), (q51, .inl (g.2 0, 40, .inl f53)), (q47, .inl (g.2 0, 40, .inl f53)), (q50, .inl (g.2 0, 384, .inl f52)), (q46, .inl (g.2 0, 384, .inl f52)), (q29, .inr (5, [.ref q50, .ref q51])), (q40, .inr (5, [.ref q46, .ref q47])), (q21, .inr (8, [.ref q40, .ref q41, .ref q42, .ref q43, .int 0, .int 4, .int 0])), (q13, .inr (8, [.ref q29, .ref q30, .ref q31, .ref q32, w26, w27, w28])), (q18, .inl (g.2 3, 10, .inr (.inr (.inr (.inr f19))))), (q14, .inr (10, [.ref q18, .int 0, w17])), (q1, .inr (11, [.ref q14, .ref q13, w4, w5, w6, w7, w8, w9, w10, w11, w12]))])) (QI g [(q32, .inl (g.2 0, 20, .inl f67)), (q43, .inl (g.2 0, 20, .inl f67)), (q31, .inl (g.2 0, 60, .inl f52)), (q42, .inl (g.2 0, 60, .inl f52)), (q65, .inl (g.2 0, 10, .inl f66)), (q59, .inl (g.2 0, 10, .inl f66)), (q64, .inl (g.2 0, 10, .inl f52)), (q58, .inl (g.2 0, 10, .inl f52)), (q30, .inr (9, [.ref q64, .ref q65, w62, w63])), (q41, .inr (9, [.ref q58, .ref q59, .int 1, .int 0])), (q51, .inl (g.2 0, 40, .inl f53)), (q47, .inl (g.2 0, 40, .inl f53)), (q50, .inl (g.2 0, 384, .inl f52)), (q46, .inl (g.2 0, 384, .inl f52)), (q29, .inr (5, [.ref q50, .ref q51])), (q40, .inr (5, [.ref q46, .ref q47])), (q21, .inr (8, [.ref q40, .ref q41, .ref q42, .ref q43, .int 0, .int 4, .int 0])), (q13, .inr (8, [.ref q29, .ref q30, .ref q31, .ref q32, w26, w27, w28])), (q18, .inl (g.2 3, 10, .inr (.inr (.inr (.inr f19))))), (q14, .inr (10, [.ref q18, .int 0, w17])), (q1, .inr (11, [.ref q14, .ref q13, w4, w5, w6, w7, w8, w9, w10, w11, w12]))] sz 0 (fun _ => [])) 0 0 (va_A [(q32, .inl (g.2 0, 20, .inl f67)), (q43, .inl (g.2 0, 20, .inl f67)), (q31, .inl (g.2 0, 60, .inl f52)), (q42, .inl (g.2 0, 60, .inl f52)), (q65, .inl (g.2 0, 10, .inl f66)), (q59, .inl (g.2 0, 10, .inl f66)), (q64, .inl (g.2 0, 10, .inl f52)), (q58, .inl (g.2 0, 10, .inl f52)), (q30, .inr (9, [.ref q64, .ref q65, w62, w63])), (q41, .inr (9, [.ref q58, .ref q59, .int 1, .int 0])), (q51, .inl (g.2 0, 40, .inl f53)), (q47, .inl (g.2 0, 40, .inl f53)), (q50, .inl (g.2 0, 384, .inl f52)), (q46, .inl (g.2 0, 384, .inl f52)), (q29, .inr (5, [.ref q50, .ref q51])), (q40, .inr (5, [.ref q46, .ref q47])), (q21, .inr (8, [.ref q40, .ref q41, .ref q42, .ref q43, .int 0, .int 4, .int 0])), (q13, .inr (8, [.ref q29, .ref q30, .ref q31, .ref q32, w26, w27, w28])), (q18, .inl (g.2 3, 10, .inr (.inr (.inr (.inr f19))))), (q14, .inr (10, [.ref q18, .int 0, w17])), (q1, .inr (11, [.ref q14, .ref q13, w4, w5, w6, w7, w8, w9, w10, w11, w12]))] sz) := by
  refine ofN (by decide) (Nat.le_of_ble_eq_true rfl) rfl ?_
  intro p e s m args below meth c A ls hAe hsz hx hb hml hr hlocks hin hown hE hP hD hA hS hl
  have hown : s.vm.findClass RX9 = some m.cls := hown
  refine lv_aload_n hx hb dX9_save_0 rfl (lv_at hl 0 rfl) ?_
  refine gf_RX9_19 hx hb hown hE hP 20 rfl rfl dX9_save_1 ?_
  refine lv_aload_n hx hb dX9_save_4 rfl (lv_at hl 0 rfl) ?_
  refine gf_RX9_12 hx hb hown hE hP 20 rfl rfl dX9_save_5 ?_
  refine g_r (wr := [(q32, .inl (g.2 0, 20, .inl f67)), (q43, .inl (g.2 0, 20, .inl f67)), (q31, .inl (g.2 0, 60, .inl f52)), (q42, .inl (g.2 0, 60, .inl f52)), (q65, .inl (g.2 0, 10, .inl f66)), (q59, .inl (g.2 0, 10, .inl f66)), (q64, .inl (g.2 0, 10, .inl f52)), (q58, .inl (g.2 0, 10, .inl f52)), (q30, .inr (9, [.ref q64, .ref q65, w62, w63])), (q41, .inr (9, [.ref q58, .ref q59, .int 1, .int 0])), (q51, .inl (g.2 0, 40, .inl f53)), (q47, .inl (g.2 0, 40, .inl f53)), (q50, .inl (g.2 0, 384, .inl f52)), (q46, .inl (g.2 0, 384, .inl f52)), (q29, .inr (5, [.ref q50, .ref q51])), (q40, .inr (5, [.ref q46, .ref q47])), (q21, .inr (8, [.ref q40, .ref q41, .ref q42, .ref q43, .int 0, .int 4, .int 0])), (q13, .inr (8, [.ref q29, .ref q30, .ref q31, .ref q32, w26, w27, w28])), (q1, .inr (11, [.ref q14, .ref q13, w4, w5, w6, w7, w8, w9, w10, w11, w12]))]) (rV (rest := [.ref q13]) hx hb hml hown hE hP hD 19 rfl rfl (c79_X8_current l g q14 q18 q21 w17 f19 (hf20) s.heap.size) (kV_X8_current hE (e290 hE) rfl rfl ⟨(Nat.le_of_ble_eq_true rfl), (Nat.le_of_ble_eq_true rfl)⟩) [18, 19] rfl (by decide) rfl hl.1 rfl (lv_room (Nat.le_of_ble_eq_true rfl)) dX9_save_8 ⟨(Nat.le_of_ble_eq_true rfl), (Nat.le_of_ble_eq_true rfl)⟩) hP hD hS hA [18, 19] [0, 1, 2, 3, 4, 5, 6, 7, 8, 9, 10, 11, 12, 13, 14, 15, 16, 17, 20] rfl rfl (by decide) (by decide) (fun u1 H locs hP hD hS => ?_)
  have hP : va_P g.1 vwCl [(q32, .inl (g.2 0, 20, .inl f67)), (q43, .inl (g.2 0, 20, .inl f67)), (q31, .inl (g.2 0, 60, .inl f52)), (q42, .inl (g.2 0, 60, .inl f52)), (q65, .inl (g.2 0, 10, .inl f66)), (q59, .inl (g.2 0, 10, .inl f66)), (q64, .inl (g.2 0, 10, .inl f52)), (q58, .inl (g.2 0, 10, .inl f52)), (q30, .inr (9, [.ref q64, .ref q65, w62, w63])), (q41, .inr (9, [.ref q58, .ref q59, .int 1, .int 0])), (q51, .inl (g.2 0, 40, .inl f53)), (q47, .inl (g.2 0, 40, .inl f53)), (q50, .inl (g.2 0, 384, .inl f52)), (q46, .inl (g.2 0, 384, .inl f52)), (q29, .inr (5, [.ref q50, .ref q51])), (q40, .inr (5, [.ref q46, .ref q47])), (q21, .inr (8, [.ref q40, .ref q41, .ref q42, .ref q43, .int 0, .int 4, .int 0])), (q13, .inr (8, [.ref q29, .ref q30, .ref q31, .ref q32, w26, w27, w28])), (q1, .inr (11, [.ref q14, .ref q13, w4, w5, w6, w7, w8, w9, w10, w11, w12])), (q18, .inl (g.2 3, 10, .inr (.inr (.inr (.inr f19))))), (q14, .inr (10, [.ref q18, .int 0, w17]))] H := hP
  have hD : va_D A [(q32, .inl (g.2 0, 20, .inl f67)), (q43, .inl (g.2 0, 20, .inl f67)), (q31, .inl (g.2 0, 60, .inl f52)), (q42, .inl (g.2 0, 60, .inl f52)), (q65, .inl (g.2 0, 10, .inl f66)), (q59, .inl (g.2 0, 10, .inl f66)), (q64, .inl (g.2 0, 10, .inl f52)), (q58, .inl (g.2 0, 10, .inl f52)), (q30, .inr (9, [.ref q64, .ref q65, w62, w63])), (q41, .inr (9, [.ref q58, .ref q59, .int 1, .int 0])), (q51, .inl (g.2 0, 40, .inl f53)), (q47, .inl (g.2 0, 40, .inl f53)), (q50, .inl (g.2 0, 384, .inl f52)), (q46, .inl (g.2 0, 384, .inl f52)), (q29, .inr (5, [.ref q50, .ref q51])), (q40, .inr (5, [.ref q46, .ref q47])), (q21, .inr (8, [.ref q40, .ref q41, .ref q42, .ref q43, .int 0, .int 4, .int 0])), (q13, .inr (8, [.ref q29, .ref q30, .ref q31, .ref q32, w26, w27, w28])), (q1, .inr (11, [.ref q14, .ref q13, w4, w5, w6, w7, w8, w9, w10, w11, w12])), (q18, .inl (g.2 3, 10, .inr (.inr (.inr (.inr f19))))), (q14, .inr (10, [.ref q18, .int 0, w17]))] := hD
  refine g_v (wr := [(q1, .inr (11, [.ref q14, .ref q13, w4, w5, w6, w7, w8, w9, w10, w11, w12])), (q18, .inl (g.2 3, 10, .inr (.inr (.inr (.inr f19))))), (q14, .inr (10, [.ref q18, .int 0, w17]))]) (rV (rest := []) hx hb hml hown hE hP hD 17 rfl rfl (c121_X6_copyFrom l g q13 q21 q29 q40 q46 q50 q47 q51 q30 q41 q58 q64 q59 q65 q42 q31 q43 q32 w26 w27 w28 w62 w63 f52 f53 f66 f67 H.size) (kV_X6_copyFrom hE (e510 hE) rfl rfl ⟨(Nat.le_of_ble_eq_true rfl), (Nat.le_of_ble_eq_true rfl)⟩) [0, 1, 2, 3, 4, 5, 6, 7, 8, 9, 10, 11, 12, 13, 14, 15, 16, 17] rfl (by decide) rfl hl.1 rfl (lv_room (Nat.le_of_ble_eq_true rfl)) dX9_save_11 ⟨(Nat.le_of_ble_eq_true rfl), (Nat.le_of_ble_eq_true rfl)⟩) hP hD hS hA [0, 1, 2, 3, 4, 5, 6, 7, 8, 9, 10, 11, 12, 13, 14, 15, 16, 17] [18, 19, 20] rfl rfl (by decide) (by decide) (fun u2 H locs hP hD hS => ?_)
  have hP : va_P g.1 vwCl [(q1, .inr (11, [.ref q14, .ref q13, w4, w5, w6, w7, w8, w9, w10, w11, w12])), (q18, .inl (g.2 3, 10, .inr (.inr (.inr (.inr f19))))), (q14, .inr (10, [.ref q18, .int 0, w17])), (q21, .inr (8, [.ref q40, .ref q41, .ref q42, .ref q43, .int 0, .int 4, .int 0])), (q13, .inr (8, [.ref q29, .ref q30, .ref q31, .ref q32, .int 0, .int 4, .int 0])), (q29, .inr (5, [.ref q50, .ref q51])), (q40, .inr (5, [.ref q46, .ref q47])), (q50, .inl (g.2 0, 384, .inl f52)), (q46, .inl (g.2 0, 384, .inl f52)), (q51, .inl (g.2 0, 40, .inl f53)), (q47, .inl (g.2 0, 40, .inl f53)), (q30, .inr (9, [.ref q64, .ref q65, .int 1, .int 0])), (q41, .inr (9, [.ref q58, .ref q59, .int 1, .int 0])), (q64, .inl (g.2 0, 10, .inl f52)), (q58, .inl (g.2 0, 10, .inl f52)), (q65, .inl (g.2 0, 10, .inl f66)), (q59, .inl (g.2 0, 10, .inl f66)), (q31, .inl (g.2 0, 60, .inl f52)), (q42, .inl (g.2 0, 60, .inl f52)), (q32, .inl (g.2 0, 20, .inl f67)), (q43, .inl (g.2 0, 20, .inl f67))] H := hP
  have hD : va_D A [(q1, .inr (11, [.ref q14, .ref q13, w4, w5, w6, w7, w8, w9, w10, w11, w12])), (q18, .inl (g.2 3, 10, .inr (.inr (.inr (.inr f19))))), (q14, .inr (10, [.ref q18, .int 0, w17])), (q21, .inr (8, [.ref q40, .ref q41, .ref q42, .ref q43, .int 0, .int 4, .int 0])), (q13, .inr (8, [.ref q29, .ref q30, .ref q31, .ref q32, .int 0, .int 4, .int 0])), (q29, .inr (5, [.ref q50, .ref q51])), (q40, .inr (5, [.ref q46, .ref q47])), (q50, .inl (g.2 0, 384, .inl f52)), (q46, .inl (g.2 0, 384, .inl f52)), (q51, .inl (g.2 0, 40, .inl f53)), (q47, .inl (g.2 0, 40, .inl f53)), (q30, .inr (9, [.ref q64, .ref q65, .int 1, .int 0])), (q41, .inr (9, [.ref q58, .ref q59, .int 1, .int 0])), (q64, .inl (g.2 0, 10, .inl f52)), (q58, .inl (g.2 0, 10, .inl f52)), (q65, .inl (g.2 0, 10, .inl f66)), (q59, .inl (g.2 0, 10, .inl f66)), (q31, .inl (g.2 0, 60, .inl f52)), (q42, .inl (g.2 0, 60, .inl f52)), (q32, .inl (g.2 0, 20, .inl f67)), (q43, .inl (g.2 0, 20, .inl f67))] := hD
  refine lv_aload_n hx hb dX9_save_14 rfl (lv_at hl 0 rfl) ?_
  refine lv_iconst (v := 1) hx hb dX9_save_15 (by decide) ?_
  refine pf_RX9_56 (ws' := [(q1, .inr (11, [.ref q14, .ref q13, w4, w5, w6, w7, w8, .int 1, w10, w11, w12])), (q18, .inl (g.2 3, 10, .inr (.inr (.inr (.inr f19))))), (q14, .inr (10, [.ref q18, .int 0, w17])), (q21, .inr (8, [.ref q40, .ref q41, .ref q42, .ref q43, .int 0, .int 4, .int 0])), (q13, .inr (8, [.ref q29, .ref q30, .ref q31, .ref q32, .int 0, .int 4, .int 0])), (q29, .inr (5, [.ref q50, .ref q51])), (q40, .inr (5, [.ref q46, .ref q47])), (q50, .inl (g.2 0, 384, .inl f52)), (q46, .inl (g.2 0, 384, .inl f52)), (q51, .inl (g.2 0, 40, .inl f53)), (q47, .inl (g.2 0, 40, .inl f53)), (q30, .inr (9, [.ref q64, .ref q65, .int 1, .int 0])), (q41, .inr (9, [.ref q58, .ref q59, .int 1, .int 0])), (q64, .inl (g.2 0, 10, .inl f52)), (q58, .inl (g.2 0, 10, .inl f52)), (q65, .inl (g.2 0, 10, .inl f66)), (q59, .inl (g.2 0, 10, .inl f66)), (q31, .inl (g.2 0, 60, .inl f52)), (q42, .inl (g.2 0, 60, .inl f52)), (q32, .inl (g.2 0, 20, .inl f67)), (q43, .inl (g.2 0, 20, .inl f67))]) hx hb hown hE hP hD hS 0 rfl rfl rfl (Nat.le_of_ble_eq_true rfl) dX9_save_16 rfl (fun H locs hP hD hS => ?_)
  refine lv_aload_n hx hb dX9_save_19 rfl (lv_at hl 0 rfl) ?_
  refine gf_RX9_19 hx hb hown hE hP 0 rfl rfl dX9_save_20 ?_
  refine g_i (wr := [(q1, .inr (11, [.ref q14, .ref q13, w4, w5, w6, w7, w8, .int 1, w10, w11, w12])), (q18, .inl (g.2 3, 10, .inr (.inr (.inr (.inr f19))))), (q14, .inr (10, [.ref q18, .int 0, w17])), (q21, .inr (8, [.ref q40, .ref q41, .ref q42, .ref q43, .int 0, .int 4, .int 0])), (q29, .inr (5, [.ref q50, .ref q51])), (q40, .inr (5, [.ref q46, .ref q47])), (q50, .inl (g.2 0, 384, .inl f52)), (q46, .inl (g.2 0, 384, .inl f52)), (q51, .inl (g.2 0, 40, .inl f53)), (q47, .inl (g.2 0, 40, .inl f53)), (q30, .inr (9, [.ref q64, .ref q65, .int 1, .int 0])), (q41, .inr (9, [.ref q58, .ref q59, .int 1, .int 0])), (q64, .inl (g.2 0, 10, .inl f52)), (q58, .inl (g.2 0, 10, .inl f52)), (q65, .inl (g.2 0, 10, .inl f66)), (q59, .inl (g.2 0, 10, .inl f66)), (q31, .inl (g.2 0, 60, .inl f52)), (q42, .inl (g.2 0, 60, .inl f52)), (q32, .inl (g.2 0, 20, .inl f67)), (q43, .inl (g.2 0, 20, .inl f67))]) (rV (rest := []) hx hb hml hown hE hP hD 4 rfl rfl (c98_X6_clipCount l g q13 (.ref q29) (.ref q30) (.ref q31) (.ref q32) (.int 4) (.int 0) H.size) (kV_X6_clipCount hE (e297 hE) rfl rfl ⟨(Nat.le_of_ble_eq_true rfl), (Nat.le_of_ble_eq_true rfl)⟩) [4] rfl (by decide) rfl hl.1 rfl (lv_room (Nat.le_of_ble_eq_true rfl)) dX9_save_23 ⟨(Nat.le_of_ble_eq_true rfl), (Nat.le_of_ble_eq_true rfl)⟩) hP hD hS hA [4] [0, 1, 2, 3, 5, 6, 7, 8, 9, 10, 11, 12, 13, 14, 15, 16, 17, 18, 19, 20] rfl rfl (by decide) (by decide) (fun u3 H locs hP hD hS => ?_)
  have hP : va_P g.1 vwCl [(q1, .inr (11, [.ref q14, .ref q13, w4, w5, w6, w7, w8, .int 1, w10, w11, w12])), (q18, .inl (g.2 3, 10, .inr (.inr (.inr (.inr f19))))), (q14, .inr (10, [.ref q18, .int 0, w17])), (q21, .inr (8, [.ref q40, .ref q41, .ref q42, .ref q43, .int 0, .int 4, .int 0])), (q29, .inr (5, [.ref q50, .ref q51])), (q40, .inr (5, [.ref q46, .ref q47])), (q50, .inl (g.2 0, 384, .inl f52)), (q46, .inl (g.2 0, 384, .inl f52)), (q51, .inl (g.2 0, 40, .inl f53)), (q47, .inl (g.2 0, 40, .inl f53)), (q30, .inr (9, [.ref q64, .ref q65, .int 1, .int 0])), (q41, .inr (9, [.ref q58, .ref q59, .int 1, .int 0])), (q64, .inl (g.2 0, 10, .inl f52)), (q58, .inl (g.2 0, 10, .inl f52)), (q65, .inl (g.2 0, 10, .inl f66)), (q59, .inl (g.2 0, 10, .inl f66)), (q31, .inl (g.2 0, 60, .inl f52)), (q42, .inl (g.2 0, 60, .inl f52)), (q32, .inl (g.2 0, 20, .inl f67)), (q43, .inl (g.2 0, 20, .inl f67)), (q13, .inr (8, [.ref q29, .ref q30, .ref q31, .ref q32, .int 0, .int 4, .int 0]))] H := hP
  have hD : va_D A [(q1, .inr (11, [.ref q14, .ref q13, w4, w5, w6, w7, w8, .int 1, w10, w11, w12])), (q18, .inl (g.2 3, 10, .inr (.inr (.inr (.inr f19))))), (q14, .inr (10, [.ref q18, .int 0, w17])), (q21, .inr (8, [.ref q40, .ref q41, .ref q42, .ref q43, .int 0, .int 4, .int 0])), (q29, .inr (5, [.ref q50, .ref q51])), (q40, .inr (5, [.ref q46, .ref q47])), (q50, .inl (g.2 0, 384, .inl f52)), (q46, .inl (g.2 0, 384, .inl f52)), (q51, .inl (g.2 0, 40, .inl f53)), (q47, .inl (g.2 0, 40, .inl f53)), (q30, .inr (9, [.ref q64, .ref q65, .int 1, .int 0])), (q41, .inr (9, [.ref q58, .ref q59, .int 1, .int 0])), (q64, .inl (g.2 0, 10, .inl f52)), (q58, .inl (g.2 0, 10, .inl f52)), (q65, .inl (g.2 0, 10, .inl f66)), (q59, .inl (g.2 0, 10, .inl f66)), (q31, .inl (g.2 0, 60, .inl f52)), (q42, .inl (g.2 0, 60, .inl f52)), (q32, .inl (g.2 0, 20, .inl f67)), (q43, .inl (g.2 0, 20, .inl f67)), (q13, .inr (8, [.ref q29, .ref q30, .ref q31, .ref q32, .int 0, .int 4, .int 0]))] := hD
  exact x_zret hx hb hr rfl rfl hlocks hP hD hS hAe hsz (Nat.le_of_ble_eq_true rfl) (Nat.le_of_ble_eq_true rfl) (fun _ => 0) [] (by decide) rfl dX9_save_26

set_option maxHeartbeats 4000000 in
set_option maxRecDepth 100000 in
theorem c143_X10_save (l : Launch) (g : gG) (q1 q39 q40 : Nat) (w4 w5 w6 w7 w8 w9 w10 w11 w12 w13 w14 w15 w16 w17 w18 w19 w20 w21 w22 w23 w24 w25 w26 w27 w28 w29 w30 w31 w32 w33 w34 w35 w36 w37 w38 : Value) (f41 : Nat → Int32) (f42 : Nat → Int32) (hf43 : f41 392 = 0) (sz : Nat) : Met l yX10_save [Cond.code yX10_save cX10_save 2 (some .int)] ({ frames := 0, cells := 0, slots := 0, locals := 0 } : Room) (va_Pc [.ref q1] (PX g sz [(q39, .inl (g.2 0, 497, .inl f42)), (q40, .inl (g.2 0, 497, .inl f41)), (q1, .inr (12, [.ref q40, .ref q39, w4, w5, w6, w7, w8, w9, w10, w11, w12, w13, w14, w15, w16, w17, w18, w19, w20, w21, w22, w23, w24, w25, w26, w27, w28, w29, w30, w31, w32, w33, w34, w35, w36, w37, w38]))])) (QI g [(q39, .inl (g.2 0, 497, .inl f42)), (q40, .inl (g.2 0, 497, .inl f41)), (q1, .inr (12, [.ref q40, .ref q39, w4, w5, w6, w7, w8, w9, w10, w11, w12, w13, w14, w15, w16, w17, w18, w19, w20, w21, w22, w23, w24, w25, w26, w27, w28, w29, w30, w31, w32, w33, w34, w35, w36, w37, w38]))] sz 0 (fun _ => [(q1, .inr (12, [.ref q40, .ref q39, w4, .int 1, w6, w7, .int 0, w9, w10, w11, w12, w13, w14, w15, w16, w17, w18, w19, w20, w21, w22, w23, w24, w25, w26, w27, w28, w29, w30, w31, w32, w33, w34, w35, w36, w37, w38]))])) 0 0 (va_A [(q39, .inl (g.2 0, 497, .inl f42)), (q40, .inl (g.2 0, 497, .inl f41)), (q1, .inr (12, [.ref q40, .ref q39, w4, w5, w6, w7, w8, w9, w10, w11, w12, w13, w14, w15, w16, w17, w18, w19, w20, w21, w22, w23, w24, w25, w26, w27, w28, w29, w30, w31, w32, w33, w34, w35, w36, w37, w38]))] sz) := by
  refine ofN (by decide) (Nat.le_of_ble_eq_true rfl) rfl ?_
  intro p e s m args below meth c A ls hAe hsz hx hb hml hr hlocks hin hown hE hP hD hA hS hl
  have hown : s.vm.findClass RX10 = some m.cls := hown
  refine lv_aload_n hx hb dX10_save_0 rfl (lv_at hl 0 rfl) ?_
  refine lv_iconst (v := 0) hx hb dX10_save_1 (by decide) ?_
  refine pf_RX10_86 (ws' := [(q39, .inl (g.2 0, 497, .inl f42)), (q40, .inl (g.2 0, 497, .inl f41)), (q1, .inr (12, [.ref q40, .ref q39, w4, w5, w6, w7, .int 0, w9, w10, w11, w12, w13, w14, w15, w16, w17, w18, w19, w20, w21, w22, w23, w24, w25, w26, w27, w28, w29, w30, w31, w32, w33, w34, w35, w36, w37, w38]))]) hx hb hown hE hP hD hS 2 rfl rfl rfl (Nat.le_of_ble_eq_true rfl) dX10_save_2 rfl (fun H locs hP hD hS => ?_)
  refine lv_iconst (v := 0) hx hb dX10_save_5 (by decide) ?_
  refine lv_istore_n (lv' := [(1, .int 0), (0, .ref q1)]) hx hb dX10_save_6 rfl hl (by decide) rfl (fun ls hl => ?_)
  refine x_loop (N := 497) (fun i H locs ls => va_P g.1 vwCl [(q39, .inl (g.2 0, 497, .inl (cpF i f41 f42))), (q40, .inl (g.2 0, 497, .inl f41)), (q1, .inr (12, [.ref q40, .ref q39, w4, w5, w6, w7, .int 0, w9, w10, w11, w12, w13, w14, w15, w16, w17, w18, w19, w20, w21, w22, w23, w24, w25, w26, w27, w28, w29, w30, w31, w32, w33, w34, w35, w36, w37, w38]))] H ∧ va_D A [(q39, .inl (g.2 0, 497, .inl (cpF i f41 f42))), (q40, .inl (g.2 0, 497, .inl f41)), (q1, .inr (12, [.ref q40, .ref q39, w4, w5, w6, w7, .int 0, w9, w10, w11, w12, w13, w14, w15, w16, w17, w18, w19, w20, w21, w22, w23, w24, w25, w26, w27, w28, w29, w30, w31, w32, w33, w34, w35, w36, w37, w38]))] ∧ va_S A s.heap H locs ∧ lv_has ls 2 [(1, .int (nI i)), (0, .ref q1)]) ⟨by rw [cpF_0]; exact hP, by rw [cpF_0]; exact hD, hS, by rw [nI_0]; exact hl⟩ (by
    intro i hi ih H locs ls hI
    obtain ⟨hP, hD, hS, hl⟩ := hI
    have hlp : nI i < 497 := nI_lt hi (by decide)
    refine lv_iload_n hx hb dX10_save_7 rfl (lv_at hl 0 rfl) ?_
    refine lv_sipush (v := 497) hx hb dX10_save_8 (by decide) ?_
    refine lv_icmp_ge (tgt := 32) hx hb dX10_save_11 (by decide) (fun h => absurd h (i_nle hlp)) (fun _ => ?_)
    refine lv_aload_n hx hb dX10_save_14 rfl (lv_at hl 1 rfl) ?_
    refine gf_RX10_13 hx hb hown hE hP 2 rfl rfl dX10_save_15 ?_
    refine lv_iload_n hx hb dX10_save_18 rfl (lv_at hl 0 rfl) ?_
    refine lv_aload_n hx hb dX10_save_19 rfl (lv_at hl 1 rfl) ?_
    refine gf_RX10_9 hx hb hown hE hP 2 rfl rfl dX10_save_20 ?_
    refine lv_iload_n hx hb dX10_save_23 rfl (lv_at hl 0 rfl) ?_
    refine x_iald (v := (f41 i)) hx hb hE hP 1 rfl i (vp_in_nI (by omega) (by decide)) (nI_clamp (by omega)) rfl dX10_save_24 ?_
    refine x_iast (ws' := [(q39, .inl (g.2 0, 497, .inl (cpF (i + 1) f41 f42))), (q40, .inl (g.2 0, 497, .inl f41)), (q1, .inr (12, [.ref q40, .ref q39, w4, w5, w6, w7, .int 0, w9, w10, w11, w12, w13, w14, w15, w16, w17, w18, w19, w20, w21, w22, w23, w24, w25, w26, w27, w28, w29, w30, w31, w32, w33, w34, w35, w36, w37, w38]))]) hx hb hE hP hD hS 0 rfl i (vp_in_nI (by omega) (by decide)) (nI_clamp (by omega)) dX10_save_25 (by rw [← cpF_s]; rfl) (fun H locs hP hD hS => ?_)
    refine lv_iinc (v := (nI (i + 1))) (lv' := [(1, .int (nI (i + 1))), (0, .ref q1)]) hx hb dX10_save_26 hl (k := 0) rfl (by rw [← nI_1]; rfl) (by decide) rfl (fun ls hl => ?_)
    refine lv_goto (tgt := 7) hx hb dX10_save_29 (by decide) ?_
    exact ih _ _ _ ⟨hP, hD, hS, lv_sub hl [0, 1] rfl⟩) (fun H locs ls hI => ?_)
  obtain ⟨hP, hD, hS, hl⟩ := hI
  have hP : va_P g.1 vwCl [(q39, .inl (g.2 0, 497, .inl (cpF 497 f41 f42))), (q40, .inl (g.2 0, 497, .inl f41)), (q1, .inr (12, [.ref q40, .ref q39, w4, w5, w6, w7, .int 0, w9, w10, w11, w12, w13, w14, w15, w16, w17, w18, w19, w20, w21, w22, w23, w24, w25, w26, w27, w28, w29, w30, w31, w32, w33, w34, w35, w36, w37, w38]))] H := hP
  have hD : va_D A [(q39, .inl (g.2 0, 497, .inl (cpF 497 f41 f42))), (q40, .inl (g.2 0, 497, .inl f41)), (q1, .inr (12, [.ref q40, .ref q39, w4, w5, w6, w7, .int 0, w9, w10, w11, w12, w13, w14, w15, w16, w17, w18, w19, w20, w21, w22, w23, w24, w25, w26, w27, w28, w29, w30, w31, w32, w33, w34, w35, w36, w37, w38]))] := hD
  have hl : lv_has ls 2 [(1, .int 497), (0, .ref q1)] := hl
  refine lv_iload_n hx hb dX10_save_7 rfl (lv_at hl 0 rfl) ?_
  refine lv_sipush (v := 497) hx hb dX10_save_8 (by decide) ?_
  refine lv_icmp_ge (tgt := 32) hx hb dX10_save_11 (by decide) (fun _ => ?_) (fun h => absurd (by decide) h)
  refine lv_aload_n hx hb dX10_save_32 rfl (lv_at hl 1 rfl) ?_
  refine lv_iconst (v := 1) hx hb dX10_save_33 (by decide) ?_
  refine pf_RX10_289 (ws' := [(q39, .inl (g.2 0, 497, .inl (cpF 497 f41 f42))), (q40, .inl (g.2 0, 497, .inl f41)), (q1, .inr (12, [.ref q40, .ref q39, w4, .int 1, w6, w7, .int 0, w9, w10, w11, w12, w13, w14, w15, w16, w17, w18, w19, w20, w21, w22, w23, w24, w25, w26, w27, w28, w29, w30, w31, w32, w33, w34, w35, w36, w37, w38]))]) hx hb hown hE hP hD hS 2 rfl rfl rfl (Nat.le_of_ble_eq_true rfl) dX10_save_34 rfl (fun H locs hP hD hS => ?_)
  refine lv_aload_n hx hb dX10_save_37 rfl (lv_at hl 1 rfl) ?_
  refine gf_RX10_9 hx hb hown hE hP 2 rfl rfl dX10_save_38 ?_
  refine lv_sipush (v := 392) hx hb dX10_save_41 (by decide) ?_
  refine x_iald (v := 0) hx hb hE hP 1 rfl 392 (x_in (by decide)) (by decide) hf43 dX10_save_44 ?_
  exact x_zret hx hb hr rfl rfl hlocks hP hD hS hAe hsz (Nat.le_of_ble_eq_true rfl) (Nat.le_of_ble_eq_true rfl) (fun _ => 0) [2] (by decide) rfl dX10_save_45

set_option maxHeartbeats 4000000 in
set_option maxRecDepth 100000 in
theorem c144_X5_collectNotes (l : Launch) (g : gG) (q1 q2 : Nat) (w3 w4 w5 w6 w7 w8 w9 w10 w11 w12 w13 w14 w15 w16 w18 w19 : Value) (sz : Nat) : Met l yX5_collectNotes [Cond.code yX5_collectNotes cX5_collectNotes 3 none] ({ frames := 1, cells := 0, slots := 0, locals := 20 } : Room) (va_Pc [.ref q1, .ref q2] (PX g sz [(q2, .inr (8, [w13, w14, w15, w16, .int 0, w18, w19])), (q1, .inr (7, [w3, w4, w5, w6, w7, w8, w9, w10, w11, w12]))])) (QV g [(q2, .inr (8, [w13, w14, w15, w16, .int 0, w18, w19])), (q1, .inr (7, [w3, w4, w5, w6, w7, w8, w9, w10, w11, w12]))] sz (fun _ => [(q1, .inr (7, [w3, w4, w5, w6, w7, w8, .int 0, w10, w11, w12])), (q2, .inr (8, [w13, w14, w15, w16, .int 0, w18, w19]))])) 0 0 (va_A [(q2, .inr (8, [w13, w14, w15, w16, .int 0, w18, w19])), (q1, .inr (7, [w3, w4, w5, w6, w7, w8, w9, w10, w11, w12]))] sz) := by
  refine ofN (by decide) (Nat.le_of_ble_eq_true rfl) rfl ?_
  intro p e s m args below meth c A ls hAe hsz hx hb hml hr hlocks hin hown hE hP hD hA hS hl
  have hown : s.vm.findClass RX5 = some m.cls := hown
  refine lv_aload_n hx hb dX5_collectNotes_0 rfl (lv_at hl 0 rfl) ?_
  refine lv_iconst (v := 0) hx hb dX5_collectNotes_1 (by decide) ?_
  refine pf_RX5_37 (ws' := [(q2, .inr (8, [w13, w14, w15, w16, .int 0, w18, w19])), (q1, .inr (7, [w3, w4, w5, w6, w7, w8, .int 0, w10, w11, w12]))]) hx hb hown hE hP hD hS 1 rfl rfl rfl (Nat.le_of_ble_eq_true rfl) dX5_collectNotes_2 rfl (fun H locs hP hD hS => ?_)
  refine lv_iconst (v := 0) hx hb dX5_collectNotes_5 (by decide) ?_
  refine lv_istore_n (lv' := [(2, .int 0), (0, .ref q1), (1, .ref q2)]) hx hb dX5_collectNotes_6 rfl hl (by decide) rfl (fun ls hl => ?_)
  refine lv_iload_n hx hb dX5_collectNotes_7 rfl (lv_at hl 0 rfl) ?_
  refine lv_aload_n hx hb dX5_collectNotes_8 rfl (lv_at hl 2 rfl) ?_
  refine g_i (wr := [(q1, .inr (7, [w3, w4, w5, w6, w7, w8, .int 0, w10, w11, w12]))]) (rV (rest := [.int 0]) hx hb hml hown hE hP hD 0 rfl rfl (c98_X6_clipCount l g q2 w13 w14 w15 w16 w18 w19 H.size) (kV_X6_clipCount hE (e326 hE) rfl rfl ⟨(Nat.le_of_ble_eq_true rfl), (Nat.le_of_ble_eq_true rfl)⟩) [0] rfl (by decide) rfl hl.1 rfl (lv_room (Nat.le_of_ble_eq_true rfl)) dX5_collectNotes_9 ⟨(Nat.le_of_ble_eq_true rfl), (Nat.le_of_ble_eq_true rfl)⟩) hP hD hS hA [0] [1] rfl rfl (by decide) (by decide) (fun u1 H locs hP hD hS => ?_)
  have hP : va_P g.1 vwCl [(q1, .inr (7, [w3, w4, w5, w6, w7, w8, .int 0, w10, w11, w12])), (q2, .inr (8, [w13, w14, w15, w16, .int 0, w18, w19]))] H := hP
  have hD : va_D A [(q1, .inr (7, [w3, w4, w5, w6, w7, w8, .int 0, w10, w11, w12])), (q2, .inr (8, [w13, w14, w15, w16, .int 0, w18, w19]))] := hD
  refine lv_icmp_ge (tgt := 27) hx hb dX5_collectNotes_12 (by decide) (fun _ => ?_) (fun h => absurd (by decide) h)
  exact x_vret hx hb hr hlocks hP hD hS hAe hsz (Nat.le_of_ble_eq_true rfl) (Nat.le_of_ble_eq_true rfl) (fun _ => 0) [0, 1] (by decide) rfl dX5_collectNotes_27

set_option maxHeartbeats 4000000 in
set_option maxRecDepth 100000 in
theorem c145_X1_sort (l : Launch) (g : gG) (q1 q2 q5 : Nat) (f3 : Nat → Int64) (sz : Nat) : Met l yX1_sort [Cond.code yX1_sort cX1_sort 6 none] ({ frames := 1, cells := 0, slots := 0, locals := 24 } : Room) (va_Pc [.ref q1, .ref q2, .int 0] (PX g sz [(q5, .inl (g.2 1, 300, .inr (.inl f3))), (q1, .inr (3, [.ref q5])), (q2, .inl (g.2 1, 300, .inr (.inl f3)))])) (QV g [(q5, .inl (g.2 1, 300, .inr (.inl f3))), (q1, .inr (3, [.ref q5])), (q2, .inl (g.2 1, 300, .inr (.inl f3)))] sz (fun _ => [(q5, .inl (g.2 1, 300, .inr (.inl f3))), (q1, .inr (3, [.ref q5])), (q2, .inl (g.2 1, 300, .inr (.inl f3)))])) 0 0 (va_A [(q5, .inl (g.2 1, 300, .inr (.inl f3))), (q1, .inr (3, [.ref q5])), (q2, .inl (g.2 1, 300, .inr (.inl f3)))] sz) := by
  refine ofN (by decide) (Nat.le_of_ble_eq_true rfl) rfl ?_
  intro p e s m args below meth c A ls hAe hsz hx hb hml hr hlocks hin hown hE hP hD hA hS hl
  have hown : s.vm.findClass RX1 = some m.cls := hown
  refine lv_iload_n hx hb dX1_sort_0 rfl (lv_at hl 2 rfl) ?_
  refine lv_aload_n hx hb dX1_sort_1 rfl (lv_at hl 1 rfl) ?_
  refine x_alenl (v := 300) hx hb hE hP 2 rfl rfl dX1_sort_2 ?_
  refine lv_aload_n hx hb dX1_sort_3 rfl (lv_at hl 0 rfl) ?_
  refine gf_RX1_13 hx hb hown hE hP 1 rfl rfl dX1_sort_4 ?_
  refine x_alenl (v := 300) hx hb hE hP 0 rfl rfl dX1_sort_7 ?_
  refine x_mmin (v := 300) hx hb (by rw [hml]; exact hl.1.symm) hown (e372 hE) (e362 hE) (e9 hE) (e363 hE) (Nat.le_of_ble_eq_true rfl) (Nat.le_of_ble_eq_true rfl) (Nat.le_of_ble_eq_true rfl) (Nat.le_of_ble_eq_true rfl) (by decide) dX1_sort_8 ?_
  refine x_mmin (v := 0) hx hb (by rw [hml]; exact hl.1.symm) hown (e372 hE) (e362 hE) (e9 hE) (e363 hE) (Nat.le_of_ble_eq_true rfl) (Nat.le_of_ble_eq_true rfl) (Nat.le_of_ble_eq_true rfl) (Nat.le_of_ble_eq_true rfl) (by decide) dX1_sort_11 ?_
  refine lv_istore_n (lv' := [(3, .int 0), (0, .ref q1), (1, .ref q2), (2, .int 0)]) hx hb dX1_sort_14 rfl hl (by decide) rfl (fun ls hl => ?_)
  refine lv_iconst (v := 1) hx hb dX1_sort_15 (by decide) ?_
  refine lv_istore (lv' := [(4, .int 1), (3, .int 0), (0, .ref q1), (1, .ref q2), (2, .int 0)]) hx hb dX1_sort_16 hl (by decide) rfl (fun ls hl => ?_)
  refine lv_iload hx hb dX1_sort_18 (lv_at hl 0 rfl) ?_
  refine lv_iload_n hx hb dX1_sort_20 rfl (lv_at hl 1 rfl) ?_
  refine lv_icmp_ge (tgt := 80) hx hb dX1_sort_21 (by decide) (fun _ => ?_) (fun h => absurd (by decide) h)
  exact x_vret hx hb hr hlocks hP hD hS hAe hsz (Nat.le_of_ble_eq_true rfl) (Nat.le_of_ble_eq_true rfl) (fun _ => 0) [0, 1, 2] (by decide) rfl dX1_sort_80

set_option maxHeartbeats 4000000 in
set_option maxRecDepth 100000 in
theorem c146_X5_numberNotes (l : Launch) (g : gG) (q1 q2 q13 q14 q17 : Nat) (w3 w4 w5 w6 w10 w11 w12 : Value) (f15 : Nat → Int64) (sz : Nat) : Met l yX5_numberNotes [Cond.code yX5_numberNotes cX5_numberNotes 3 none] ({ frames := 2, cells := 0, slots := 0, locals := 49 } : Room) (va_Pc [.ref q1, .ref q2] (PX g sz [(q17, .inl (g.2 1, 300, .inr (.inl f15))), (q13, .inr (3, [.ref q17])), (q14, .inl (g.2 1, 300, .inr (.inl f15))), (q1, .inr (7, [w3, w4, w5, w6, .ref q14, .ref q13, .int 0, w10, w11, w12]))])) (QV g [(q17, .inl (g.2 1, 300, .inr (.inl f15))), (q13, .inr (3, [.ref q17])), (q14, .inl (g.2 1, 300, .inr (.inl f15))), (q1, .inr (7, [w3, w4, w5, w6, .ref q14, .ref q13, .int 0, w10, w11, w12]))] sz (fun _ => [(q1, .inr (7, [w3, w4, w5, w6, .ref q14, .ref q13, .int 0, w10, w11, w12])), (q17, .inl (g.2 1, 300, .inr (.inl f15))), (q13, .inr (3, [.ref q17])), (q14, .inl (g.2 1, 300, .inr (.inl f15)))])) 0 0 (va_A [(q17, .inl (g.2 1, 300, .inr (.inl f15))), (q13, .inr (3, [.ref q17])), (q14, .inl (g.2 1, 300, .inr (.inl f15))), (q1, .inr (7, [w3, w4, w5, w6, .ref q14, .ref q13, .int 0, w10, w11, w12]))] sz) := by
  refine ofN (by decide) (Nat.le_of_ble_eq_true rfl) rfl ?_
  intro p e s m args below meth c A ls hAe hsz hx hb hml hr hlocks hin hown hE hP hD hA hS hl
  have hown : s.vm.findClass RX5 = some m.cls := hown
  refine lv_aload_n hx hb dX5_numberNotes_0 rfl (lv_at hl 0 rfl) ?_
  refine gf_RX5_33 hx hb hown hE hP 3 rfl rfl dX5_numberNotes_1 ?_
  refine lv_aload_n hx hb dX5_numberNotes_4 rfl (lv_at hl 0 rfl) ?_
  refine gf_RX5_24 hx hb hown hE hP 3 rfl rfl dX5_numberNotes_5 ?_
  refine lv_aload_n hx hb dX5_numberNotes_8 rfl (lv_at hl 0 rfl) ?_
  refine gf_RX5_37 hx hb hown hE hP 3 rfl rfl dX5_numberNotes_9 ?_
  refine g_v (wr := [(q1, .inr (7, [w3, w4, w5, w6, .ref q14, .ref q13, .int 0, w10, w11, w12]))]) (rV (rest := []) hx hb hml hown hE hP hD 1 rfl rfl (c145_X1_sort l g q13 q14 q17 f15 s.heap.size) (kV_X1_sort hE (e368 hE) rfl rfl ⟨(Nat.le_of_ble_eq_true rfl), (Nat.le_of_ble_eq_true rfl)⟩) [0, 1, 2] rfl (by decide) rfl hl.1 rfl (lv_room (Nat.le_of_ble_eq_true rfl)) dX5_numberNotes_12 ⟨(Nat.le_of_ble_eq_true rfl), (Nat.le_of_ble_eq_true rfl)⟩) hP hD hS hA [0, 1, 2] [3] rfl rfl (by decide) (by decide) (fun u1 H locs hP hD hS => ?_)
  have hP : va_P g.1 vwCl [(q1, .inr (7, [w3, w4, w5, w6, .ref q14, .ref q13, .int 0, w10, w11, w12])), (q17, .inl (g.2 1, 300, .inr (.inl f15))), (q13, .inr (3, [.ref q17])), (q14, .inl (g.2 1, 300, .inr (.inl f15)))] H := hP
  have hD : va_D A [(q1, .inr (7, [w3, w4, w5, w6, .ref q14, .ref q13, .int 0, w10, w11, w12])), (q17, .inl (g.2 1, 300, .inr (.inl f15))), (q13, .inr (3, [.ref q17])), (q14, .inl (g.2 1, 300, .inr (.inl f15)))] := hD
  refine lv_iconst (v := 0) hx hb dX5_numberNotes_15 (by decide) ?_
  refine lv_istore_n (lv' := [(2, .int 0), (0, .ref q1), (1, .ref q2)]) hx hb dX5_numberNotes_16 rfl hl (by decide) rfl (fun ls hl => ?_)
  refine lv_iload_n hx hb dX5_numberNotes_17 rfl (lv_at hl 0 rfl) ?_
  refine lv_aload_n hx hb dX5_numberNotes_18 rfl (lv_at hl 1 rfl) ?_
  refine gf_RX5_37 hx hb hown hE hP 0 rfl rfl dX5_numberNotes_19 ?_
  refine lv_icmp_ge (tgt := 37) hx hb dX5_numberNotes_22 (by decide) (fun _ => ?_) (fun h => absurd (by decide) h)
  exact x_vret hx hb hr hlocks hP hD hS hAe hsz (Nat.le_of_ble_eq_true rfl) (Nat.le_of_ble_eq_true rfl) (fun _ => 0) [0, 1, 2, 3] (by decide) rfl dX5_numberNotes_37

set_option maxHeartbeats 4000000 in
set_option maxRecDepth 100000 in
theorem c147_X5_shareVoices (l : Launch) (g : gG) (q1 q2 q13 q15 q16 q17 q20 : Nat) (w3 w5 w10 w11 w12 : Value) (f14 : Nat → Int32) (f18 : Nat → Int64) (sz : Nat) : Met l yX5_shareVoices [Cond.code yX5_shareVoices cX5_shareVoices 5 none] ({ frames := 2, cells := 0, slots := 0, locals := 49 } : Room) (va_Pc [.ref q1, .ref q2] (PX g sz [(q20, .inl (g.2 1, 300, .inr (.inl f18))), (q16, .inr (3, [.ref q20])), (q17, .inl (g.2 1, 300, .inr (.inl f18))), (q15, .inl (g.2 0, 300, .inl f14)), (q13, .inl (g.2 0, 8, .inl f14)), (q1, .inr (7, [w3, .ref q15, w5, .ref q13, .ref q17, .ref q16, .int 0, w10, w11, w12]))])) (QV g [(q20, .inl (g.2 1, 300, .inr (.inl f18))), (q16, .inr (3, [.ref q20])), (q17, .inl (g.2 1, 300, .inr (.inl f18))), (q15, .inl (g.2 0, 300, .inl f14)), (q13, .inl (g.2 0, 8, .inl f14)), (q1, .inr (7, [w3, .ref q15, w5, .ref q13, .ref q17, .ref q16, .int 0, w10, w11, w12]))] sz (fun _ => [(q1, .inr (7, [w3, .ref q15, w5, .ref q13, .ref q17, .ref q16, .int 0, .int 0, .int 0, .int 0])), (q13, .inl (g.2 0, 8, .inl (fillF 8 (-1) f14))), (q15, .inl (g.2 0, 300, .inl (fillF 300 (-1) f14))), (q20, .inl (g.2 1, 300, .inr (.inl f18))), (q16, .inr (3, [.ref q20])), (q17, .inl (g.2 1, 300, .inr (.inl f18)))])) 0 0 (va_A [(q20, .inl (g.2 1, 300, .inr (.inl f18))), (q16, .inr (3, [.ref q20])), (q17, .inl (g.2 1, 300, .inr (.inl f18))), (q15, .inl (g.2 0, 300, .inl f14)), (q13, .inl (g.2 0, 8, .inl f14)), (q1, .inr (7, [w3, .ref q15, w5, .ref q13, .ref q17, .ref q16, .int 0, w10, w11, w12]))] sz) := by
  refine ofN (by decide) (Nat.le_of_ble_eq_true rfl) rfl ?_
  intro p e s m args below meth c A ls hAe hsz hx hb hml hr hlocks hin hown hE hP hD hA hS hl
  have hown : s.vm.findClass RX5 = some m.cls := hown
  refine lv_aload_n hx hb dX5_shareVoices_0 rfl (lv_at hl 0 rfl) ?_
  refine lv_iconst (v := 0) hx hb dX5_shareVoices_1 (by decide) ?_
  refine pf_RX5_41 (ws' := [(q20, .inl (g.2 1, 300, .inr (.inl f18))), (q16, .inr (3, [.ref q20])), (q17, .inl (g.2 1, 300, .inr (.inl f18))), (q15, .inl (g.2 0, 300, .inl f14)), (q13, .inl (g.2 0, 8, .inl f14)), (q1, .inr (7, [w3, .ref q15, w5, .ref q13, .ref q17, .ref q16, .int 0, .int 0, w11, w12]))]) hx hb hown hE hP hD hS 5 rfl rfl rfl (Nat.le_of_ble_eq_true rfl) dX5_shareVoices_2 rfl (fun H locs hP hD hS => ?_)
  refine lv_aload_n hx hb dX5_shareVoices_5 rfl (lv_at hl 0 rfl) ?_
  refine lv_iconst (v := 0) hx hb dX5_shareVoices_6 (by decide) ?_
  refine pf_RX5_44 (ws' := [(q20, .inl (g.2 1, 300, .inr (.inl f18))), (q16, .inr (3, [.ref q20])), (q17, .inl (g.2 1, 300, .inr (.inl f18))), (q15, .inl (g.2 0, 300, .inl f14)), (q13, .inl (g.2 0, 8, .inl f14)), (q1, .inr (7, [w3, .ref q15, w5, .ref q13, .ref q17, .ref q16, .int 0, .int 0, .int 0, w12]))]) hx hb hown hE hP hD hS 5 rfl rfl rfl (Nat.le_of_ble_eq_true rfl) dX5_shareVoices_7 rfl (fun H locs hP hD hS => ?_)
  refine lv_aload_n hx hb dX5_shareVoices_10 rfl (lv_at hl 0 rfl) ?_
  refine lv_iconst (v := 0) hx hb dX5_shareVoices_11 (by decide) ?_
  refine pf_RX5_47 (ws' := [(q20, .inl (g.2 1, 300, .inr (.inl f18))), (q16, .inr (3, [.ref q20])), (q17, .inl (g.2 1, 300, .inr (.inl f18))), (q15, .inl (g.2 0, 300, .inl f14)), (q13, .inl (g.2 0, 8, .inl f14)), (q1, .inr (7, [w3, .ref q15, w5, .ref q13, .ref q17, .ref q16, .int 0, .int 0, .int 0, .int 0]))]) hx hb hown hE hP hD hS 5 rfl rfl rfl (Nat.le_of_ble_eq_true rfl) dX5_shareVoices_12 rfl (fun H locs hP hD hS => ?_)
  refine lv_aload_n hx hb dX5_shareVoices_15 rfl (lv_at hl 0 rfl) ?_
  refine gf_RX5_21 hx hb hown hE hP 5 rfl rfl dX5_shareVoices_16 ?_
  refine lv_iconst (v := (-1)) hx hb dX5_shareVoices_19 (by decide) ?_
  refine g_v (wr := [(q20, .inl (g.2 1, 300, .inr (.inl f18))), (q16, .inr (3, [.ref q20])), (q17, .inl (g.2 1, 300, .inr (.inl f18))), (q15, .inl (g.2 0, 300, .inl f14)), (q1, .inr (7, [w3, .ref q15, w5, .ref q13, .ref q17, .ref q16, .int 0, .int 0, .int 0, .int 0]))]) (rS (rest := []) hx hb hml hown hE hP hD (h_fill l g q13 8 (-1) f14 (by decide) H.size) (kS_J7_fill_53178 hE (e425 hE) rfl rfl ⟨(Nat.le_of_ble_eq_true rfl), (Nat.le_of_ble_eq_true rfl)⟩) [4] rfl (by decide) rfl hl.1 rfl (lv_room (Nat.le_of_ble_eq_true rfl)) dX5_shareVoices_20 ⟨(Nat.le_of_ble_eq_true rfl), (Nat.le_of_ble_eq_true rfl)⟩) hP hD hS hA [4] [0, 1, 2, 3, 5] rfl rfl (by decide) (by decide) (fun u1 H locs hP hD hS => ?_)
  have hP : va_P g.1 vwCl [(q20, .inl (g.2 1, 300, .inr (.inl f18))), (q16, .inr (3, [.ref q20])), (q17, .inl (g.2 1, 300, .inr (.inl f18))), (q15, .inl (g.2 0, 300, .inl f14)), (q1, .inr (7, [w3, .ref q15, w5, .ref q13, .ref q17, .ref q16, .int 0, .int 0, .int 0, .int 0])), (q13, .inl (g.2 0, 8, .inl (fillF 8 (-1) f14)))] H := hP
  have hD : va_D A [(q20, .inl (g.2 1, 300, .inr (.inl f18))), (q16, .inr (3, [.ref q20])), (q17, .inl (g.2 1, 300, .inr (.inl f18))), (q15, .inl (g.2 0, 300, .inl f14)), (q1, .inr (7, [w3, .ref q15, w5, .ref q13, .ref q17, .ref q16, .int 0, .int 0, .int 0, .int 0])), (q13, .inl (g.2 0, 8, .inl (fillF 8 (-1) f14)))] := hD
  refine lv_aload_n hx hb dX5_shareVoices_23 rfl (lv_at hl 0 rfl) ?_
  refine gf_RX5_15 hx hb hown hE hP 4 rfl rfl dX5_shareVoices_24 ?_
  refine lv_iconst (v := (-1)) hx hb dX5_shareVoices_27 (by decide) ?_
  refine g_v (wr := [(q20, .inl (g.2 1, 300, .inr (.inl f18))), (q16, .inr (3, [.ref q20])), (q17, .inl (g.2 1, 300, .inr (.inl f18))), (q1, .inr (7, [w3, .ref q15, w5, .ref q13, .ref q17, .ref q16, .int 0, .int 0, .int 0, .int 0])), (q13, .inl (g.2 0, 8, .inl (fillF 8 (-1) f14)))]) (rS (rest := []) hx hb hml hown hE hP hD (h_fill l g q15 300 (-1) f14 (by decide) H.size) (kS_J7_fill_53178 hE (e425 hE) rfl rfl ⟨(Nat.le_of_ble_eq_true rfl), (Nat.le_of_ble_eq_true rfl)⟩) [3] rfl (by decide) rfl hl.1 rfl (lv_room (Nat.le_of_ble_eq_true rfl)) dX5_shareVoices_28 ⟨(Nat.le_of_ble_eq_true rfl), (Nat.le_of_ble_eq_true rfl)⟩) hP hD hS hA [3] [0, 1, 2, 4, 5] rfl rfl (by decide) (by decide) (fun u2 H locs hP hD hS => ?_)
  have hP : va_P g.1 vwCl [(q20, .inl (g.2 1, 300, .inr (.inl f18))), (q16, .inr (3, [.ref q20])), (q17, .inl (g.2 1, 300, .inr (.inl f18))), (q1, .inr (7, [w3, .ref q15, w5, .ref q13, .ref q17, .ref q16, .int 0, .int 0, .int 0, .int 0])), (q13, .inl (g.2 0, 8, .inl (fillF 8 (-1) f14))), (q15, .inl (g.2 0, 300, .inl (fillF 300 (-1) f14)))] H := hP
  have hD : va_D A [(q20, .inl (g.2 1, 300, .inr (.inl f18))), (q16, .inr (3, [.ref q20])), (q17, .inl (g.2 1, 300, .inr (.inl f18))), (q1, .inr (7, [w3, .ref q15, w5, .ref q13, .ref q17, .ref q16, .int 0, .int 0, .int 0, .int 0])), (q13, .inl (g.2 0, 8, .inl (fillF 8 (-1) f14))), (q15, .inl (g.2 0, 300, .inl (fillF 300 (-1) f14)))] := hD
  refine lv_iconst (v := 0) hx hb dX5_shareVoices_31 (by decide) ?_
  refine lv_istore_n (lv' := [(2, .int 0), (0, .ref q1), (1, .ref q2)]) hx hb dX5_shareVoices_32 rfl hl (by decide) rfl (fun ls hl => ?_)
  refine lv_iload_n hx hb dX5_shareVoices_33 rfl (lv_at hl 0 rfl) ?_
  refine lv_aload_n hx hb dX5_shareVoices_34 rfl (lv_at hl 1 rfl) ?_
  refine gf_RX5_37 hx hb hown hE hP 3 rfl rfl dX5_shareVoices_35 ?_
  refine lv_icmp_ge (tgt := 58) hx hb dX5_shareVoices_38 (by decide) (fun _ => ?_) (fun h => absurd (by decide) h)
  refine lv_aload_n hx hb dX5_shareVoices_58 rfl (lv_at hl 1 rfl) ?_
  refine gf_RX5_33 hx hb hown hE hP 3 rfl rfl dX5_shareVoices_59 ?_
  refine lv_aload_n hx hb dX5_shareVoices_62 rfl (lv_at hl 1 rfl) ?_
  refine gf_RX5_24 hx hb hown hE hP 3 rfl rfl dX5_shareVoices_63 ?_
  refine lv_aload_n hx hb dX5_shareVoices_66 rfl (lv_at hl 1 rfl) ?_
  refine gf_RX5_37 hx hb hown hE hP 3 rfl rfl dX5_shareVoices_67 ?_
  refine g_v (wr := [(q1, .inr (7, [w3, .ref q15, w5, .ref q13, .ref q17, .ref q16, .int 0, .int 0, .int 0, .int 0])), (q13, .inl (g.2 0, 8, .inl (fillF 8 (-1) f14))), (q15, .inl (g.2 0, 300, .inl (fillF 300 (-1) f14)))]) (rV (rest := []) hx hb hml hown hE hP hD 1 rfl rfl (c145_X1_sort l g q16 q17 q20 f18 H.size) (kV_X1_sort hE (e368 hE) rfl rfl ⟨(Nat.le_of_ble_eq_true rfl), (Nat.le_of_ble_eq_true rfl)⟩) [0, 1, 2] rfl (by decide) rfl hl.1 rfl (lv_room (Nat.le_of_ble_eq_true rfl)) dX5_shareVoices_70 ⟨(Nat.le_of_ble_eq_true rfl), (Nat.le_of_ble_eq_true rfl)⟩) hP hD hS hA [0, 1, 2] [3, 4, 5] rfl rfl (by decide) (by decide) (fun u3 H locs hP hD hS => ?_)
  have hP : va_P g.1 vwCl [(q1, .inr (7, [w3, .ref q15, w5, .ref q13, .ref q17, .ref q16, .int 0, .int 0, .int 0, .int 0])), (q13, .inl (g.2 0, 8, .inl (fillF 8 (-1) f14))), (q15, .inl (g.2 0, 300, .inl (fillF 300 (-1) f14))), (q20, .inl (g.2 1, 300, .inr (.inl f18))), (q16, .inr (3, [.ref q20])), (q17, .inl (g.2 1, 300, .inr (.inl f18)))] H := hP
  have hD : va_D A [(q1, .inr (7, [w3, .ref q15, w5, .ref q13, .ref q17, .ref q16, .int 0, .int 0, .int 0, .int 0])), (q13, .inl (g.2 0, 8, .inl (fillF 8 (-1) f14))), (q15, .inl (g.2 0, 300, .inl (fillF 300 (-1) f14))), (q20, .inl (g.2 1, 300, .inr (.inl f18))), (q16, .inr (3, [.ref q20])), (q17, .inl (g.2 1, 300, .inr (.inl f18)))] := hD
  refine lv_iconst (v := 0) hx hb dX5_shareVoices_73 (by decide) ?_
  refine lv_istore_n (lv' := [(2, .int 0), (0, .ref q1), (1, .ref q2)]) hx hb dX5_shareVoices_74 rfl hl (by decide) rfl (fun ls hl => ?_)
  refine lv_iload_n hx hb dX5_shareVoices_75 rfl (lv_at hl 0 rfl) ?_
  refine lv_aload_n hx hb dX5_shareVoices_76 rfl (lv_at hl 1 rfl) ?_
  refine gf_RX5_37 hx hb hown hE hP 0 rfl rfl dX5_shareVoices_77 ?_
  refine lv_icmp_ge (tgt := 147) hx hb dX5_shareVoices_80 (by decide) (fun _ => ?_) (fun h => absurd (by decide) h)
  exact x_vret hx hb hr hlocks hP hD hS hAe hsz (Nat.le_of_ble_eq_true rfl) (Nat.le_of_ble_eq_true rfl) (fun _ => 0) [0, 1, 2, 3, 4, 5] (by decide) rfl dX5_shareVoices_147

set_option maxHeartbeats 4000000 in
set_option maxRecDepth 100000 in
theorem c148_X9_upToDateScore (l : Launch) (g : gG) (q1 q13 q17 q20 q21 q39 q40 q43 q44 q46 : Nat) (w3 w5 w6 w7 w8 w9 w11 w12 w16 w22 w24 w28 w29 w30 w31 w32 w33 w34 w35 w37 w38 : Value) (f18 : Nat → Option Nat) (f41 : Nat → Int64) (f45 : Nat → Int32) (hf19 : f18 0 = some q20) (sz : Nat) : Met l yX9_upToDateScore [Cond.code yX9_upToDateScore cX9_upToDateScore 2 (some (.object "PatternSequencer$Score"))] ({ frames := 3, cells := 0, slots := 0, locals := 73 } : Room) (va_Pc [.ref q1] (PX g sz [(q46, .inl (g.2 0, 300, .inl f45)), (q44, .inl (g.2 0, 8, .inl f45)), (q43, .inl (g.2 1, 300, .inr (.inl f41))), (q39, .inr (3, [.ref q43])), (q40, .inl (g.2 1, 300, .inr (.inl f41))), (q20, .inr (8, [w32, w33, w34, w35, .int 0, w37, w38])), (q21, .inr (7, [w22, .ref q46, w24, .ref q44, .ref q40, .ref q39, w28, w29, w30, w31])), (q17, .inl (g.2 3, 10, .inr (.inr (.inr (.inr f18))))), (q13, .inr (10, [.ref q17, .int 0, w16])), (q1, .inr (11, [.ref q13, w3, .ref q21, w5, w6, w7, w8, w9, .int 0, w11, w12]))])) (QR g [(q46, .inl (g.2 0, 300, .inl f45)), (q44, .inl (g.2 0, 8, .inl f45)), (q43, .inl (g.2 1, 300, .inr (.inl f41))), (q39, .inr (3, [.ref q43])), (q40, .inl (g.2 1, 300, .inr (.inl f41))), (q20, .inr (8, [w32, w33, w34, w35, .int 0, w37, w38])), (q21, .inr (7, [w22, .ref q46, w24, .ref q44, .ref q40, .ref q39, w28, w29, w30, w31])), (q17, .inl (g.2 3, 10, .inr (.inr (.inr (.inr f18))))), (q13, .inr (10, [.ref q17, .int 0, w16])), (q1, .inr (11, [.ref q13, w3, .ref q21, w5, w6, w7, w8, w9, .int 0, w11, w12]))] sz q21 (fun _ => [(q1, .inr (11, [.ref q13, w3, .ref q21, w5, w6, w7, w8, w9, .int 1, w11, w12])), (q17, .inl (g.2 3, 10, .inr (.inr (.inr (.inr f18))))), (q13, .inr (10, [.ref q17, .int 0, w16])), (q20, .inr (8, [w32, w33, w34, w35, .int 0, w37, w38])), (q21, .inr (7, [w22, .ref q46, w24, .ref q44, .ref q40, .ref q39, .int 0, .int 0, .int 0, .int 0])), (q44, .inl (g.2 0, 8, .inl (fillF 8 (-1) f45))), (q46, .inl (g.2 0, 300, .inl (fillF 300 (-1) f45))), (q43, .inl (g.2 1, 300, .inr (.inl f41))), (q39, .inr (3, [.ref q43])), (q40, .inl (g.2 1, 300, .inr (.inl f41)))])) 0 0 (va_A [(q46, .inl (g.2 0, 300, .inl f45)), (q44, .inl (g.2 0, 8, .inl f45)), (q43, .inl (g.2 1, 300, .inr (.inl f41))), (q39, .inr (3, [.ref q43])), (q40, .inl (g.2 1, 300, .inr (.inl f41))), (q20, .inr (8, [w32, w33, w34, w35, .int 0, w37, w38])), (q21, .inr (7, [w22, .ref q46, w24, .ref q44, .ref q40, .ref q39, w28, w29, w30, w31])), (q17, .inl (g.2 3, 10, .inr (.inr (.inr (.inr f18))))), (q13, .inr (10, [.ref q17, .int 0, w16])), (q1, .inr (11, [.ref q13, w3, .ref q21, w5, w6, w7, w8, w9, .int 0, w11, w12]))] sz) := by
  refine ofN (by decide) (Nat.le_of_ble_eq_true rfl) rfl ?_
  intro p e s m args below meth c A ls hAe hsz hx hb hml hr hlocks hin hown hE hP hD hA hS hl
  have hown : s.vm.findClass RX9 = some m.cls := hown
  refine lv_aload_n hx hb dX9_upToDateScore_0 rfl (lv_at hl 0 rfl) ?_
  refine gf_RX9_60 hx hb hown hE hP 9 rfl rfl dX9_upToDateScore_1 ?_
  refine lv_if_ne (tgt := 44) hx hb dX9_upToDateScore_4 (by decide) (fun h => absurd h (by decide)) (fun _ => ?_)
  refine lv_aload_n hx hb dX9_upToDateScore_7 rfl (lv_at hl 0 rfl) ?_
  refine gf_RX9_12 hx hb hown hE hP 9 rfl rfl dX9_upToDateScore_8 ?_
  refine g_r (wr := [(q46, .inl (g.2 0, 300, .inl f45)), (q44, .inl (g.2 0, 8, .inl f45)), (q43, .inl (g.2 1, 300, .inr (.inl f41))), (q39, .inr (3, [.ref q43])), (q40, .inl (g.2 1, 300, .inr (.inl f41))), (q20, .inr (8, [w32, w33, w34, w35, .int 0, w37, w38])), (q21, .inr (7, [w22, .ref q46, w24, .ref q44, .ref q40, .ref q39, w28, w29, w30, w31])), (q1, .inr (11, [.ref q13, w3, .ref q21, w5, w6, w7, w8, w9, .int 0, w11, w12]))]) (rV (rest := []) hx hb hml hown hE hP hD 8 rfl rfl (c79_X8_current l g q13 q17 q20 w16 f18 (hf19) s.heap.size) (kV_X8_current hE (e290 hE) rfl rfl ⟨(Nat.le_of_ble_eq_true rfl), (Nat.le_of_ble_eq_true rfl)⟩) [7, 8] rfl (by decide) rfl hl.1 rfl (lv_room (Nat.le_of_ble_eq_true rfl)) dX9_upToDateScore_11 ⟨(Nat.le_of_ble_eq_true rfl), (Nat.le_of_ble_eq_true rfl)⟩) hP hD hS hA [7, 8] [0, 1, 2, 3, 4, 5, 6, 9] rfl rfl (by decide) (by decide) (fun u1 H locs hP hD hS => ?_)
  have hP : va_P g.1 vwCl [(q46, .inl (g.2 0, 300, .inl f45)), (q44, .inl (g.2 0, 8, .inl f45)), (q43, .inl (g.2 1, 300, .inr (.inl f41))), (q39, .inr (3, [.ref q43])), (q40, .inl (g.2 1, 300, .inr (.inl f41))), (q20, .inr (8, [w32, w33, w34, w35, .int 0, w37, w38])), (q21, .inr (7, [w22, .ref q46, w24, .ref q44, .ref q40, .ref q39, w28, w29, w30, w31])), (q1, .inr (11, [.ref q13, w3, .ref q21, w5, w6, w7, w8, w9, .int 0, w11, w12])), (q17, .inl (g.2 3, 10, .inr (.inr (.inr (.inr f18))))), (q13, .inr (10, [.ref q17, .int 0, w16]))] H := hP
  have hD : va_D A [(q46, .inl (g.2 0, 300, .inl f45)), (q44, .inl (g.2 0, 8, .inl f45)), (q43, .inl (g.2 1, 300, .inr (.inl f41))), (q39, .inr (3, [.ref q43])), (q40, .inl (g.2 1, 300, .inr (.inl f41))), (q20, .inr (8, [w32, w33, w34, w35, .int 0, w37, w38])), (q21, .inr (7, [w22, .ref q46, w24, .ref q44, .ref q40, .ref q39, w28, w29, w30, w31])), (q1, .inr (11, [.ref q13, w3, .ref q21, w5, w6, w7, w8, w9, .int 0, w11, w12])), (q17, .inl (g.2 3, 10, .inr (.inr (.inr (.inr f18))))), (q13, .inr (10, [.ref q17, .int 0, w16]))] := hD
  refine lv_astore_n (lv' := [(1, .ref q20), (0, .ref q1)]) hx hb dX9_upToDateScore_14 rfl hl (by decide) rfl (fun ls hl => ?_)
  refine lv_aload_n hx hb dX9_upToDateScore_15 rfl (lv_at hl 1 rfl) ?_
  refine gf_RX9_26 hx hb hown hE hP 7 rfl rfl dX9_upToDateScore_16 ?_
  refine lv_aload_n hx hb dX9_upToDateScore_19 rfl (lv_at hl 0 rfl) ?_
  refine g_v (wr := [(q46, .inl (g.2 0, 300, .inl f45)), (q44, .inl (g.2 0, 8, .inl f45)), (q43, .inl (g.2 1, 300, .inr (.inl f41))), (q39, .inr (3, [.ref q43])), (q40, .inl (g.2 1, 300, .inr (.inl f41))), (q1, .inr (11, [.ref q13, w3, .ref q21, w5, w6, w7, w8, w9, .int 0, w11, w12])), (q17, .inl (g.2 3, 10, .inr (.inr (.inr (.inr f18))))), (q13, .inr (10, [.ref q17, .int 0, w16]))]) (rV (rest := []) hx hb hml hown hE hP hD 6 rfl rfl (c144_X5_collectNotes l g q21 q20 w22 (.ref q46) w24 (.ref q44) (.ref q40) (.ref q39) w28 w29 w30 w31 w32 w33 w34 w35 w37 w38 H.size) (kV_X5_collectNotes hE (e322 hE) rfl rfl ⟨(Nat.le_of_ble_eq_true rfl), (Nat.le_of_ble_eq_true rfl)⟩) [5, 6] rfl (by decide) rfl hl.1 rfl (lv_room (Nat.le_of_ble_eq_true rfl)) dX9_upToDateScore_20 ⟨(Nat.le_of_ble_eq_true rfl), (Nat.le_of_ble_eq_true rfl)⟩) hP hD hS hA [5, 6] [0, 1, 2, 3, 4, 7, 8, 9] rfl rfl (by decide) (by decide) (fun u2 H locs hP hD hS => ?_)
  have hP : va_P g.1 vwCl [(q46, .inl (g.2 0, 300, .inl f45)), (q44, .inl (g.2 0, 8, .inl f45)), (q43, .inl (g.2 1, 300, .inr (.inl f41))), (q39, .inr (3, [.ref q43])), (q40, .inl (g.2 1, 300, .inr (.inl f41))), (q1, .inr (11, [.ref q13, w3, .ref q21, w5, w6, w7, w8, w9, .int 0, w11, w12])), (q17, .inl (g.2 3, 10, .inr (.inr (.inr (.inr f18))))), (q13, .inr (10, [.ref q17, .int 0, w16])), (q21, .inr (7, [w22, .ref q46, w24, .ref q44, .ref q40, .ref q39, .int 0, w29, w30, w31])), (q20, .inr (8, [w32, w33, w34, w35, .int 0, w37, w38]))] H := hP
  have hD : va_D A [(q46, .inl (g.2 0, 300, .inl f45)), (q44, .inl (g.2 0, 8, .inl f45)), (q43, .inl (g.2 1, 300, .inr (.inl f41))), (q39, .inr (3, [.ref q43])), (q40, .inl (g.2 1, 300, .inr (.inl f41))), (q1, .inr (11, [.ref q13, w3, .ref q21, w5, w6, w7, w8, w9, .int 0, w11, w12])), (q17, .inl (g.2 3, 10, .inr (.inr (.inr (.inr f18))))), (q13, .inr (10, [.ref q17, .int 0, w16])), (q21, .inr (7, [w22, .ref q46, w24, .ref q44, .ref q40, .ref q39, .int 0, w29, w30, w31])), (q20, .inr (8, [w32, w33, w34, w35, .int 0, w37, w38]))] := hD
  refine lv_aload_n hx hb dX9_upToDateScore_23 rfl (lv_at hl 1 rfl) ?_
  refine gf_RX9_26 hx hb hown hE hP 5 rfl rfl dX9_upToDateScore_24 ?_
  refine lv_aload_n hx hb dX9_upToDateScore_27 rfl (lv_at hl 0 rfl) ?_
  refine g_v (wr := [(q46, .inl (g.2 0, 300, .inl f45)), (q44, .inl (g.2 0, 8, .inl f45)), (q1, .inr (11, [.ref q13, w3, .ref q21, w5, w6, w7, w8, w9, .int 0, w11, w12])), (q17, .inl (g.2 3, 10, .inr (.inr (.inr (.inr f18))))), (q13, .inr (10, [.ref q17, .int 0, w16])), (q20, .inr (8, [w32, w33, w34, w35, .int 0, w37, w38]))]) (rV (rest := []) hx hb hml hown hE hP hD 8 rfl rfl (c146_X5_numberNotes l g q21 q20 q39 q40 q43 w22 (.ref q46) w24 (.ref q44) w29 w30 w31 f41 H.size) (kV_X5_numberNotes hE (e364 hE) rfl rfl ⟨(Nat.le_of_ble_eq_true rfl), (Nat.le_of_ble_eq_true rfl)⟩) [2, 3, 4, 8] rfl (by decide) rfl hl.1 rfl (lv_room (Nat.le_of_ble_eq_true rfl)) dX9_upToDateScore_28 ⟨(Nat.le_of_ble_eq_true rfl), (Nat.le_of_ble_eq_true rfl)⟩) hP hD hS hA [2, 3, 4, 8] [0, 1, 5, 6, 7, 9] rfl rfl (by decide) (by decide) (fun u3 H locs hP hD hS => ?_)
  have hP : va_P g.1 vwCl [(q46, .inl (g.2 0, 300, .inl f45)), (q44, .inl (g.2 0, 8, .inl f45)), (q1, .inr (11, [.ref q13, w3, .ref q21, w5, w6, w7, w8, w9, .int 0, w11, w12])), (q17, .inl (g.2 3, 10, .inr (.inr (.inr (.inr f18))))), (q13, .inr (10, [.ref q17, .int 0, w16])), (q20, .inr (8, [w32, w33, w34, w35, .int 0, w37, w38])), (q21, .inr (7, [w22, .ref q46, w24, .ref q44, .ref q40, .ref q39, .int 0, w29, w30, w31])), (q43, .inl (g.2 1, 300, .inr (.inl f41))), (q39, .inr (3, [.ref q43])), (q40, .inl (g.2 1, 300, .inr (.inl f41)))] H := hP
  have hD : va_D A [(q46, .inl (g.2 0, 300, .inl f45)), (q44, .inl (g.2 0, 8, .inl f45)), (q1, .inr (11, [.ref q13, w3, .ref q21, w5, w6, w7, w8, w9, .int 0, w11, w12])), (q17, .inl (g.2 3, 10, .inr (.inr (.inr (.inr f18))))), (q13, .inr (10, [.ref q17, .int 0, w16])), (q20, .inr (8, [w32, w33, w34, w35, .int 0, w37, w38])), (q21, .inr (7, [w22, .ref q46, w24, .ref q44, .ref q40, .ref q39, .int 0, w29, w30, w31])), (q43, .inl (g.2 1, 300, .inr (.inl f41))), (q39, .inr (3, [.ref q43])), (q40, .inl (g.2 1, 300, .inr (.inl f41)))] := hD
  refine lv_aload_n hx hb dX9_upToDateScore_31 rfl (lv_at hl 1 rfl) ?_
  refine gf_RX9_26 hx hb hown hE hP 2 rfl rfl dX9_upToDateScore_32 ?_
  refine lv_aload_n hx hb dX9_upToDateScore_35 rfl (lv_at hl 0 rfl) ?_
  refine g_v (wr := [(q1, .inr (11, [.ref q13, w3, .ref q21, w5, w6, w7, w8, w9, .int 0, w11, w12])), (q17, .inl (g.2 3, 10, .inr (.inr (.inr (.inr f18))))), (q13, .inr (10, [.ref q17, .int 0, w16])), (q20, .inr (8, [w32, w33, w34, w35, .int 0, w37, w38]))]) (rV (rest := []) hx hb hml hown hE hP hD 6 rfl rfl (c147_X5_shareVoices l g q21 q20 q44 q46 q39 q40 q43 w22 w24 w29 w30 w31 f45 f41 H.size) (kV_X5_shareVoices hE (e421 hE) rfl rfl ⟨(Nat.le_of_ble_eq_true rfl), (Nat.le_of_ble_eq_true rfl)⟩) [7, 8, 9, 0, 1, 6] rfl (by decide) rfl hl.1 rfl (lv_room (Nat.le_of_ble_eq_true rfl)) dX9_upToDateScore_36 ⟨(Nat.le_of_ble_eq_true rfl), (Nat.le_of_ble_eq_true rfl)⟩) hP hD hS hA [7, 8, 9, 0, 1, 6] [2, 3, 4, 5] rfl rfl (by decide) (by decide) (fun u4 H locs hP hD hS => ?_)
  have hP : va_P g.1 vwCl [(q1, .inr (11, [.ref q13, w3, .ref q21, w5, w6, w7, w8, w9, .int 0, w11, w12])), (q17, .inl (g.2 3, 10, .inr (.inr (.inr (.inr f18))))), (q13, .inr (10, [.ref q17, .int 0, w16])), (q20, .inr (8, [w32, w33, w34, w35, .int 0, w37, w38])), (q21, .inr (7, [w22, .ref q46, w24, .ref q44, .ref q40, .ref q39, .int 0, .int 0, .int 0, .int 0])), (q44, .inl (g.2 0, 8, .inl (fillF 8 (-1) f45))), (q46, .inl (g.2 0, 300, .inl (fillF 300 (-1) f45))), (q43, .inl (g.2 1, 300, .inr (.inl f41))), (q39, .inr (3, [.ref q43])), (q40, .inl (g.2 1, 300, .inr (.inl f41)))] H := hP
  have hD : va_D A [(q1, .inr (11, [.ref q13, w3, .ref q21, w5, w6, w7, w8, w9, .int 0, w11, w12])), (q17, .inl (g.2 3, 10, .inr (.inr (.inr (.inr f18))))), (q13, .inr (10, [.ref q17, .int 0, w16])), (q20, .inr (8, [w32, w33, w34, w35, .int 0, w37, w38])), (q21, .inr (7, [w22, .ref q46, w24, .ref q44, .ref q40, .ref q39, .int 0, .int 0, .int 0, .int 0])), (q44, .inl (g.2 0, 8, .inl (fillF 8 (-1) f45))), (q46, .inl (g.2 0, 300, .inl (fillF 300 (-1) f45))), (q43, .inl (g.2 1, 300, .inr (.inl f41))), (q39, .inr (3, [.ref q43])), (q40, .inl (g.2 1, 300, .inr (.inl f41)))] := hD
  refine lv_aload_n hx hb dX9_upToDateScore_39 rfl (lv_at hl 1 rfl) ?_
  refine lv_iconst (v := 1) hx hb dX9_upToDateScore_40 (by decide) ?_
  refine pf_RX9_60 (ws' := [(q1, .inr (11, [.ref q13, w3, .ref q21, w5, w6, w7, w8, w9, .int 1, w11, w12])), (q17, .inl (g.2 3, 10, .inr (.inr (.inr (.inr f18))))), (q13, .inr (10, [.ref q17, .int 0, w16])), (q20, .inr (8, [w32, w33, w34, w35, .int 0, w37, w38])), (q21, .inr (7, [w22, .ref q46, w24, .ref q44, .ref q40, .ref q39, .int 0, .int 0, .int 0, .int 0])), (q44, .inl (g.2 0, 8, .inl (fillF 8 (-1) f45))), (q46, .inl (g.2 0, 300, .inl (fillF 300 (-1) f45))), (q43, .inl (g.2 1, 300, .inr (.inl f41))), (q39, .inr (3, [.ref q43])), (q40, .inl (g.2 1, 300, .inr (.inl f41)))]) hx hb hown hE hP hD hS 0 rfl rfl rfl (Nat.le_of_ble_eq_true rfl) dX9_upToDateScore_41 rfl (fun H locs hP hD hS => ?_)
  refine lv_aload_n hx hb dX9_upToDateScore_44 rfl (lv_at hl 1 rfl) ?_
  refine gf_RX9_26 hx hb hown hE hP 0 rfl rfl dX9_upToDateScore_45 ?_
  exact x_aret hx hb hr (Or.inl ⟨_, rfl⟩) hlocks hP hD hS hAe hsz (Nat.le_of_ble_eq_true rfl) (Nat.le_of_ble_eq_true rfl) (fun _ => 0) [0, 1, 2, 3, 4, 5, 6, 7, 8, 9] (by decide) rfl dX9_upToDateScore_48

set_option maxHeartbeats 4000000 in
set_option maxRecDepth 100000 in
theorem c149_X5_noteCount (l : Launch) (g : gG) (q1 : Nat) (w2 w3 w4 w5 w6 w7 w9 w10 w11 : Value) (sz : Nat) : Met l yX5_noteCount [Cond.code yX5_noteCount cX5_noteCount 1 (some .int)] ({ frames := 0, cells := 0, slots := 0, locals := 0 } : Room) (va_Pc [.ref q1] (PX g sz [(q1, .inr (7, [w2, w3, w4, w5, w6, w7, .int 0, w9, w10, w11]))])) (QI g [(q1, .inr (7, [w2, w3, w4, w5, w6, w7, .int 0, w9, w10, w11]))] sz 0 (fun _ => [(q1, .inr (7, [w2, w3, w4, w5, w6, w7, .int 0, w9, w10, w11]))])) 0 0 (va_A [(q1, .inr (7, [w2, w3, w4, w5, w6, w7, .int 0, w9, w10, w11]))] sz) := by
  refine ofN (by decide) (Nat.le_of_ble_eq_true rfl) rfl ?_
  intro p e s m args below meth c A ls hAe hsz hx hb hml hr hlocks hin hown hE hP hD hA hS hl
  have hown : s.vm.findClass RX5 = some m.cls := hown
  refine lv_aload_n hx hb dX5_noteCount_0 rfl (lv_at hl 0 rfl) ?_
  refine gf_RX5_37 hx hb hown hE hP 0 rfl rfl dX5_noteCount_1 ?_
  exact x_zret hx hb hr rfl rfl hlocks hP hD hS hAe hsz (Nat.le_of_ble_eq_true rfl) (Nat.le_of_ble_eq_true rfl) (fun _ => 0) [0] (by decide) rfl dX5_noteCount_4

set_option maxHeartbeats 4000000 in
set_option maxRecDepth 100000 in
theorem c150_X1_sort (l : Launch) (g : gG) (q1 q2 q5 : Nat) (f3 : Nat → Int64) (sz : Nat) : Met l yX1_sort [Cond.code yX1_sort cX1_sort 6 none] ({ frames := 1, cells := 0, slots := 0, locals := 24 } : Room) (va_Pc [.ref q1, .ref q2, .int 0] (PX g sz [(q5, .inl (g.2 1, 600, .inr (.inl f3))), (q1, .inr (3, [.ref q5])), (q2, .inl (g.2 1, 600, .inr (.inl f3)))])) (QV g [(q5, .inl (g.2 1, 600, .inr (.inl f3))), (q1, .inr (3, [.ref q5])), (q2, .inl (g.2 1, 600, .inr (.inl f3)))] sz (fun _ => [(q5, .inl (g.2 1, 600, .inr (.inl f3))), (q1, .inr (3, [.ref q5])), (q2, .inl (g.2 1, 600, .inr (.inl f3)))])) 0 0 (va_A [(q5, .inl (g.2 1, 600, .inr (.inl f3))), (q1, .inr (3, [.ref q5])), (q2, .inl (g.2 1, 600, .inr (.inl f3)))] sz) := by
  refine ofN (by decide) (Nat.le_of_ble_eq_true rfl) rfl ?_
  intro p e s m args below meth c A ls hAe hsz hx hb hml hr hlocks hin hown hE hP hD hA hS hl
  have hown : s.vm.findClass RX1 = some m.cls := hown
  refine lv_iload_n hx hb dX1_sort_0 rfl (lv_at hl 2 rfl) ?_
  refine lv_aload_n hx hb dX1_sort_1 rfl (lv_at hl 1 rfl) ?_
  refine x_alenl (v := 600) hx hb hE hP 2 rfl rfl dX1_sort_2 ?_
  refine lv_aload_n hx hb dX1_sort_3 rfl (lv_at hl 0 rfl) ?_
  refine gf_RX1_13 hx hb hown hE hP 1 rfl rfl dX1_sort_4 ?_
  refine x_alenl (v := 600) hx hb hE hP 0 rfl rfl dX1_sort_7 ?_
  refine x_mmin (v := 600) hx hb (by rw [hml]; exact hl.1.symm) hown (e372 hE) (e362 hE) (e9 hE) (e363 hE) (Nat.le_of_ble_eq_true rfl) (Nat.le_of_ble_eq_true rfl) (Nat.le_of_ble_eq_true rfl) (Nat.le_of_ble_eq_true rfl) (by decide) dX1_sort_8 ?_
  refine x_mmin (v := 0) hx hb (by rw [hml]; exact hl.1.symm) hown (e372 hE) (e362 hE) (e9 hE) (e363 hE) (Nat.le_of_ble_eq_true rfl) (Nat.le_of_ble_eq_true rfl) (Nat.le_of_ble_eq_true rfl) (Nat.le_of_ble_eq_true rfl) (by decide) dX1_sort_11 ?_
  refine lv_istore_n (lv' := [(3, .int 0), (0, .ref q1), (1, .ref q2), (2, .int 0)]) hx hb dX1_sort_14 rfl hl (by decide) rfl (fun ls hl => ?_)
  refine lv_iconst (v := 1) hx hb dX1_sort_15 (by decide) ?_
  refine lv_istore (lv' := [(4, .int 1), (3, .int 0), (0, .ref q1), (1, .ref q2), (2, .int 0)]) hx hb dX1_sort_16 hl (by decide) rfl (fun ls hl => ?_)
  refine lv_iload hx hb dX1_sort_18 (lv_at hl 0 rfl) ?_
  refine lv_iload_n hx hb dX1_sort_20 rfl (lv_at hl 1 rfl) ?_
  refine lv_icmp_ge (tgt := 80) hx hb dX1_sort_21 (by decide) (fun _ => ?_) (fun h => absurd (by decide) h)
  exact x_vret hx hb hr hlocks hP hD hS hAe hsz (Nat.le_of_ble_eq_true rfl) (Nat.le_of_ble_eq_true rfl) (fun _ => 0) [0, 1, 2] (by decide) rfl dX1_sort_80

set_option maxHeartbeats 4000000 in
set_option maxRecDepth 100000 in
theorem c151_X0_list (l : Launch) (g : gG) (q1 q2 q16 q17 q20 : Nat) (w5 w6 w7 w8 w9 w10 w11 w13 w14 w15 : Value) (f18 : Nat → Int64) (sz : Nat) : Met l yX0_list [Cond.code yX0_list cX0_list 3 none] ({ frames := 2, cells := 0, slots := 0, locals := 49 } : Room) (va_Pc [.ref q1, .ref q2] (PX g sz [(q20, .inl (g.2 1, 600, .inr (.inl f18))), (q16, .inr (3, [.ref q20])), (q17, .inl (g.2 1, 600, .inr (.inl f18))), (q2, .inr (7, [w6, w7, w8, w9, w10, w11, .int 0, w13, w14, w15])), (q1, .inr (2, [.ref q17, .ref q16, w5]))])) (QV g [(q20, .inl (g.2 1, 600, .inr (.inl f18))), (q16, .inr (3, [.ref q20])), (q17, .inl (g.2 1, 600, .inr (.inl f18))), (q2, .inr (7, [w6, w7, w8, w9, w10, w11, .int 0, w13, w14, w15])), (q1, .inr (2, [.ref q17, .ref q16, w5]))] sz (fun _ => [(q1, .inr (2, [.ref q17, .ref q16, .int 0])), (q2, .inr (7, [w6, w7, w8, w9, w10, w11, .int 0, w13, w14, w15])), (q20, .inl (g.2 1, 600, .inr (.inl f18))), (q16, .inr (3, [.ref q20])), (q17, .inl (g.2 1, 600, .inr (.inl f18)))])) 0 0 (va_A [(q20, .inl (g.2 1, 600, .inr (.inl f18))), (q16, .inr (3, [.ref q20])), (q17, .inl (g.2 1, 600, .inr (.inl f18))), (q2, .inr (7, [w6, w7, w8, w9, w10, w11, .int 0, w13, w14, w15])), (q1, .inr (2, [.ref q17, .ref q16, w5]))] sz) := by
  refine ofN (by decide) (Nat.le_of_ble_eq_true rfl) rfl ?_
  intro p e s m args below meth c A ls hAe hsz hx hb hml hr hlocks hin hown hE hP hD hA hS hl
  have hown : s.vm.findClass RX0 = some m.cls := hown
  refine lv_aload_n hx hb dX0_list_0 rfl (lv_at hl 0 rfl) ?_
  refine lv_iconst (v := 0) hx hb dX0_list_1 (by decide) ?_
  refine pf_RX0_24 (ws' := [(q20, .inl (g.2 1, 600, .inr (.inl f18))), (q16, .inr (3, [.ref q20])), (q17, .inl (g.2 1, 600, .inr (.inl f18))), (q2, .inr (7, [w6, w7, w8, w9, w10, w11, .int 0, w13, w14, w15])), (q1, .inr (2, [.ref q17, .ref q16, .int 0]))]) hx hb hown hE hP hD hS 4 rfl rfl rfl (Nat.le_of_ble_eq_true rfl) dX0_list_2 rfl (fun H locs hP hD hS => ?_)
  refine lv_iconst (v := 0) hx hb dX0_list_5 (by decide) ?_
  refine lv_istore_n (lv' := [(2, .int 0), (0, .ref q1), (1, .ref q2)]) hx hb dX0_list_6 rfl hl (by decide) rfl (fun ls hl => ?_)
  refine lv_iload_n hx hb dX0_list_7 rfl (lv_at hl 0 rfl) ?_
  refine lv_aload_n hx hb dX0_list_8 rfl (lv_at hl 2 rfl) ?_
  refine g_i (wr := [(q20, .inl (g.2 1, 600, .inr (.inl f18))), (q16, .inr (3, [.ref q20])), (q17, .inl (g.2 1, 600, .inr (.inl f18))), (q1, .inr (2, [.ref q17, .ref q16, .int 0]))]) (rV (rest := [.int 0]) hx hb hml hown hE hP hD 3 rfl rfl (c149_X5_noteCount l g q2 w6 w7 w8 w9 w10 w11 w13 w14 w15 H.size) (kV_X5_noteCount hE (e475 hE) rfl rfl ⟨(Nat.le_of_ble_eq_true rfl), (Nat.le_of_ble_eq_true rfl)⟩) [3] rfl (by decide) rfl hl.1 rfl (lv_room (Nat.le_of_ble_eq_true rfl)) dX0_list_9 ⟨(Nat.le_of_ble_eq_true rfl), (Nat.le_of_ble_eq_true rfl)⟩) hP hD hS hA [3] [0, 1, 2, 4] rfl rfl (by decide) (by decide) (fun u1 H locs hP hD hS => ?_)
  have hP : va_P g.1 vwCl [(q20, .inl (g.2 1, 600, .inr (.inl f18))), (q16, .inr (3, [.ref q20])), (q17, .inl (g.2 1, 600, .inr (.inl f18))), (q1, .inr (2, [.ref q17, .ref q16, .int 0])), (q2, .inr (7, [w6, w7, w8, w9, w10, w11, .int 0, w13, w14, w15]))] H := hP
  have hD : va_D A [(q20, .inl (g.2 1, 600, .inr (.inl f18))), (q16, .inr (3, [.ref q20])), (q17, .inl (g.2 1, 600, .inr (.inl f18))), (q1, .inr (2, [.ref q17, .ref q16, .int 0])), (q2, .inr (7, [w6, w7, w8, w9, w10, w11, .int 0, w13, w14, w15]))] := hD
  refine lv_icmp_ge (tgt := 57) hx hb dX0_list_12 (by decide) (fun _ => ?_) (fun h => absurd (by decide) h)
  refine lv_aload_n hx hb dX0_list_57 rfl (lv_at hl 1 rfl) ?_
  refine gf_RX0_20 hx hb hown hE hP 3 rfl rfl dX0_list_58 ?_
  refine lv_aload_n hx hb dX0_list_61 rfl (lv_at hl 1 rfl) ?_
  refine gf_RX0_9 hx hb hown hE hP 3 rfl rfl dX0_list_62 ?_
  refine lv_aload_n hx hb dX0_list_65 rfl (lv_at hl 1 rfl) ?_
  refine gf_RX0_24 hx hb hown hE hP 3 rfl rfl dX0_list_66 ?_
  refine g_v (wr := [(q1, .inr (2, [.ref q17, .ref q16, .int 0])), (q2, .inr (7, [w6, w7, w8, w9, w10, w11, .int 0, w13, w14, w15]))]) (rV (rest := []) hx hb hml hown hE hP hD 1 rfl rfl (c150_X1_sort l g q16 q17 q20 f18 H.size) (kV_X1_sort hE (e484 hE) rfl rfl ⟨(Nat.le_of_ble_eq_true rfl), (Nat.le_of_ble_eq_true rfl)⟩) [0, 1, 2] rfl (by decide) rfl hl.1 rfl (lv_room (Nat.le_of_ble_eq_true rfl)) dX0_list_69 ⟨(Nat.le_of_ble_eq_true rfl), (Nat.le_of_ble_eq_true rfl)⟩) hP hD hS hA [0, 1, 2] [3, 4] rfl rfl (by decide) (by decide) (fun u2 H locs hP hD hS => ?_)
  have hP : va_P g.1 vwCl [(q1, .inr (2, [.ref q17, .ref q16, .int 0])), (q2, .inr (7, [w6, w7, w8, w9, w10, w11, .int 0, w13, w14, w15])), (q20, .inl (g.2 1, 600, .inr (.inl f18))), (q16, .inr (3, [.ref q20])), (q17, .inl (g.2 1, 600, .inr (.inl f18)))] H := hP
  have hD : va_D A [(q1, .inr (2, [.ref q17, .ref q16, .int 0])), (q2, .inr (7, [w6, w7, w8, w9, w10, w11, .int 0, w13, w14, w15])), (q20, .inl (g.2 1, 600, .inr (.inl f18))), (q16, .inr (3, [.ref q20])), (q17, .inl (g.2 1, 600, .inr (.inl f18)))] := hD
  exact x_vret hx hb hr hlocks hP hD hS hAe hsz (Nat.le_of_ble_eq_true rfl) (Nat.le_of_ble_eq_true rfl) (fun _ => 0) [0, 1, 2, 3, 4] (by decide) rfl dX0_list_72

set_option maxHeartbeats 4000000 in
set_option maxRecDepth 100000 in
theorem c152_X9_eventsOf (l : Launch) (g : gG) (q1 q2 q14 q28 q29 q32 : Nat) (w3 w4 w5 w7 w8 w9 w10 w11 w13 w17 w18 w19 w20 w21 w22 w23 w25 w26 w27 : Value) (f30 : Nat → Int64) (sz : Nat) : Met l yX9_eventsOf [Cond.code yX9_eventsOf cX9_eventsOf 2 (some (.object "PatternSequencer$Events"))] ({ frames := 3, cells := 0, slots := 0, locals := 71 } : Room) (va_Pc [.ref q1, .ref q2] (PX g sz [(q32, .inl (g.2 1, 600, .inr (.inl f30))), (q28, .inr (3, [.ref q32])), (q29, .inl (g.2 1, 600, .inr (.inl f30))), (q2, .inr (7, [w18, w19, w20, w21, w22, w23, .int 0, w25, w26, w27])), (q14, .inr (2, [.ref q29, .ref q28, w17])), (q1, .inr (11, [w3, w4, w5, .ref q14, w7, w8, w9, w10, w11, .int 0, w13]))])) (QR g [(q32, .inl (g.2 1, 600, .inr (.inl f30))), (q28, .inr (3, [.ref q32])), (q29, .inl (g.2 1, 600, .inr (.inl f30))), (q2, .inr (7, [w18, w19, w20, w21, w22, w23, .int 0, w25, w26, w27])), (q14, .inr (2, [.ref q29, .ref q28, w17])), (q1, .inr (11, [w3, w4, w5, .ref q14, w7, w8, w9, w10, w11, .int 0, w13]))] sz q14 (fun _ => [(q1, .inr (11, [w3, w4, w5, .ref q14, w7, w8, w9, w10, w11, .int 1, w13])), (q14, .inr (2, [.ref q29, .ref q28, .int 0])), (q2, .inr (7, [w18, w19, w20, w21, w22, w23, .int 0, w25, w26, w27])), (q32, .inl (g.2 1, 600, .inr (.inl f30))), (q28, .inr (3, [.ref q32])), (q29, .inl (g.2 1, 600, .inr (.inl f30)))])) 0 0 (va_A [(q32, .inl (g.2 1, 600, .inr (.inl f30))), (q28, .inr (3, [.ref q32])), (q29, .inl (g.2 1, 600, .inr (.inl f30))), (q2, .inr (7, [w18, w19, w20, w21, w22, w23, .int 0, w25, w26, w27])), (q14, .inr (2, [.ref q29, .ref q28, w17])), (q1, .inr (11, [w3, w4, w5, .ref q14, w7, w8, w9, w10, w11, .int 0, w13]))] sz) := by
  refine ofN (by decide) (Nat.le_of_ble_eq_true rfl) rfl ?_
  intro p e s m args below meth c A ls hAe hsz hx hb hml hr hlocks hin hown hE hP hD hA hS hl
  have hown : s.vm.findClass RX9 = some m.cls := hown
  refine lv_aload_n hx hb dX9_eventsOf_0 rfl (lv_at hl 0 rfl) ?_
  refine gf_RX9_63 hx hb hown hE hP 5 rfl rfl dX9_eventsOf_1 ?_
  refine lv_if_ne (tgt := 20) hx hb dX9_eventsOf_4 (by decide) (fun h => absurd h (by decide)) (fun _ => ?_)
  refine lv_aload_n hx hb dX9_eventsOf_7 rfl (lv_at hl 0 rfl) ?_
  refine gf_RX9_33 hx hb hown hE hP 5 rfl rfl dX9_eventsOf_8 ?_
  refine lv_aload_n hx hb dX9_eventsOf_11 rfl (lv_at hl 1 rfl) ?_
  refine g_v (wr := [(q1, .inr (11, [w3, w4, w5, .ref q14, w7, w8, w9, w10, w11, .int 0, w13]))]) (rV (rest := []) hx hb hml hown hE hP hD 4 rfl rfl (c151_X0_list l g q14 q2 q28 q29 q32 w17 w18 w19 w20 w21 w22 w23 w25 w26 w27 f30 s.heap.size) (kV_X0_list hE (e471 hE) rfl rfl ⟨(Nat.le_of_ble_eq_true rfl), (Nat.le_of_ble_eq_true rfl)⟩) [0, 1, 2, 3, 4] rfl (by decide) rfl hl.1 rfl (lv_room (Nat.le_of_ble_eq_true rfl)) dX9_eventsOf_12 ⟨(Nat.le_of_ble_eq_true rfl), (Nat.le_of_ble_eq_true rfl)⟩) hP hD hS hA [0, 1, 2, 3, 4] [5] rfl rfl (by decide) (by decide) (fun u1 H locs hP hD hS => ?_)
  have hP : va_P g.1 vwCl [(q1, .inr (11, [w3, w4, w5, .ref q14, w7, w8, w9, w10, w11, .int 0, w13])), (q14, .inr (2, [.ref q29, .ref q28, .int 0])), (q2, .inr (7, [w18, w19, w20, w21, w22, w23, .int 0, w25, w26, w27])), (q32, .inl (g.2 1, 600, .inr (.inl f30))), (q28, .inr (3, [.ref q32])), (q29, .inl (g.2 1, 600, .inr (.inl f30)))] H := hP
  have hD : va_D A [(q1, .inr (11, [w3, w4, w5, .ref q14, w7, w8, w9, w10, w11, .int 0, w13])), (q14, .inr (2, [.ref q29, .ref q28, .int 0])), (q2, .inr (7, [w18, w19, w20, w21, w22, w23, .int 0, w25, w26, w27])), (q32, .inl (g.2 1, 600, .inr (.inl f30))), (q28, .inr (3, [.ref q32])), (q29, .inl (g.2 1, 600, .inr (.inl f30)))] := hD
  refine lv_aload_n hx hb dX9_eventsOf_15 rfl (lv_at hl 0 rfl) ?_
  refine lv_iconst (v := 1) hx hb dX9_eventsOf_16 (by decide) ?_
  refine pf_RX9_63 (ws' := [(q1, .inr (11, [w3, w4, w5, .ref q14, w7, w8, w9, w10, w11, .int 1, w13])), (q14, .inr (2, [.ref q29, .ref q28, .int 0])), (q2, .inr (7, [w18, w19, w20, w21, w22, w23, .int 0, w25, w26, w27])), (q32, .inl (g.2 1, 600, .inr (.inl f30))), (q28, .inr (3, [.ref q32])), (q29, .inl (g.2 1, 600, .inr (.inl f30)))]) hx hb hown hE hP hD hS 0 rfl rfl rfl (Nat.le_of_ble_eq_true rfl) dX9_eventsOf_17 rfl (fun H locs hP hD hS => ?_)
  refine lv_aload_n hx hb dX9_eventsOf_20 rfl (lv_at hl 0 rfl) ?_
  refine gf_RX9_33 hx hb hown hE hP 0 rfl rfl dX9_eventsOf_21 ?_
  exact x_aret hx hb hr (Or.inl ⟨_, rfl⟩) hlocks hP hD hS hAe hsz (Nat.le_of_ble_eq_true rfl) (Nat.le_of_ble_eq_true rfl) (fun _ => 0) [0, 1, 2, 3, 4, 5] (by decide) rfl dX9_eventsOf_24

set_option maxHeartbeats 4000000 in
set_option maxRecDepth 100000 in
theorem c153_X0_greatestNumberAtOnce (l : Launch) (g : gG) (q1 : Nat) (w2 w3 : Value) (sz : Nat) : Met l yX0_greatestNumberAtOnce [Cond.code yX0_greatestNumberAtOnce cX0_greatestNumberAtOnce 4 (some .int)] ({ frames := 0, cells := 0, slots := 0, locals := 0 } : Room) (va_Pc [.ref q1] (PX g sz [(q1, .inr (2, [w2, w3, .int 0]))])) (QI g [(q1, .inr (2, [w2, w3, .int 0]))] sz 0 (fun _ => [(q1, .inr (2, [w2, w3, .int 0]))])) 0 0 (va_A [(q1, .inr (2, [w2, w3, .int 0]))] sz) := by
  refine ofN (by decide) (Nat.le_of_ble_eq_true rfl) rfl ?_
  intro p e s m args below meth c A ls hAe hsz hx hb hml hr hlocks hin hown hE hP hD hA hS hl
  have hown : s.vm.findClass RX0 = some m.cls := hown
  refine lv_iconst (v := 0) hx hb dX0_greatestNumberAtOnce_0 (by decide) ?_
  refine lv_istore_n (lv' := [(1, .int 0), (0, .ref q1)]) hx hb dX0_greatestNumberAtOnce_1 rfl hl (by decide) rfl (fun ls hl => ?_)
  refine lv_iconst (v := 0) hx hb dX0_greatestNumberAtOnce_2 (by decide) ?_
  refine lv_istore_n (lv' := [(2, .int 0), (1, .int 0), (0, .ref q1)]) hx hb dX0_greatestNumberAtOnce_3 rfl hl (by decide) rfl (fun ls hl => ?_)
  refine lv_iconst (v := 0) hx hb dX0_greatestNumberAtOnce_4 (by decide) ?_
  refine lv_istore_n (lv' := [(3, .int 0), (2, .int 0), (1, .int 0), (0, .ref q1)]) hx hb dX0_greatestNumberAtOnce_5 rfl hl (by decide) rfl (fun ls hl => ?_)
  refine lv_iload_n hx hb dX0_greatestNumberAtOnce_6 rfl (lv_at hl 0 rfl) ?_
  refine lv_aload_n hx hb dX0_greatestNumberAtOnce_7 rfl (lv_at hl 3 rfl) ?_
  refine gf_RX0_24 hx hb hown hE hP 0 rfl rfl dX0_greatestNumberAtOnce_8 ?_
  refine lv_icmp_ge (tgt := 43) hx hb dX0_greatestNumberAtOnce_11 (by decide) (fun _ => ?_) (fun h => absurd (by decide) h)
  refine lv_iload_n hx hb dX0_greatestNumberAtOnce_43 rfl (lv_at hl 1 rfl) ?_
  exact x_zret hx hb hr rfl rfl hlocks hP hD hS hAe hsz (Nat.le_of_ble_eq_true rfl) (Nat.le_of_ble_eq_true rfl) (fun _ => 0) [0] (by decide) rfl dX0_greatestNumberAtOnce_44

set_option maxHeartbeats 4000000 in
set_option maxRecDepth 100000 in
theorem c154_X9_polyphony (l : Launch) (g : gG) (q1 q13 q17 q20 q21 q39 q40 q43 q44 q46 q47 q51 q52 q54 : Nat) (w3 w6 w7 w8 w9 w12 w16 w22 w24 w28 w29 w30 w31 w32 w33 w34 w35 w37 w38 w50 : Value) (f18 : Nat → Option Nat) (f41 : Nat → Int64) (f45 : Nat → Int32) (hf19 : f18 0 = some q20) (sz : Nat) : Met l yX9_polyphony [Cond.code yX9_polyphony cX9_polyphony 1 (some .int)] ({ frames := 4, cells := 0, slots := 0, locals := 94 } : Room) (va_Pc [.ref q1] (PX g sz [(q54, .inl (g.2 1, 600, .inr (.inl f41))), (q51, .inr (3, [.ref q54])), (q52, .inl (g.2 1, 600, .inr (.inl f41))), (q47, .inr (2, [.ref q52, .ref q51, w50])), (q46, .inl (g.2 0, 300, .inl f45)), (q44, .inl (g.2 0, 8, .inl f45)), (q43, .inl (g.2 1, 300, .inr (.inl f41))), (q39, .inr (3, [.ref q43])), (q40, .inl (g.2 1, 300, .inr (.inl f41))), (q20, .inr (8, [w32, w33, w34, w35, .int 0, w37, w38])), (q21, .inr (7, [w22, .ref q46, w24, .ref q44, .ref q40, .ref q39, w28, w29, w30, w31])), (q17, .inl (g.2 3, 10, .inr (.inr (.inr (.inr f18))))), (q13, .inr (10, [.ref q17, .int 0, w16])), (q1, .inr (11, [.ref q13, w3, .ref q21, .ref q47, w6, w7, w8, w9, .int 0, .int 0, w12]))])) (QI g [(q54, .inl (g.2 1, 600, .inr (.inl f41))), (q51, .inr (3, [.ref q54])), (q52, .inl (g.2 1, 600, .inr (.inl f41))), (q47, .inr (2, [.ref q52, .ref q51, w50])), (q46, .inl (g.2 0, 300, .inl f45)), (q44, .inl (g.2 0, 8, .inl f45)), (q43, .inl (g.2 1, 300, .inr (.inl f41))), (q39, .inr (3, [.ref q43])), (q40, .inl (g.2 1, 300, .inr (.inl f41))), (q20, .inr (8, [w32, w33, w34, w35, .int 0, w37, w38])), (q21, .inr (7, [w22, .ref q46, w24, .ref q44, .ref q40, .ref q39, w28, w29, w30, w31])), (q17, .inl (g.2 3, 10, .inr (.inr (.inr (.inr f18))))), (q13, .inr (10, [.ref q17, .int 0, w16])), (q1, .inr (11, [.ref q13, w3, .ref q21, .ref q47, w6, w7, w8, w9, .int 0, .int 0, w12]))] sz 0 (fun _ => [])) 0 0 (va_A [(q54, .inl (g.2 1, 600, .inr (.inl f41))), (q51, .inr (3, [.ref q54])), (q52, .inl (g.2 1, 600, .inr (.inl f41))), (q47, .inr (2, [.ref q52, .ref q51, w50])), (q46, .inl (g.2 0, 300, .inl f45)), (q44, .inl (g.2 0, 8, .inl f45)), (q43, .inl (g.2 1, 300, .inr (.inl f41))), (q39, .inr (3, [.ref q43])), (q40, .inl (g.2 1, 300, .inr (.inl f41))), (q20, .inr (8, [w32, w33, w34, w35, .int 0, w37, w38])), (q21, .inr (7, [w22, .ref q46, w24, .ref q44, .ref q40, .ref q39, w28, w29, w30, w31])), (q17, .inl (g.2 3, 10, .inr (.inr (.inr (.inr f18))))), (q13, .inr (10, [.ref q17, .int 0, w16])), (q1, .inr (11, [.ref q13, w3, .ref q21, .ref q47, w6, w7, w8, w9, .int 0, .int 0, w12]))] sz) := by
  refine ofN (by decide) (Nat.le_of_ble_eq_true rfl) rfl ?_
  intro p e s m args below meth c A ls hAe hsz hx hb hml hr hlocks hin hown hE hP hD hA hS hl
  have hown : s.vm.findClass RX9 = some m.cls := hown
  refine lv_aload_n hx hb dX9_polyphony_0 rfl (lv_at hl 0 rfl) ?_
  refine lv_aload_n hx hb dX9_polyphony_1 rfl (lv_at hl 0 rfl) ?_
  refine g_r (wr := [(q54, .inl (g.2 1, 600, .inr (.inl f41))), (q51, .inr (3, [.ref q54])), (q52, .inl (g.2 1, 600, .inr (.inl f41))), (q47, .inr (2, [.ref q52, .ref q51, w50]))]) (rV (rest := [.ref q1]) hx hb hml hown hE hP hD 13 rfl rfl (c148_X9_upToDateScore l g q1 q13 q17 q20 q21 q39 q40 q43 q44 q46 w3 (.ref q47) w6 w7 w8 w9 (.int 0) w12 w16 w22 w24 w28 w29 w30 w31 w32 w33 w34 w35 w37 w38 f18 f41 f45 (hf19) s.heap.size) (kV_X9_upToDateScore hE (e318 hE) rfl rfl ⟨(Nat.le_of_ble_eq_true rfl), (Nat.le_of_ble_eq_true rfl)⟩) [4, 5, 6, 7, 8, 9, 10, 11, 12, 13] rfl (by decide) rfl hl.1 rfl (lv_room (Nat.le_of_ble_eq_true rfl)) dX9_polyphony_2 ⟨(Nat.le_of_ble_eq_true rfl), (Nat.le_of_ble_eq_true rfl)⟩) hP hD hS hA [4, 5, 6, 7, 8, 9, 10, 11, 12, 13] [0, 1, 2, 3] rfl rfl (by decide) (by decide) (fun u1 H locs hP hD hS => ?_)
  have hP : va_P g.1 vwCl [(q54, .inl (g.2 1, 600, .inr (.inl f41))), (q51, .inr (3, [.ref q54])), (q52, .inl (g.2 1, 600, .inr (.inl f41))), (q47, .inr (2, [.ref q52, .ref q51, w50])), (q1, .inr (11, [.ref q13, w3, .ref q21, .ref q47, w6, w7, w8, w9, .int 1, .int 0, w12])), (q17, .inl (g.2 3, 10, .inr (.inr (.inr (.inr f18))))), (q13, .inr (10, [.ref q17, .int 0, w16])), (q20, .inr (8, [w32, w33, w34, w35, .int 0, w37, w38])), (q21, .inr (7, [w22, .ref q46, w24, .ref q44, .ref q40, .ref q39, .int 0, .int 0, .int 0, .int 0])), (q44, .inl (g.2 0, 8, .inl (fillF 8 (-1) f45))), (q46, .inl (g.2 0, 300, .inl (fillF 300 (-1) f45))), (q43, .inl (g.2 1, 300, .inr (.inl f41))), (q39, .inr (3, [.ref q43])), (q40, .inl (g.2 1, 300, .inr (.inl f41)))] H := hP
  have hD : va_D A [(q54, .inl (g.2 1, 600, .inr (.inl f41))), (q51, .inr (3, [.ref q54])), (q52, .inl (g.2 1, 600, .inr (.inl f41))), (q47, .inr (2, [.ref q52, .ref q51, w50])), (q1, .inr (11, [.ref q13, w3, .ref q21, .ref q47, w6, w7, w8, w9, .int 1, .int 0, w12])), (q17, .inl (g.2 3, 10, .inr (.inr (.inr (.inr f18))))), (q13, .inr (10, [.ref q17, .int 0, w16])), (q20, .inr (8, [w32, w33, w34, w35, .int 0, w37, w38])), (q21, .inr (7, [w22, .ref q46, w24, .ref q44, .ref q40, .ref q39, .int 0, .int 0, .int 0, .int 0])), (q44, .inl (g.2 0, 8, .inl (fillF 8 (-1) f45))), (q46, .inl (g.2 0, 300, .inl (fillF 300 (-1) f45))), (q43, .inl (g.2 1, 300, .inr (.inl f41))), (q39, .inr (3, [.ref q43])), (q40, .inl (g.2 1, 300, .inr (.inl f41)))] := hD
  refine g_r (wr := [(q17, .inl (g.2 3, 10, .inr (.inr (.inr (.inr f18))))), (q13, .inr (10, [.ref q17, .int 0, w16])), (q20, .inr (8, [w32, w33, w34, w35, .int 0, w37, w38])), (q44, .inl (g.2 0, 8, .inl (fillF 8 (-1) f45))), (q46, .inl (g.2 0, 300, .inl (fillF 300 (-1) f45))), (q43, .inl (g.2 1, 300, .inr (.inl f41))), (q39, .inr (3, [.ref q43])), (q40, .inl (g.2 1, 300, .inr (.inl f41)))]) (rV (rest := []) hx hb hml hown hE hP hD 4 rfl rfl (c152_X9_eventsOf l g q1 q21 q47 q51 q52 q54 (.ref q13) w3 (.ref q21) w6 w7 w8 w9 (.int 1) w12 w50 w22 (.ref q46) w24 (.ref q44) (.ref q40) (.ref q39) (.int 0) (.int 0) (.int 0) f41 H.size) (kV_X9_eventsOf hE (e467 hE) rfl rfl ⟨(Nat.le_of_ble_eq_true rfl), (Nat.le_of_ble_eq_true rfl)⟩) [0, 1, 2, 8, 3, 4] rfl (by decide) rfl hl.1 rfl (lv_room (Nat.le_of_ble_eq_true rfl)) dX9_polyphony_5 ⟨(Nat.le_of_ble_eq_true rfl), (Nat.le_of_ble_eq_true rfl)⟩) hP hD hS hA [0, 1, 2, 8, 3, 4] [5, 6, 7, 9, 10, 11, 12, 13] rfl rfl (by decide) (by decide) (fun u2 H locs hP hD hS => ?_)
  have hP : va_P g.1 vwCl [(q17, .inl (g.2 3, 10, .inr (.inr (.inr (.inr f18))))), (q13, .inr (10, [.ref q17, .int 0, w16])), (q20, .inr (8, [w32, w33, w34, w35, .int 0, w37, w38])), (q44, .inl (g.2 0, 8, .inl (fillF 8 (-1) f45))), (q46, .inl (g.2 0, 300, .inl (fillF 300 (-1) f45))), (q43, .inl (g.2 1, 300, .inr (.inl f41))), (q39, .inr (3, [.ref q43])), (q40, .inl (g.2 1, 300, .inr (.inl f41))), (q1, .inr (11, [.ref q13, w3, .ref q21, .ref q47, w6, w7, w8, w9, .int 1, .int 1, w12])), (q47, .inr (2, [.ref q52, .ref q51, .int 0])), (q21, .inr (7, [w22, .ref q46, w24, .ref q44, .ref q40, .ref q39, .int 0, .int 0, .int 0, .int 0])), (q54, .inl (g.2 1, 600, .inr (.inl f41))), (q51, .inr (3, [.ref q54])), (q52, .inl (g.2 1, 600, .inr (.inl f41)))] H := hP
  have hD : va_D A [(q17, .inl (g.2 3, 10, .inr (.inr (.inr (.inr f18))))), (q13, .inr (10, [.ref q17, .int 0, w16])), (q20, .inr (8, [w32, w33, w34, w35, .int 0, w37, w38])), (q44, .inl (g.2 0, 8, .inl (fillF 8 (-1) f45))), (q46, .inl (g.2 0, 300, .inl (fillF 300 (-1) f45))), (q43, .inl (g.2 1, 300, .inr (.inl f41))), (q39, .inr (3, [.ref q43])), (q40, .inl (g.2 1, 300, .inr (.inl f41))), (q1, .inr (11, [.ref q13, w3, .ref q21, .ref q47, w6, w7, w8, w9, .int 1, .int 1, w12])), (q47, .inr (2, [.ref q52, .ref q51, .int 0])), (q21, .inr (7, [w22, .ref q46, w24, .ref q44, .ref q40, .ref q39, .int 0, .int 0, .int 0, .int 0])), (q54, .inl (g.2 1, 600, .inr (.inl f41))), (q51, .inr (3, [.ref q54])), (q52, .inl (g.2 1, 600, .inr (.inl f41)))] := hD
  refine g_i (wr := [(q17, .inl (g.2 3, 10, .inr (.inr (.inr (.inr f18))))), (q13, .inr (10, [.ref q17, .int 0, w16])), (q20, .inr (8, [w32, w33, w34, w35, .int 0, w37, w38])), (q44, .inl (g.2 0, 8, .inl (fillF 8 (-1) f45))), (q46, .inl (g.2 0, 300, .inl (fillF 300 (-1) f45))), (q43, .inl (g.2 1, 300, .inr (.inl f41))), (q39, .inr (3, [.ref q43])), (q40, .inl (g.2 1, 300, .inr (.inl f41))), (q1, .inr (11, [.ref q13, w3, .ref q21, .ref q47, w6, w7, w8, w9, .int 1, .int 1, w12])), (q21, .inr (7, [w22, .ref q46, w24, .ref q44, .ref q40, .ref q39, .int 0, .int 0, .int 0, .int 0])), (q54, .inl (g.2 1, 600, .inr (.inl f41))), (q51, .inr (3, [.ref q54])), (q52, .inl (g.2 1, 600, .inr (.inl f41)))]) (rV (rest := []) hx hb hml hown hE hP hD 9 rfl rfl (c153_X0_greatestNumberAtOnce l g q47 (.ref q52) (.ref q51) H.size) (kV_X0_greatestNumberAtOnce hE (e485 hE) rfl rfl ⟨(Nat.le_of_ble_eq_true rfl), (Nat.le_of_ble_eq_true rfl)⟩) [9] rfl (by decide) rfl hl.1 rfl (lv_room (Nat.le_of_ble_eq_true rfl)) dX9_polyphony_8 ⟨(Nat.le_of_ble_eq_true rfl), (Nat.le_of_ble_eq_true rfl)⟩) hP hD hS hA [9] [0, 1, 2, 3, 4, 5, 6, 7, 8, 10, 11, 12, 13] rfl rfl (by decide) (by decide) (fun u3 H locs hP hD hS => ?_)
  have hP : va_P g.1 vwCl [(q17, .inl (g.2 3, 10, .inr (.inr (.inr (.inr f18))))), (q13, .inr (10, [.ref q17, .int 0, w16])), (q20, .inr (8, [w32, w33, w34, w35, .int 0, w37, w38])), (q44, .inl (g.2 0, 8, .inl (fillF 8 (-1) f45))), (q46, .inl (g.2 0, 300, .inl (fillF 300 (-1) f45))), (q43, .inl (g.2 1, 300, .inr (.inl f41))), (q39, .inr (3, [.ref q43])), (q40, .inl (g.2 1, 300, .inr (.inl f41))), (q1, .inr (11, [.ref q13, w3, .ref q21, .ref q47, w6, w7, w8, w9, .int 1, .int 1, w12])), (q21, .inr (7, [w22, .ref q46, w24, .ref q44, .ref q40, .ref q39, .int 0, .int 0, .int 0, .int 0])), (q54, .inl (g.2 1, 600, .inr (.inl f41))), (q51, .inr (3, [.ref q54])), (q52, .inl (g.2 1, 600, .inr (.inl f41))), (q47, .inr (2, [.ref q52, .ref q51, .int 0]))] H := hP
  have hD : va_D A [(q17, .inl (g.2 3, 10, .inr (.inr (.inr (.inr f18))))), (q13, .inr (10, [.ref q17, .int 0, w16])), (q20, .inr (8, [w32, w33, w34, w35, .int 0, w37, w38])), (q44, .inl (g.2 0, 8, .inl (fillF 8 (-1) f45))), (q46, .inl (g.2 0, 300, .inl (fillF 300 (-1) f45))), (q43, .inl (g.2 1, 300, .inr (.inl f41))), (q39, .inr (3, [.ref q43])), (q40, .inl (g.2 1, 300, .inr (.inl f41))), (q1, .inr (11, [.ref q13, w3, .ref q21, .ref q47, w6, w7, w8, w9, .int 1, .int 1, w12])), (q21, .inr (7, [w22, .ref q46, w24, .ref q44, .ref q40, .ref q39, .int 0, .int 0, .int 0, .int 0])), (q54, .inl (g.2 1, 600, .inr (.inl f41))), (q51, .inr (3, [.ref q54])), (q52, .inl (g.2 1, 600, .inr (.inl f41))), (q47, .inr (2, [.ref q52, .ref q51, .int 0]))] := hD
  exact x_zret hx hb hr rfl rfl hlocks hP hD hS hAe hsz (Nat.le_of_ble_eq_true rfl) (Nat.le_of_ble_eq_true rfl) (fun _ => 0) [] (by decide) rfl dX9_polyphony_11

set_option maxHeartbeats 4000000 in
set_option maxRecDepth 100000 in
theorem c155_X10_itemsAt (l : Launch) (g : gG) (sz : Nat) : Met l yX10_itemsAt [Cond.code yX10_itemsAt cX10_itemsAt 1 (some .int)] ({ frames := 0, cells := 0, slots := 0, locals := 0 } : Room) (va_Pc [.int 0] (PX g sz [])) (QI g [] sz 0 (fun _ => [])) 0 0 (va_A [] sz) := by
  refine ofN (by decide) (Nat.le_of_ble_eq_true rfl) rfl ?_
  intro p e s m args below meth c A ls hAe hsz hx hb hml hr hlocks hin hown hE hP hD hA hS hl
  have hown : s.vm.findClass RX10 = some m.cls := hown
  refine lv_iconst (v := 0) hx hb dX10_itemsAt_0 (by decide) ?_
  refine lv_bipush (v := 49) hx hb dX10_itemsAt_1 (by decide) ?_
  refine lv_iload_n hx hb dX10_itemsAt_3 rfl (lv_at hl 0 rfl) ?_
  refine x_imul (v := 0) hx hb dX10_itemsAt_4 (by decide) ?_
  refine x_iadd (v := 0) hx hb dX10_itemsAt_5 (by decide) ?_
  exact x_zret hx hb hr rfl rfl hlocks hP hD hS hAe hsz (Nat.le_of_ble_eq_true rfl) (Nat.le_of_ble_eq_true rfl) (fun _ => 0) [] (by decide) rfl dX10_itemsAt_6

set_option maxHeartbeats 4000000 in
set_option maxRecDepth 100000 in
theorem c156_X10_many (l : Launch) (g : gG) (q1 q39 : Nat) (w3 w4 w5 w6 w7 w8 w9 w10 w11 w12 w13 w14 w15 w16 w17 w18 w19 w20 w21 w22 w23 w24 w25 w26 w27 w28 w29 w30 w31 w32 w33 w34 w35 w36 w37 w38 : Value) (f40 : Nat → Int32) (hf41 : f40 0 = 0) (sz : Nat) : Met l yX10_many [Cond.code yX10_many cX10_many 2 (some .int)] ({ frames := 1, cells := 0, slots := 0, locals := 20 } : Room) (va_Pc [.ref q1, .int 0] (PX g sz [(q39, .inl (g.2 0, 497, .inl f40)), (q1, .inr (12, [.ref q39, w3, w4, w5, w6, w7, w8, w9, w10, w11, w12, w13, w14, w15, w16, w17, w18, w19, w20, w21, w22, w23, w24, w25, w26, w27, w28, w29, w30, w31, w32, w33, w34, w35, w36, w37, w38]))])) (QI g [(q39, .inl (g.2 0, 497, .inl f40)), (q1, .inr (12, [.ref q39, w3, w4, w5, w6, w7, w8, w9, w10, w11, w12, w13, w14, w15, w16, w17, w18, w19, w20, w21, w22, w23, w24, w25, w26, w27, w28, w29, w30, w31, w32, w33, w34, w35, w36, w37, w38]))] sz 0 (fun _ => [(q39, .inl (g.2 0, 497, .inl f40)), (q1, .inr (12, [.ref q39, w3, w4, w5, w6, w7, w8, w9, w10, w11, w12, w13, w14, w15, w16, w17, w18, w19, w20, w21, w22, w23, w24, w25, w26, w27, w28, w29, w30, w31, w32, w33, w34, w35, w36, w37, w38]))])) 0 0 (va_A [(q39, .inl (g.2 0, 497, .inl f40)), (q1, .inr (12, [.ref q39, w3, w4, w5, w6, w7, w8, w9, w10, w11, w12, w13, w14, w15, w16, w17, w18, w19, w20, w21, w22, w23, w24, w25, w26, w27, w28, w29, w30, w31, w32, w33, w34, w35, w36, w37, w38]))] sz) := by
  refine ofN (by decide) (Nat.le_of_ble_eq_true rfl) rfl ?_
  intro p e s m args below meth c A ls hAe hsz hx hb hml hr hlocks hin hown hE hP hD hA hS hl
  have hown : s.vm.findClass RX10 = some m.cls := hown
  refine lv_aload_n hx hb dX10_many_0 rfl (lv_at hl 0 rfl) ?_
  refine gf_RX10_9 hx hb hown hE hP 1 rfl rfl dX10_many_1 ?_
  refine lv_iload_n hx hb dX10_many_4 rfl (lv_at hl 1 rfl) ?_
  refine g0_i (rS (rest := [.ref q39]) hx hb hml hown hE hP hD (c155_X10_itemsAt l g s.heap.size) (kS_X10_itemsAt hE (e1445 hE) rfl rfl ⟨(Nat.le_of_ble_eq_true rfl), (Nat.le_of_ble_eq_true rfl)⟩) [] rfl (by decide) rfl hl.1 rfl (lv_room (Nat.le_of_ble_eq_true rfl)) dX10_many_5 ⟨(Nat.le_of_ble_eq_true rfl), (Nat.le_of_ble_eq_true rfl)⟩) hP hD hS hA (fun u9 H locs hP hS => ?_)
  refine x_iald (v := 0) hx hb hE hP 0 rfl 0 (x_in (by decide)) (by decide) hf41 dX10_many_8 ?_
  exact x_zret hx hb hr rfl rfl hlocks hP hD hS hAe hsz (Nat.le_of_ble_eq_true rfl) (Nat.le_of_ble_eq_true rfl) (fun _ => 0) [0, 1] (by decide) rfl dX10_many_9

set_option maxHeartbeats 4000000 in
set_option maxRecDepth 100000 in
theorem c157_X10_itemsAt (l : Launch) (g : gG) (sz : Nat) : Met l yX10_itemsAt [Cond.code yX10_itemsAt cX10_itemsAt 1 (some .int)] ({ frames := 0, cells := 0, slots := 0, locals := 0 } : Room) (va_Pc [.int 1] (PX g sz [])) (QI g [] sz 49 (fun _ => [])) 0 0 (va_A [] sz) := by
  refine ofN (by decide) (Nat.le_of_ble_eq_true rfl) rfl ?_
  intro p e s m args below meth c A ls hAe hsz hx hb hml hr hlocks hin hown hE hP hD hA hS hl
  have hown : s.vm.findClass RX10 = some m.cls := hown
  refine lv_iconst (v := 0) hx hb dX10_itemsAt_0 (by decide) ?_
  refine lv_bipush (v := 49) hx hb dX10_itemsAt_1 (by decide) ?_
  refine lv_iload_n hx hb dX10_itemsAt_3 rfl (lv_at hl 0 rfl) ?_
  refine x_imul (v := 49) hx hb dX10_itemsAt_4 (by decide) ?_
  refine x_iadd (v := 49) hx hb dX10_itemsAt_5 (by decide) ?_
  exact x_zret hx hb hr rfl rfl hlocks hP hD hS hAe hsz (Nat.le_of_ble_eq_true rfl) (Nat.le_of_ble_eq_true rfl) (fun _ => 0) [] (by decide) rfl dX10_itemsAt_6

set_option maxHeartbeats 4000000 in
set_option maxRecDepth 100000 in
theorem c158_X10_many (l : Launch) (g : gG) (q1 q39 : Nat) (w3 w4 w5 w6 w7 w8 w9 w10 w11 w12 w13 w14 w15 w16 w17 w18 w19 w20 w21 w22 w23 w24 w25 w26 w27 w28 w29 w30 w31 w32 w33 w34 w35 w36 w37 w38 : Value) (f40 : Nat → Int32) (hf41 : f40 49 = 0) (sz : Nat) : Met l yX10_many [Cond.code yX10_many cX10_many 2 (some .int)] ({ frames := 1, cells := 0, slots := 0, locals := 20 } : Room) (va_Pc [.ref q1, .int 1] (PX g sz [(q39, .inl (g.2 0, 497, .inl f40)), (q1, .inr (12, [.ref q39, w3, w4, w5, w6, w7, w8, w9, w10, w11, w12, w13, w14, w15, w16, w17, w18, w19, w20, w21, w22, w23, w24, w25, w26, w27, w28, w29, w30, w31, w32, w33, w34, w35, w36, w37, w38]))])) (QI g [(q39, .inl (g.2 0, 497, .inl f40)), (q1, .inr (12, [.ref q39, w3, w4, w5, w6, w7, w8, w9, w10, w11, w12, w13, w14, w15, w16, w17, w18, w19, w20, w21, w22, w23, w24, w25, w26, w27, w28, w29, w30, w31, w32, w33, w34, w35, w36, w37, w38]))] sz 0 (fun _ => [(q39, .inl (g.2 0, 497, .inl f40)), (q1, .inr (12, [.ref q39, w3, w4, w5, w6, w7, w8, w9, w10, w11, w12, w13, w14, w15, w16, w17, w18, w19, w20, w21, w22, w23, w24, w25, w26, w27, w28, w29, w30, w31, w32, w33, w34, w35, w36, w37, w38]))])) 0 0 (va_A [(q39, .inl (g.2 0, 497, .inl f40)), (q1, .inr (12, [.ref q39, w3, w4, w5, w6, w7, w8, w9, w10, w11, w12, w13, w14, w15, w16, w17, w18, w19, w20, w21, w22, w23, w24, w25, w26, w27, w28, w29, w30, w31, w32, w33, w34, w35, w36, w37, w38]))] sz) := by
  refine ofN (by decide) (Nat.le_of_ble_eq_true rfl) rfl ?_
  intro p e s m args below meth c A ls hAe hsz hx hb hml hr hlocks hin hown hE hP hD hA hS hl
  have hown : s.vm.findClass RX10 = some m.cls := hown
  refine lv_aload_n hx hb dX10_many_0 rfl (lv_at hl 0 rfl) ?_
  refine gf_RX10_9 hx hb hown hE hP 1 rfl rfl dX10_many_1 ?_
  refine lv_iload_n hx hb dX10_many_4 rfl (lv_at hl 1 rfl) ?_
  refine g0_i (rS (rest := [.ref q39]) hx hb hml hown hE hP hD (c157_X10_itemsAt l g s.heap.size) (kS_X10_itemsAt hE (e1445 hE) rfl rfl ⟨(Nat.le_of_ble_eq_true rfl), (Nat.le_of_ble_eq_true rfl)⟩) [] rfl (by decide) rfl hl.1 rfl (lv_room (Nat.le_of_ble_eq_true rfl)) dX10_many_5 ⟨(Nat.le_of_ble_eq_true rfl), (Nat.le_of_ble_eq_true rfl)⟩) hP hD hS hA (fun u9 H locs hP hS => ?_)
  refine x_iald (v := 0) hx hb hE hP 0 rfl 49 (x_in (by decide)) (by decide) hf41 dX10_many_8 ?_
  exact x_zret hx hb hr rfl rfl hlocks hP hD hS hAe hsz (Nat.le_of_ble_eq_true rfl) (Nat.le_of_ble_eq_true rfl) (fun _ => 0) [0, 1] (by decide) rfl dX10_many_9

set_option maxHeartbeats 4000000 in
set_option maxRecDepth 100000 in
theorem c159_X10_itemsAt (l : Launch) (g : gG) (sz : Nat) : Met l yX10_itemsAt [Cond.code yX10_itemsAt cX10_itemsAt 1 (some .int)] ({ frames := 0, cells := 0, slots := 0, locals := 0 } : Room) (va_Pc [.int 2] (PX g sz [])) (QI g [] sz 98 (fun _ => [])) 0 0 (va_A [] sz) := by
  refine ofN (by decide) (Nat.le_of_ble_eq_true rfl) rfl ?_
  intro p e s m args below meth c A ls hAe hsz hx hb hml hr hlocks hin hown hE hP hD hA hS hl
  have hown : s.vm.findClass RX10 = some m.cls := hown
  refine lv_iconst (v := 0) hx hb dX10_itemsAt_0 (by decide) ?_
  refine lv_bipush (v := 49) hx hb dX10_itemsAt_1 (by decide) ?_
  refine lv_iload_n hx hb dX10_itemsAt_3 rfl (lv_at hl 0 rfl) ?_
  refine x_imul (v := 98) hx hb dX10_itemsAt_4 (by decide) ?_
  refine x_iadd (v := 98) hx hb dX10_itemsAt_5 (by decide) ?_
  exact x_zret hx hb hr rfl rfl hlocks hP hD hS hAe hsz (Nat.le_of_ble_eq_true rfl) (Nat.le_of_ble_eq_true rfl) (fun _ => 0) [] (by decide) rfl dX10_itemsAt_6

set_option maxHeartbeats 4000000 in
set_option maxRecDepth 100000 in
theorem c160_X10_many (l : Launch) (g : gG) (q1 q39 : Nat) (w3 w4 w5 w6 w7 w8 w9 w10 w11 w12 w13 w14 w15 w16 w17 w18 w19 w20 w21 w22 w23 w24 w25 w26 w27 w28 w29 w30 w31 w32 w33 w34 w35 w36 w37 w38 : Value) (f40 : Nat → Int32) (hf41 : f40 98 = 0) (sz : Nat) : Met l yX10_many [Cond.code yX10_many cX10_many 2 (some .int)] ({ frames := 1, cells := 0, slots := 0, locals := 20 } : Room) (va_Pc [.ref q1, .int 2] (PX g sz [(q39, .inl (g.2 0, 497, .inl f40)), (q1, .inr (12, [.ref q39, w3, w4, w5, w6, w7, w8, w9, w10, w11, w12, w13, w14, w15, w16, w17, w18, w19, w20, w21, w22, w23, w24, w25, w26, w27, w28, w29, w30, w31, w32, w33, w34, w35, w36, w37, w38]))])) (QI g [(q39, .inl (g.2 0, 497, .inl f40)), (q1, .inr (12, [.ref q39, w3, w4, w5, w6, w7, w8, w9, w10, w11, w12, w13, w14, w15, w16, w17, w18, w19, w20, w21, w22, w23, w24, w25, w26, w27, w28, w29, w30, w31, w32, w33, w34, w35, w36, w37, w38]))] sz 0 (fun _ => [(q39, .inl (g.2 0, 497, .inl f40)), (q1, .inr (12, [.ref q39, w3, w4, w5, w6, w7, w8, w9, w10, w11, w12, w13, w14, w15, w16, w17, w18, w19, w20, w21, w22, w23, w24, w25, w26, w27, w28, w29, w30, w31, w32, w33, w34, w35, w36, w37, w38]))])) 0 0 (va_A [(q39, .inl (g.2 0, 497, .inl f40)), (q1, .inr (12, [.ref q39, w3, w4, w5, w6, w7, w8, w9, w10, w11, w12, w13, w14, w15, w16, w17, w18, w19, w20, w21, w22, w23, w24, w25, w26, w27, w28, w29, w30, w31, w32, w33, w34, w35, w36, w37, w38]))] sz) := by
  refine ofN (by decide) (Nat.le_of_ble_eq_true rfl) rfl ?_
  intro p e s m args below meth c A ls hAe hsz hx hb hml hr hlocks hin hown hE hP hD hA hS hl
  have hown : s.vm.findClass RX10 = some m.cls := hown
  refine lv_aload_n hx hb dX10_many_0 rfl (lv_at hl 0 rfl) ?_
  refine gf_RX10_9 hx hb hown hE hP 1 rfl rfl dX10_many_1 ?_
  refine lv_iload_n hx hb dX10_many_4 rfl (lv_at hl 1 rfl) ?_
  refine g0_i (rS (rest := [.ref q39]) hx hb hml hown hE hP hD (c159_X10_itemsAt l g s.heap.size) (kS_X10_itemsAt hE (e1445 hE) rfl rfl ⟨(Nat.le_of_ble_eq_true rfl), (Nat.le_of_ble_eq_true rfl)⟩) [] rfl (by decide) rfl hl.1 rfl (lv_room (Nat.le_of_ble_eq_true rfl)) dX10_many_5 ⟨(Nat.le_of_ble_eq_true rfl), (Nat.le_of_ble_eq_true rfl)⟩) hP hD hS hA (fun u9 H locs hP hS => ?_)
  refine x_iald (v := 0) hx hb hE hP 0 rfl 98 (x_in (by decide)) (by decide) hf41 dX10_many_8 ?_
  exact x_zret hx hb hr rfl rfl hlocks hP hD hS hAe hsz (Nat.le_of_ble_eq_true rfl) (Nat.le_of_ble_eq_true rfl) (fun _ => 0) [0, 1] (by decide) rfl dX10_many_9

set_option maxHeartbeats 4000000 in
set_option maxRecDepth 100000 in
theorem c161_X10_itemsAt (l : Launch) (g : gG) (sz : Nat) : Met l yX10_itemsAt [Cond.code yX10_itemsAt cX10_itemsAt 1 (some .int)] ({ frames := 0, cells := 0, slots := 0, locals := 0 } : Room) (va_Pc [.int 3] (PX g sz [])) (QI g [] sz 147 (fun _ => [])) 0 0 (va_A [] sz) := by
  refine ofN (by decide) (Nat.le_of_ble_eq_true rfl) rfl ?_
  intro p e s m args below meth c A ls hAe hsz hx hb hml hr hlocks hin hown hE hP hD hA hS hl
  have hown : s.vm.findClass RX10 = some m.cls := hown
  refine lv_iconst (v := 0) hx hb dX10_itemsAt_0 (by decide) ?_
  refine lv_bipush (v := 49) hx hb dX10_itemsAt_1 (by decide) ?_
  refine lv_iload_n hx hb dX10_itemsAt_3 rfl (lv_at hl 0 rfl) ?_
  refine x_imul (v := 147) hx hb dX10_itemsAt_4 (by decide) ?_
  refine x_iadd (v := 147) hx hb dX10_itemsAt_5 (by decide) ?_
  exact x_zret hx hb hr rfl rfl hlocks hP hD hS hAe hsz (Nat.le_of_ble_eq_true rfl) (Nat.le_of_ble_eq_true rfl) (fun _ => 0) [] (by decide) rfl dX10_itemsAt_6

set_option maxHeartbeats 4000000 in
set_option maxRecDepth 100000 in
theorem c162_X10_many (l : Launch) (g : gG) (q1 q39 : Nat) (w3 w4 w5 w6 w7 w8 w9 w10 w11 w12 w13 w14 w15 w16 w17 w18 w19 w20 w21 w22 w23 w24 w25 w26 w27 w28 w29 w30 w31 w32 w33 w34 w35 w36 w37 w38 : Value) (f40 : Nat → Int32) (hf41 : f40 147 = 0) (sz : Nat) : Met l yX10_many [Cond.code yX10_many cX10_many 2 (some .int)] ({ frames := 1, cells := 0, slots := 0, locals := 20 } : Room) (va_Pc [.ref q1, .int 3] (PX g sz [(q39, .inl (g.2 0, 497, .inl f40)), (q1, .inr (12, [.ref q39, w3, w4, w5, w6, w7, w8, w9, w10, w11, w12, w13, w14, w15, w16, w17, w18, w19, w20, w21, w22, w23, w24, w25, w26, w27, w28, w29, w30, w31, w32, w33, w34, w35, w36, w37, w38]))])) (QI g [(q39, .inl (g.2 0, 497, .inl f40)), (q1, .inr (12, [.ref q39, w3, w4, w5, w6, w7, w8, w9, w10, w11, w12, w13, w14, w15, w16, w17, w18, w19, w20, w21, w22, w23, w24, w25, w26, w27, w28, w29, w30, w31, w32, w33, w34, w35, w36, w37, w38]))] sz 0 (fun _ => [(q39, .inl (g.2 0, 497, .inl f40)), (q1, .inr (12, [.ref q39, w3, w4, w5, w6, w7, w8, w9, w10, w11, w12, w13, w14, w15, w16, w17, w18, w19, w20, w21, w22, w23, w24, w25, w26, w27, w28, w29, w30, w31, w32, w33, w34, w35, w36, w37, w38]))])) 0 0 (va_A [(q39, .inl (g.2 0, 497, .inl f40)), (q1, .inr (12, [.ref q39, w3, w4, w5, w6, w7, w8, w9, w10, w11, w12, w13, w14, w15, w16, w17, w18, w19, w20, w21, w22, w23, w24, w25, w26, w27, w28, w29, w30, w31, w32, w33, w34, w35, w36, w37, w38]))] sz) := by
  refine ofN (by decide) (Nat.le_of_ble_eq_true rfl) rfl ?_
  intro p e s m args below meth c A ls hAe hsz hx hb hml hr hlocks hin hown hE hP hD hA hS hl
  have hown : s.vm.findClass RX10 = some m.cls := hown
  refine lv_aload_n hx hb dX10_many_0 rfl (lv_at hl 0 rfl) ?_
  refine gf_RX10_9 hx hb hown hE hP 1 rfl rfl dX10_many_1 ?_
  refine lv_iload_n hx hb dX10_many_4 rfl (lv_at hl 1 rfl) ?_
  refine g0_i (rS (rest := [.ref q39]) hx hb hml hown hE hP hD (c161_X10_itemsAt l g s.heap.size) (kS_X10_itemsAt hE (e1445 hE) rfl rfl ⟨(Nat.le_of_ble_eq_true rfl), (Nat.le_of_ble_eq_true rfl)⟩) [] rfl (by decide) rfl hl.1 rfl (lv_room (Nat.le_of_ble_eq_true rfl)) dX10_many_5 ⟨(Nat.le_of_ble_eq_true rfl), (Nat.le_of_ble_eq_true rfl)⟩) hP hD hS hA (fun u9 H locs hP hS => ?_)
  refine x_iald (v := 0) hx hb hE hP 0 rfl 147 (x_in (by decide)) (by decide) hf41 dX10_many_8 ?_
  exact x_zret hx hb hr rfl rfl hlocks hP hD hS hAe hsz (Nat.le_of_ble_eq_true rfl) (Nat.le_of_ble_eq_true rfl) (fun _ => 0) [0, 1] (by decide) rfl dX10_many_9

set_option maxHeartbeats 4000000 in
set_option maxRecDepth 100000 in
theorem c163_X10_itemsAt (l : Launch) (g : gG) (sz : Nat) : Met l yX10_itemsAt [Cond.code yX10_itemsAt cX10_itemsAt 1 (some .int)] ({ frames := 0, cells := 0, slots := 0, locals := 0 } : Room) (va_Pc [.int 4] (PX g sz [])) (QI g [] sz 196 (fun _ => [])) 0 0 (va_A [] sz) := by
  refine ofN (by decide) (Nat.le_of_ble_eq_true rfl) rfl ?_
  intro p e s m args below meth c A ls hAe hsz hx hb hml hr hlocks hin hown hE hP hD hA hS hl
  have hown : s.vm.findClass RX10 = some m.cls := hown
  refine lv_iconst (v := 0) hx hb dX10_itemsAt_0 (by decide) ?_
  refine lv_bipush (v := 49) hx hb dX10_itemsAt_1 (by decide) ?_
  refine lv_iload_n hx hb dX10_itemsAt_3 rfl (lv_at hl 0 rfl) ?_
  refine x_imul (v := 196) hx hb dX10_itemsAt_4 (by decide) ?_
  refine x_iadd (v := 196) hx hb dX10_itemsAt_5 (by decide) ?_
  exact x_zret hx hb hr rfl rfl hlocks hP hD hS hAe hsz (Nat.le_of_ble_eq_true rfl) (Nat.le_of_ble_eq_true rfl) (fun _ => 0) [] (by decide) rfl dX10_itemsAt_6

set_option maxHeartbeats 4000000 in
set_option maxRecDepth 100000 in
theorem c164_X10_many (l : Launch) (g : gG) (q1 q39 : Nat) (w3 w4 w5 w6 w7 w8 w9 w10 w11 w12 w13 w14 w15 w16 w17 w18 w19 w20 w21 w22 w23 w24 w25 w26 w27 w28 w29 w30 w31 w32 w33 w34 w35 w36 w37 w38 : Value) (f40 : Nat → Int32) (hf41 : f40 196 = 0) (sz : Nat) : Met l yX10_many [Cond.code yX10_many cX10_many 2 (some .int)] ({ frames := 1, cells := 0, slots := 0, locals := 20 } : Room) (va_Pc [.ref q1, .int 4] (PX g sz [(q39, .inl (g.2 0, 497, .inl f40)), (q1, .inr (12, [.ref q39, w3, w4, w5, w6, w7, w8, w9, w10, w11, w12, w13, w14, w15, w16, w17, w18, w19, w20, w21, w22, w23, w24, w25, w26, w27, w28, w29, w30, w31, w32, w33, w34, w35, w36, w37, w38]))])) (QI g [(q39, .inl (g.2 0, 497, .inl f40)), (q1, .inr (12, [.ref q39, w3, w4, w5, w6, w7, w8, w9, w10, w11, w12, w13, w14, w15, w16, w17, w18, w19, w20, w21, w22, w23, w24, w25, w26, w27, w28, w29, w30, w31, w32, w33, w34, w35, w36, w37, w38]))] sz 0 (fun _ => [(q39, .inl (g.2 0, 497, .inl f40)), (q1, .inr (12, [.ref q39, w3, w4, w5, w6, w7, w8, w9, w10, w11, w12, w13, w14, w15, w16, w17, w18, w19, w20, w21, w22, w23, w24, w25, w26, w27, w28, w29, w30, w31, w32, w33, w34, w35, w36, w37, w38]))])) 0 0 (va_A [(q39, .inl (g.2 0, 497, .inl f40)), (q1, .inr (12, [.ref q39, w3, w4, w5, w6, w7, w8, w9, w10, w11, w12, w13, w14, w15, w16, w17, w18, w19, w20, w21, w22, w23, w24, w25, w26, w27, w28, w29, w30, w31, w32, w33, w34, w35, w36, w37, w38]))] sz) := by
  refine ofN (by decide) (Nat.le_of_ble_eq_true rfl) rfl ?_
  intro p e s m args below meth c A ls hAe hsz hx hb hml hr hlocks hin hown hE hP hD hA hS hl
  have hown : s.vm.findClass RX10 = some m.cls := hown
  refine lv_aload_n hx hb dX10_many_0 rfl (lv_at hl 0 rfl) ?_
  refine gf_RX10_9 hx hb hown hE hP 1 rfl rfl dX10_many_1 ?_
  refine lv_iload_n hx hb dX10_many_4 rfl (lv_at hl 1 rfl) ?_
  refine g0_i (rS (rest := [.ref q39]) hx hb hml hown hE hP hD (c163_X10_itemsAt l g s.heap.size) (kS_X10_itemsAt hE (e1445 hE) rfl rfl ⟨(Nat.le_of_ble_eq_true rfl), (Nat.le_of_ble_eq_true rfl)⟩) [] rfl (by decide) rfl hl.1 rfl (lv_room (Nat.le_of_ble_eq_true rfl)) dX10_many_5 ⟨(Nat.le_of_ble_eq_true rfl), (Nat.le_of_ble_eq_true rfl)⟩) hP hD hS hA (fun u9 H locs hP hS => ?_)
  refine x_iald (v := 0) hx hb hE hP 0 rfl 196 (x_in (by decide)) (by decide) hf41 dX10_many_8 ?_
  exact x_zret hx hb hr rfl rfl hlocks hP hD hS hAe hsz (Nat.le_of_ble_eq_true rfl) (Nat.le_of_ble_eq_true rfl) (fun _ => 0) [0, 1] (by decide) rfl dX10_many_9

set_option maxHeartbeats 4000000 in
set_option maxRecDepth 100000 in
theorem c165_X10_itemsAt (l : Launch) (g : gG) (sz : Nat) : Met l yX10_itemsAt [Cond.code yX10_itemsAt cX10_itemsAt 1 (some .int)] ({ frames := 0, cells := 0, slots := 0, locals := 0 } : Room) (va_Pc [.int 5] (PX g sz [])) (QI g [] sz 245 (fun _ => [])) 0 0 (va_A [] sz) := by
  refine ofN (by decide) (Nat.le_of_ble_eq_true rfl) rfl ?_
  intro p e s m args below meth c A ls hAe hsz hx hb hml hr hlocks hin hown hE hP hD hA hS hl
  have hown : s.vm.findClass RX10 = some m.cls := hown
  refine lv_iconst (v := 0) hx hb dX10_itemsAt_0 (by decide) ?_
  refine lv_bipush (v := 49) hx hb dX10_itemsAt_1 (by decide) ?_
  refine lv_iload_n hx hb dX10_itemsAt_3 rfl (lv_at hl 0 rfl) ?_
  refine x_imul (v := 245) hx hb dX10_itemsAt_4 (by decide) ?_
  refine x_iadd (v := 245) hx hb dX10_itemsAt_5 (by decide) ?_
  exact x_zret hx hb hr rfl rfl hlocks hP hD hS hAe hsz (Nat.le_of_ble_eq_true rfl) (Nat.le_of_ble_eq_true rfl) (fun _ => 0) [] (by decide) rfl dX10_itemsAt_6

set_option maxHeartbeats 4000000 in
set_option maxRecDepth 100000 in
theorem c166_X10_many (l : Launch) (g : gG) (q1 q39 : Nat) (w3 w4 w5 w6 w7 w8 w9 w10 w11 w12 w13 w14 w15 w16 w17 w18 w19 w20 w21 w22 w23 w24 w25 w26 w27 w28 w29 w30 w31 w32 w33 w34 w35 w36 w37 w38 : Value) (f40 : Nat → Int32) (hf41 : f40 245 = 0) (sz : Nat) : Met l yX10_many [Cond.code yX10_many cX10_many 2 (some .int)] ({ frames := 1, cells := 0, slots := 0, locals := 20 } : Room) (va_Pc [.ref q1, .int 5] (PX g sz [(q39, .inl (g.2 0, 497, .inl f40)), (q1, .inr (12, [.ref q39, w3, w4, w5, w6, w7, w8, w9, w10, w11, w12, w13, w14, w15, w16, w17, w18, w19, w20, w21, w22, w23, w24, w25, w26, w27, w28, w29, w30, w31, w32, w33, w34, w35, w36, w37, w38]))])) (QI g [(q39, .inl (g.2 0, 497, .inl f40)), (q1, .inr (12, [.ref q39, w3, w4, w5, w6, w7, w8, w9, w10, w11, w12, w13, w14, w15, w16, w17, w18, w19, w20, w21, w22, w23, w24, w25, w26, w27, w28, w29, w30, w31, w32, w33, w34, w35, w36, w37, w38]))] sz 0 (fun _ => [(q39, .inl (g.2 0, 497, .inl f40)), (q1, .inr (12, [.ref q39, w3, w4, w5, w6, w7, w8, w9, w10, w11, w12, w13, w14, w15, w16, w17, w18, w19, w20, w21, w22, w23, w24, w25, w26, w27, w28, w29, w30, w31, w32, w33, w34, w35, w36, w37, w38]))])) 0 0 (va_A [(q39, .inl (g.2 0, 497, .inl f40)), (q1, .inr (12, [.ref q39, w3, w4, w5, w6, w7, w8, w9, w10, w11, w12, w13, w14, w15, w16, w17, w18, w19, w20, w21, w22, w23, w24, w25, w26, w27, w28, w29, w30, w31, w32, w33, w34, w35, w36, w37, w38]))] sz) := by
  refine ofN (by decide) (Nat.le_of_ble_eq_true rfl) rfl ?_
  intro p e s m args below meth c A ls hAe hsz hx hb hml hr hlocks hin hown hE hP hD hA hS hl
  have hown : s.vm.findClass RX10 = some m.cls := hown
  refine lv_aload_n hx hb dX10_many_0 rfl (lv_at hl 0 rfl) ?_
  refine gf_RX10_9 hx hb hown hE hP 1 rfl rfl dX10_many_1 ?_
  refine lv_iload_n hx hb dX10_many_4 rfl (lv_at hl 1 rfl) ?_
  refine g0_i (rS (rest := [.ref q39]) hx hb hml hown hE hP hD (c165_X10_itemsAt l g s.heap.size) (kS_X10_itemsAt hE (e1445 hE) rfl rfl ⟨(Nat.le_of_ble_eq_true rfl), (Nat.le_of_ble_eq_true rfl)⟩) [] rfl (by decide) rfl hl.1 rfl (lv_room (Nat.le_of_ble_eq_true rfl)) dX10_many_5 ⟨(Nat.le_of_ble_eq_true rfl), (Nat.le_of_ble_eq_true rfl)⟩) hP hD hS hA (fun u9 H locs hP hS => ?_)
  refine x_iald (v := 0) hx hb hE hP 0 rfl 245 (x_in (by decide)) (by decide) hf41 dX10_many_8 ?_
  exact x_zret hx hb hr rfl rfl hlocks hP hD hS hAe hsz (Nat.le_of_ble_eq_true rfl) (Nat.le_of_ble_eq_true rfl) (fun _ => 0) [0, 1] (by decide) rfl dX10_many_9

set_option maxHeartbeats 4000000 in
set_option maxRecDepth 100000 in
theorem c167_X10_itemsAt (l : Launch) (g : gG) (sz : Nat) : Met l yX10_itemsAt [Cond.code yX10_itemsAt cX10_itemsAt 1 (some .int)] ({ frames := 0, cells := 0, slots := 0, locals := 0 } : Room) (va_Pc [.int 6] (PX g sz [])) (QI g [] sz 294 (fun _ => [])) 0 0 (va_A [] sz) := by
  refine ofN (by decide) (Nat.le_of_ble_eq_true rfl) rfl ?_
  intro p e s m args below meth c A ls hAe hsz hx hb hml hr hlocks hin hown hE hP hD hA hS hl
  have hown : s.vm.findClass RX10 = some m.cls := hown
  refine lv_iconst (v := 0) hx hb dX10_itemsAt_0 (by decide) ?_
  refine lv_bipush (v := 49) hx hb dX10_itemsAt_1 (by decide) ?_
  refine lv_iload_n hx hb dX10_itemsAt_3 rfl (lv_at hl 0 rfl) ?_
  refine x_imul (v := 294) hx hb dX10_itemsAt_4 (by decide) ?_
  refine x_iadd (v := 294) hx hb dX10_itemsAt_5 (by decide) ?_
  exact x_zret hx hb hr rfl rfl hlocks hP hD hS hAe hsz (Nat.le_of_ble_eq_true rfl) (Nat.le_of_ble_eq_true rfl) (fun _ => 0) [] (by decide) rfl dX10_itemsAt_6

set_option maxHeartbeats 4000000 in
set_option maxRecDepth 100000 in
theorem c168_X10_many (l : Launch) (g : gG) (q1 q39 : Nat) (w3 w4 w5 w6 w7 w8 w9 w10 w11 w12 w13 w14 w15 w16 w17 w18 w19 w20 w21 w22 w23 w24 w25 w26 w27 w28 w29 w30 w31 w32 w33 w34 w35 w36 w37 w38 : Value) (f40 : Nat → Int32) (hf41 : f40 294 = 0) (sz : Nat) : Met l yX10_many [Cond.code yX10_many cX10_many 2 (some .int)] ({ frames := 1, cells := 0, slots := 0, locals := 20 } : Room) (va_Pc [.ref q1, .int 6] (PX g sz [(q39, .inl (g.2 0, 497, .inl f40)), (q1, .inr (12, [.ref q39, w3, w4, w5, w6, w7, w8, w9, w10, w11, w12, w13, w14, w15, w16, w17, w18, w19, w20, w21, w22, w23, w24, w25, w26, w27, w28, w29, w30, w31, w32, w33, w34, w35, w36, w37, w38]))])) (QI g [(q39, .inl (g.2 0, 497, .inl f40)), (q1, .inr (12, [.ref q39, w3, w4, w5, w6, w7, w8, w9, w10, w11, w12, w13, w14, w15, w16, w17, w18, w19, w20, w21, w22, w23, w24, w25, w26, w27, w28, w29, w30, w31, w32, w33, w34, w35, w36, w37, w38]))] sz 0 (fun _ => [(q39, .inl (g.2 0, 497, .inl f40)), (q1, .inr (12, [.ref q39, w3, w4, w5, w6, w7, w8, w9, w10, w11, w12, w13, w14, w15, w16, w17, w18, w19, w20, w21, w22, w23, w24, w25, w26, w27, w28, w29, w30, w31, w32, w33, w34, w35, w36, w37, w38]))])) 0 0 (va_A [(q39, .inl (g.2 0, 497, .inl f40)), (q1, .inr (12, [.ref q39, w3, w4, w5, w6, w7, w8, w9, w10, w11, w12, w13, w14, w15, w16, w17, w18, w19, w20, w21, w22, w23, w24, w25, w26, w27, w28, w29, w30, w31, w32, w33, w34, w35, w36, w37, w38]))] sz) := by
  refine ofN (by decide) (Nat.le_of_ble_eq_true rfl) rfl ?_
  intro p e s m args below meth c A ls hAe hsz hx hb hml hr hlocks hin hown hE hP hD hA hS hl
  have hown : s.vm.findClass RX10 = some m.cls := hown
  refine lv_aload_n hx hb dX10_many_0 rfl (lv_at hl 0 rfl) ?_
  refine gf_RX10_9 hx hb hown hE hP 1 rfl rfl dX10_many_1 ?_
  refine lv_iload_n hx hb dX10_many_4 rfl (lv_at hl 1 rfl) ?_
  refine g0_i (rS (rest := [.ref q39]) hx hb hml hown hE hP hD (c167_X10_itemsAt l g s.heap.size) (kS_X10_itemsAt hE (e1445 hE) rfl rfl ⟨(Nat.le_of_ble_eq_true rfl), (Nat.le_of_ble_eq_true rfl)⟩) [] rfl (by decide) rfl hl.1 rfl (lv_room (Nat.le_of_ble_eq_true rfl)) dX10_many_5 ⟨(Nat.le_of_ble_eq_true rfl), (Nat.le_of_ble_eq_true rfl)⟩) hP hD hS hA (fun u9 H locs hP hS => ?_)
  refine x_iald (v := 0) hx hb hE hP 0 rfl 294 (x_in (by decide)) (by decide) hf41 dX10_many_8 ?_
  exact x_zret hx hb hr rfl rfl hlocks hP hD hS hAe hsz (Nat.le_of_ble_eq_true rfl) (Nat.le_of_ble_eq_true rfl) (fun _ => 0) [0, 1] (by decide) rfl dX10_many_9

set_option maxHeartbeats 4000000 in
set_option maxRecDepth 100000 in
theorem c169_X10_itemsAt (l : Launch) (g : gG) (sz : Nat) : Met l yX10_itemsAt [Cond.code yX10_itemsAt cX10_itemsAt 1 (some .int)] ({ frames := 0, cells := 0, slots := 0, locals := 0 } : Room) (va_Pc [.int 7] (PX g sz [])) (QI g [] sz 343 (fun _ => [])) 0 0 (va_A [] sz) := by
  refine ofN (by decide) (Nat.le_of_ble_eq_true rfl) rfl ?_
  intro p e s m args below meth c A ls hAe hsz hx hb hml hr hlocks hin hown hE hP hD hA hS hl
  have hown : s.vm.findClass RX10 = some m.cls := hown
  refine lv_iconst (v := 0) hx hb dX10_itemsAt_0 (by decide) ?_
  refine lv_bipush (v := 49) hx hb dX10_itemsAt_1 (by decide) ?_
  refine lv_iload_n hx hb dX10_itemsAt_3 rfl (lv_at hl 0 rfl) ?_
  refine x_imul (v := 343) hx hb dX10_itemsAt_4 (by decide) ?_
  refine x_iadd (v := 343) hx hb dX10_itemsAt_5 (by decide) ?_
  exact x_zret hx hb hr rfl rfl hlocks hP hD hS hAe hsz (Nat.le_of_ble_eq_true rfl) (Nat.le_of_ble_eq_true rfl) (fun _ => 0) [] (by decide) rfl dX10_itemsAt_6

set_option maxHeartbeats 4000000 in
set_option maxRecDepth 100000 in
theorem c170_X10_many (l : Launch) (g : gG) (q1 q39 : Nat) (w3 w4 w5 w6 w7 w8 w9 w10 w11 w12 w13 w14 w15 w16 w17 w18 w19 w20 w21 w22 w23 w24 w25 w26 w27 w28 w29 w30 w31 w32 w33 w34 w35 w36 w37 w38 : Value) (f40 : Nat → Int32) (hf41 : f40 343 = 0) (sz : Nat) : Met l yX10_many [Cond.code yX10_many cX10_many 2 (some .int)] ({ frames := 1, cells := 0, slots := 0, locals := 20 } : Room) (va_Pc [.ref q1, .int 7] (PX g sz [(q39, .inl (g.2 0, 497, .inl f40)), (q1, .inr (12, [.ref q39, w3, w4, w5, w6, w7, w8, w9, w10, w11, w12, w13, w14, w15, w16, w17, w18, w19, w20, w21, w22, w23, w24, w25, w26, w27, w28, w29, w30, w31, w32, w33, w34, w35, w36, w37, w38]))])) (QI g [(q39, .inl (g.2 0, 497, .inl f40)), (q1, .inr (12, [.ref q39, w3, w4, w5, w6, w7, w8, w9, w10, w11, w12, w13, w14, w15, w16, w17, w18, w19, w20, w21, w22, w23, w24, w25, w26, w27, w28, w29, w30, w31, w32, w33, w34, w35, w36, w37, w38]))] sz 0 (fun _ => [(q39, .inl (g.2 0, 497, .inl f40)), (q1, .inr (12, [.ref q39, w3, w4, w5, w6, w7, w8, w9, w10, w11, w12, w13, w14, w15, w16, w17, w18, w19, w20, w21, w22, w23, w24, w25, w26, w27, w28, w29, w30, w31, w32, w33, w34, w35, w36, w37, w38]))])) 0 0 (va_A [(q39, .inl (g.2 0, 497, .inl f40)), (q1, .inr (12, [.ref q39, w3, w4, w5, w6, w7, w8, w9, w10, w11, w12, w13, w14, w15, w16, w17, w18, w19, w20, w21, w22, w23, w24, w25, w26, w27, w28, w29, w30, w31, w32, w33, w34, w35, w36, w37, w38]))] sz) := by
  refine ofN (by decide) (Nat.le_of_ble_eq_true rfl) rfl ?_
  intro p e s m args below meth c A ls hAe hsz hx hb hml hr hlocks hin hown hE hP hD hA hS hl
  have hown : s.vm.findClass RX10 = some m.cls := hown
  refine lv_aload_n hx hb dX10_many_0 rfl (lv_at hl 0 rfl) ?_
  refine gf_RX10_9 hx hb hown hE hP 1 rfl rfl dX10_many_1 ?_
  refine lv_iload_n hx hb dX10_many_4 rfl (lv_at hl 1 rfl) ?_
  refine g0_i (rS (rest := [.ref q39]) hx hb hml hown hE hP hD (c169_X10_itemsAt l g s.heap.size) (kS_X10_itemsAt hE (e1445 hE) rfl rfl ⟨(Nat.le_of_ble_eq_true rfl), (Nat.le_of_ble_eq_true rfl)⟩) [] rfl (by decide) rfl hl.1 rfl (lv_room (Nat.le_of_ble_eq_true rfl)) dX10_many_5 ⟨(Nat.le_of_ble_eq_true rfl), (Nat.le_of_ble_eq_true rfl)⟩) hP hD hS hA (fun u9 H locs hP hS => ?_)
  refine x_iald (v := 0) hx hb hE hP 0 rfl 343 (x_in (by decide)) (by decide) hf41 dX10_many_8 ?_
  exact x_zret hx hb hr rfl rfl hlocks hP hD hS hAe hsz (Nat.le_of_ble_eq_true rfl) (Nat.le_of_ble_eq_true rfl) (fun _ => 0) [0, 1] (by decide) rfl dX10_many_9

set_option maxHeartbeats 4000000 in
set_option maxRecDepth 100000 in
theorem c171_X10_layLengths (l : Launch) (g : gG) (q1 q39 q42 q45 : Nat) (w3 w4 w5 w6 w7 w8 w11 w12 w13 w14 w15 w16 w17 w18 w19 w20 w21 w22 w23 w24 w25 w26 w27 w28 w29 w30 w31 w32 w33 w34 w35 w36 w37 w38 : Value) (f40 : Nat → Int32) (f43 : Nat → Int32) (hf41 : f40 0 = 0) (hf44 : f43 0 = 0) (hf46 : f40 49 = 0) (hf47 : f43 1 = 0) (hf48 : f40 98 = 0) (hf49 : f43 2 = 0) (hf50 : f40 147 = 0) (hf51 : f43 3 = 0) (hf52 : f40 196 = 0) (hf53 : f43 4 = 0) (hf54 : f40 245 = 0) (hf55 : f43 5 = 0) (hf56 : f40 294 = 0) (hf57 : f43 6 = 0) (hf58 : f40 343 = 0) (hf59 : f43 7 = 0) (sz : Nat) : Met l yX10_layLengths [Cond.code yX10_layLengths cX10_layLengths 6 none] ({ frames := 2, cells := 0, slots := 0, locals := 41 } : Room) (va_Pc [.ref q1] (PX g sz [(q45, .inl (g.2 0, 8, .inl f43)), (q42, .inl (g.2 0, 8, .inl f43)), (q39, .inl (g.2 0, 497, .inl f40)), (q1, .inr (12, [.ref q39, w3, w4, w5, w6, w7, w8, .ref q42, .ref q45, w11, w12, w13, w14, w15, w16, w17, w18, w19, w20, w21, w22, w23, w24, w25, w26, w27, w28, w29, w30, w31, w32, w33, w34, w35, w36, w37, w38]))])) (QV g [(q45, .inl (g.2 0, 8, .inl f43)), (q42, .inl (g.2 0, 8, .inl f43)), (q39, .inl (g.2 0, 497, .inl f40)), (q1, .inr (12, [.ref q39, w3, w4, w5, w6, w7, w8, .ref q42, .ref q45, w11, w12, w13, w14, w15, w16, w17, w18, w19, w20, w21, w22, w23, w24, w25, w26, w27, w28, w29, w30, w31, w32, w33, w34, w35, w36, w37, w38]))] sz (fun _ => [(q45, .inl (g.2 0, 8, .inl f43)), (q42, .inl (g.2 0, 8, .inl f43)), (q39, .inl (g.2 0, 497, .inl f40)), (q1, .inr (12, [.ref q39, w3, w4, w5, w6, w7, w8, .ref q42, .ref q45, w11, w12, w13, w14, w15, w16, w17, w18, w19, w20, w21, w22, w23, w24, w25, w26, w27, w28, w29, w30, w31, w32, w33, w34, w35, w36, w37, w38]))])) 0 0 (va_A [(q45, .inl (g.2 0, 8, .inl f43)), (q42, .inl (g.2 0, 8, .inl f43)), (q39, .inl (g.2 0, 497, .inl f40)), (q1, .inr (12, [.ref q39, w3, w4, w5, w6, w7, w8, .ref q42, .ref q45, w11, w12, w13, w14, w15, w16, w17, w18, w19, w20, w21, w22, w23, w24, w25, w26, w27, w28, w29, w30, w31, w32, w33, w34, w35, w36, w37, w38]))] sz) := by
  refine ofN (by decide) (Nat.le_of_ble_eq_true rfl) rfl ?_
  intro p e s m args below meth c A ls hAe hsz hx hb hml hr hlocks hin hown hE hP hD hA hS hl
  have hown : s.vm.findClass RX10 = some m.cls := hown
  refine lv_iconst (v := 0) hx hb dX10_layLengths_0 (by decide) ?_
  refine lv_istore_n (lv' := [(1, .int 0), (0, .ref q1)]) hx hb dX10_layLengths_1 rfl hl (by decide) rfl (fun ls hl => ?_)
  refine lv_iload_n hx hb dX10_layLengths_2 rfl (lv_at hl 0 rfl) ?_
  refine lv_bipush (v := 8) hx hb dX10_layLengths_3 (by decide) ?_
  refine lv_icmp_ge (tgt := 164) hx hb dX10_layLengths_5 (by decide) (fun h => absurd h (by decide)) (fun _ => ?_)
  refine lv_iconst (v := 0) hx hb dX10_layLengths_8 (by decide) ?_
  refine lv_istore_n (lv' := [(2, .int 0), (1, .int 0), (0, .ref q1)]) hx hb dX10_layLengths_9 rfl hl (by decide) rfl (fun ls hl => ?_)
  refine lv_iconst (v := 0) hx hb dX10_layLengths_10 (by decide) ?_
  refine lv_istore_n (lv' := [(3, .int 0), (2, .int 0), (1, .int 0), (0, .ref q1)]) hx hb dX10_layLengths_11 rfl hl (by decide) rfl (fun ls hl => ?_)
  refine lv_iconst (v := 0) hx hb dX10_layLengths_12 (by decide) ?_
  refine lv_istore (lv' := [(4, .int 0), (3, .int 0), (2, .int 0), (1, .int 0), (0, .ref q1)]) hx hb dX10_layLengths_13 hl (by decide) rfl (fun ls hl => ?_)
  refine lv_iload hx hb dX10_layLengths_15 (lv_at hl 0 rfl) ?_
  refine lv_aload_n hx hb dX10_layLengths_17 rfl (lv_at hl 4 rfl) ?_
  refine lv_iload_n hx hb dX10_layLengths_18 rfl (lv_at hl 3 rfl) ?_
  refine g_i (wr := [(q45, .inl (g.2 0, 8, .inl f43)), (q42, .inl (g.2 0, 8, .inl f43))]) (rV (rest := [.int 0]) hx hb hml hown hE hP hD 3 rfl rfl (c156_X10_many l g q1 q39 w3 w4 w5 w6 w7 w8 (.ref q42) (.ref q45) w11 w12 w13 w14 w15 w16 w17 w18 w19 w20 w21 w22 w23 w24 w25 w26 w27 w28 w29 w30 w31 w32 w33 w34 w35 w36 w37 w38 f40 (hf41) s.heap.size) (kV_X10_many hE (e1456 hE) rfl rfl ⟨(Nat.le_of_ble_eq_true rfl), (Nat.le_of_ble_eq_true rfl)⟩) [2, 3] rfl (by decide) rfl hl.1 rfl (lv_room (Nat.le_of_ble_eq_true rfl)) dX10_layLengths_19 ⟨(Nat.le_of_ble_eq_true rfl), (Nat.le_of_ble_eq_true rfl)⟩) hP hD hS hA [2, 3] [0, 1] rfl rfl (by decide) (by decide) (fun u1 H locs hP hD hS => ?_)
  have hP : va_P g.1 vwCl [(q45, .inl (g.2 0, 8, .inl f43)), (q42, .inl (g.2 0, 8, .inl f43)), (q39, .inl (g.2 0, 497, .inl f40)), (q1, .inr (12, [.ref q39, w3, w4, w5, w6, w7, w8, .ref q42, .ref q45, w11, w12, w13, w14, w15, w16, w17, w18, w19, w20, w21, w22, w23, w24, w25, w26, w27, w28, w29, w30, w31, w32, w33, w34, w35, w36, w37, w38]))] H := hP
  have hD : va_D A [(q45, .inl (g.2 0, 8, .inl f43)), (q42, .inl (g.2 0, 8, .inl f43)), (q39, .inl (g.2 0, 497, .inl f40)), (q1, .inr (12, [.ref q39, w3, w4, w5, w6, w7, w8, .ref q42, .ref q45, w11, w12, w13, w14, w15, w16, w17, w18, w19, w20, w21, w22, w23, w24, w25, w26, w27, w28, w29, w30, w31, w32, w33, w34, w35, w36, w37, w38]))] := hD
  refine lv_icmp_ge (tgt := 134) hx hb dX10_layLengths_22 (by decide) (fun _ => ?_) (fun h => absurd (by decide) h)
  refine lv_aload_n hx hb dX10_layLengths_134 rfl (lv_at hl 4 rfl) ?_
  refine gf_RX10_22 hx hb hown hE hP 3 rfl rfl dX10_layLengths_135 ?_
  refine lv_iload_n hx hb dX10_layLengths_138 rfl (lv_at hl 3 rfl) ?_
  refine lv_iload_n hx hb dX10_layLengths_139 rfl (lv_at hl 2 rfl) ?_
  refine lv_ldc (v := 200000) hx hb hown (e1464 hE) dX10_layLengths_140 ?_
  refine x_mmin (v := 0) hx hb (by rw [hml]; exact hl.1.symm) hown (e1465 hE) (e362 hE) (e9 hE) (e363 hE) (Nat.le_of_ble_eq_true rfl) (Nat.le_of_ble_eq_true rfl) (Nat.le_of_ble_eq_true rfl) (Nat.le_of_ble_eq_true rfl) (by decide) dX10_layLengths_142 ?_
  refine x_iast_same hx hb hE hP hD hS 1 rfl 0 (x_in (by decide)) (by decide) hf44 dX10_layLengths_145 (fun H locs hP hD hS => ?_)
  refine lv_aload_n hx hb dX10_layLengths_146 rfl (lv_at hl 4 rfl) ?_
  refine gf_RX10_25 hx hb hown hE hP 3 rfl rfl dX10_layLengths_147 ?_
  refine lv_iload_n hx hb dX10_layLengths_150 rfl (lv_at hl 3 rfl) ?_
  refine lv_iload_n hx hb dX10_layLengths_151 rfl (lv_at hl 1 rfl) ?_
  refine lv_ldc (v := 200000) hx hb hown (e1464 hE) dX10_layLengths_152 ?_
  refine x_mmin (v := 0) hx hb (by rw [hml]; exact hl.1.symm) hown (e1465 hE) (e362 hE) (e9 hE) (e363 hE) (Nat.le_of_ble_eq_true rfl) (Nat.le_of_ble_eq_true rfl) (Nat.le_of_ble_eq_true rfl) (Nat.le_of_ble_eq_true rfl) (by decide) dX10_layLengths_154 ?_
  refine x_iast_same hx hb hE hP hD hS 0 rfl 0 (x_in (by decide)) (by decide) hf44 dX10_layLengths_157 (fun H locs hP hD hS => ?_)
  refine lv_iinc (v := 1) (lv' := [(1, .int 1), (4, .int 0), (3, .int 0), (2, .int 0), (0, .ref q1)]) hx hb dX10_layLengths_158 hl (k := 3) rfl (by decide) (by decide) rfl (fun ls hl => ?_)
  refine lv_goto (tgt := 2) hx hb dX10_layLengths_161 (by decide) ?_
  refine lv_iload_n hx hb dX10_layLengths_2 rfl (lv_at hl 0 rfl) ?_
  refine lv_bipush (v := 8) hx hb dX10_layLengths_3 (by decide) ?_
  refine lv_icmp_ge (tgt := 164) hx hb dX10_layLengths_5 (by decide) (fun h => absurd h (by decide)) (fun _ => ?_)
  refine lv_iconst (v := 0) hx hb dX10_layLengths_8 (by decide) ?_
  refine lv_istore_n (lv' := [(2, .int 0), (1, .int 1), (4, .int 0), (3, .int 0), (0, .ref q1)]) hx hb dX10_layLengths_9 rfl hl (by decide) rfl (fun ls hl => ?_)
  refine lv_iconst (v := 0) hx hb dX10_layLengths_10 (by decide) ?_
  refine lv_istore_n (lv' := [(3, .int 0), (2, .int 0), (1, .int 1), (4, .int 0), (0, .ref q1)]) hx hb dX10_layLengths_11 rfl hl (by decide) rfl (fun ls hl => ?_)
  refine lv_iconst (v := 0) hx hb dX10_layLengths_12 (by decide) ?_
  refine lv_istore (lv' := [(4, .int 0), (3, .int 0), (2, .int 0), (1, .int 1), (0, .ref q1)]) hx hb dX10_layLengths_13 hl (by decide) rfl (fun ls hl => ?_)
  refine lv_iload hx hb dX10_layLengths_15 (lv_at hl 0 rfl) ?_
  refine lv_aload_n hx hb dX10_layLengths_17 rfl (lv_at hl 4 rfl) ?_
  refine lv_iload_n hx hb dX10_layLengths_18 rfl (lv_at hl 3 rfl) ?_
  refine g_i (wr := [(q45, .inl (g.2 0, 8, .inl f43)), (q42, .inl (g.2 0, 8, .inl f43))]) (rV (rest := [.int 0]) hx hb hml hown hE hP hD 3 rfl rfl (c158_X10_many l g q1 q39 w3 w4 w5 w6 w7 w8 (.ref q42) (.ref q45) w11 w12 w13 w14 w15 w16 w17 w18 w19 w20 w21 w22 w23 w24 w25 w26 w27 w28 w29 w30 w31 w32 w33 w34 w35 w36 w37 w38 f40 (hf46) H.size) (kV_X10_many hE (e1456 hE) rfl rfl ⟨(Nat.le_of_ble_eq_true rfl), (Nat.le_of_ble_eq_true rfl)⟩) [2, 3] rfl (by decide) rfl hl.1 rfl (lv_room (Nat.le_of_ble_eq_true rfl)) dX10_layLengths_19 ⟨(Nat.le_of_ble_eq_true rfl), (Nat.le_of_ble_eq_true rfl)⟩) hP hD hS hA [2, 3] [0, 1] rfl rfl (by decide) (by decide) (fun u2 H locs hP hD hS => ?_)
  have hP : va_P g.1 vwCl [(q45, .inl (g.2 0, 8, .inl f43)), (q42, .inl (g.2 0, 8, .inl f43)), (q39, .inl (g.2 0, 497, .inl f40)), (q1, .inr (12, [.ref q39, w3, w4, w5, w6, w7, w8, .ref q42, .ref q45, w11, w12, w13, w14, w15, w16, w17, w18, w19, w20, w21, w22, w23, w24, w25, w26, w27, w28, w29, w30, w31, w32, w33, w34, w35, w36, w37, w38]))] H := hP
  have hD : va_D A [(q45, .inl (g.2 0, 8, .inl f43)), (q42, .inl (g.2 0, 8, .inl f43)), (q39, .inl (g.2 0, 497, .inl f40)), (q1, .inr (12, [.ref q39, w3, w4, w5, w6, w7, w8, .ref q42, .ref q45, w11, w12, w13, w14, w15, w16, w17, w18, w19, w20, w21, w22, w23, w24, w25, w26, w27, w28, w29, w30, w31, w32, w33, w34, w35, w36, w37, w38]))] := hD
  refine lv_icmp_ge (tgt := 134) hx hb dX10_layLengths_22 (by decide) (fun _ => ?_) (fun h => absurd (by decide) h)
  refine lv_aload_n hx hb dX10_layLengths_134 rfl (lv_at hl 4 rfl) ?_
  refine gf_RX10_22 hx hb hown hE hP 3 rfl rfl dX10_layLengths_135 ?_
  refine lv_iload_n hx hb dX10_layLengths_138 rfl (lv_at hl 3 rfl) ?_
  refine lv_iload_n hx hb dX10_layLengths_139 rfl (lv_at hl 2 rfl) ?_
  refine lv_ldc (v := 200000) hx hb hown (e1464 hE) dX10_layLengths_140 ?_
  refine x_mmin (v := 0) hx hb (by rw [hml]; exact hl.1.symm) hown (e1465 hE) (e362 hE) (e9 hE) (e363 hE) (Nat.le_of_ble_eq_true rfl) (Nat.le_of_ble_eq_true rfl) (Nat.le_of_ble_eq_true rfl) (Nat.le_of_ble_eq_true rfl) (by decide) dX10_layLengths_142 ?_
  refine x_iast_same hx hb hE hP hD hS 1 rfl 1 (x_in (by decide)) (by decide) hf47 dX10_layLengths_145 (fun H locs hP hD hS => ?_)
  refine lv_aload_n hx hb dX10_layLengths_146 rfl (lv_at hl 4 rfl) ?_
  refine gf_RX10_25 hx hb hown hE hP 3 rfl rfl dX10_layLengths_147 ?_
  refine lv_iload_n hx hb dX10_layLengths_150 rfl (lv_at hl 3 rfl) ?_
  refine lv_iload_n hx hb dX10_layLengths_151 rfl (lv_at hl 1 rfl) ?_
  refine lv_ldc (v := 200000) hx hb hown (e1464 hE) dX10_layLengths_152 ?_
  refine x_mmin (v := 0) hx hb (by rw [hml]; exact hl.1.symm) hown (e1465 hE) (e362 hE) (e9 hE) (e363 hE) (Nat.le_of_ble_eq_true rfl) (Nat.le_of_ble_eq_true rfl) (Nat.le_of_ble_eq_true rfl) (Nat.le_of_ble_eq_true rfl) (by decide) dX10_layLengths_154 ?_
  refine x_iast_same hx hb hE hP hD hS 0 rfl 1 (x_in (by decide)) (by decide) hf47 dX10_layLengths_157 (fun H locs hP hD hS => ?_)
  refine lv_iinc (v := 2) (lv' := [(1, .int 2), (4, .int 0), (3, .int 0), (2, .int 0), (0, .ref q1)]) hx hb dX10_layLengths_158 hl (k := 3) rfl (by decide) (by decide) rfl (fun ls hl => ?_)
  refine lv_goto (tgt := 2) hx hb dX10_layLengths_161 (by decide) ?_
  refine lv_iload_n hx hb dX10_layLengths_2 rfl (lv_at hl 0 rfl) ?_
  refine lv_bipush (v := 8) hx hb dX10_layLengths_3 (by decide) ?_
  refine lv_icmp_ge (tgt := 164) hx hb dX10_layLengths_5 (by decide) (fun h => absurd h (by decide)) (fun _ => ?_)
  refine lv_iconst (v := 0) hx hb dX10_layLengths_8 (by decide) ?_
  refine lv_istore_n (lv' := [(2, .int 0), (1, .int 2), (4, .int 0), (3, .int 0), (0, .ref q1)]) hx hb dX10_layLengths_9 rfl hl (by decide) rfl (fun ls hl => ?_)
  refine lv_iconst (v := 0) hx hb dX10_layLengths_10 (by decide) ?_
  refine lv_istore_n (lv' := [(3, .int 0), (2, .int 0), (1, .int 2), (4, .int 0), (0, .ref q1)]) hx hb dX10_layLengths_11 rfl hl (by decide) rfl (fun ls hl => ?_)
  refine lv_iconst (v := 0) hx hb dX10_layLengths_12 (by decide) ?_
  refine lv_istore (lv' := [(4, .int 0), (3, .int 0), (2, .int 0), (1, .int 2), (0, .ref q1)]) hx hb dX10_layLengths_13 hl (by decide) rfl (fun ls hl => ?_)
  refine lv_iload hx hb dX10_layLengths_15 (lv_at hl 0 rfl) ?_
  refine lv_aload_n hx hb dX10_layLengths_17 rfl (lv_at hl 4 rfl) ?_
  refine lv_iload_n hx hb dX10_layLengths_18 rfl (lv_at hl 3 rfl) ?_
  refine g_i (wr := [(q45, .inl (g.2 0, 8, .inl f43)), (q42, .inl (g.2 0, 8, .inl f43))]) (rV (rest := [.int 0]) hx hb hml hown hE hP hD 3 rfl rfl (c160_X10_many l g q1 q39 w3 w4 w5 w6 w7 w8 (.ref q42) (.ref q45) w11 w12 w13 w14 w15 w16 w17 w18 w19 w20 w21 w22 w23 w24 w25 w26 w27 w28 w29 w30 w31 w32 w33 w34 w35 w36 w37 w38 f40 (hf48) H.size) (kV_X10_many hE (e1456 hE) rfl rfl ⟨(Nat.le_of_ble_eq_true rfl), (Nat.le_of_ble_eq_true rfl)⟩) [2, 3] rfl (by decide) rfl hl.1 rfl (lv_room (Nat.le_of_ble_eq_true rfl)) dX10_layLengths_19 ⟨(Nat.le_of_ble_eq_true rfl), (Nat.le_of_ble_eq_true rfl)⟩) hP hD hS hA [2, 3] [0, 1] rfl rfl (by decide) (by decide) (fun u3 H locs hP hD hS => ?_)
  have hP : va_P g.1 vwCl [(q45, .inl (g.2 0, 8, .inl f43)), (q42, .inl (g.2 0, 8, .inl f43)), (q39, .inl (g.2 0, 497, .inl f40)), (q1, .inr (12, [.ref q39, w3, w4, w5, w6, w7, w8, .ref q42, .ref q45, w11, w12, w13, w14, w15, w16, w17, w18, w19, w20, w21, w22, w23, w24, w25, w26, w27, w28, w29, w30, w31, w32, w33, w34, w35, w36, w37, w38]))] H := hP
  have hD : va_D A [(q45, .inl (g.2 0, 8, .inl f43)), (q42, .inl (g.2 0, 8, .inl f43)), (q39, .inl (g.2 0, 497, .inl f40)), (q1, .inr (12, [.ref q39, w3, w4, w5, w6, w7, w8, .ref q42, .ref q45, w11, w12, w13, w14, w15, w16, w17, w18, w19, w20, w21, w22, w23, w24, w25, w26, w27, w28, w29, w30, w31, w32, w33, w34, w35, w36, w37, w38]))] := hD
  refine lv_icmp_ge (tgt := 134) hx hb dX10_layLengths_22 (by decide) (fun _ => ?_) (fun h => absurd (by decide) h)
  refine lv_aload_n hx hb dX10_layLengths_134 rfl (lv_at hl 4 rfl) ?_
  refine gf_RX10_22 hx hb hown hE hP 3 rfl rfl dX10_layLengths_135 ?_
  refine lv_iload_n hx hb dX10_layLengths_138 rfl (lv_at hl 3 rfl) ?_
  refine lv_iload_n hx hb dX10_layLengths_139 rfl (lv_at hl 2 rfl) ?_
  refine lv_ldc (v := 200000) hx hb hown (e1464 hE) dX10_layLengths_140 ?_
  refine x_mmin (v := 0) hx hb (by rw [hml]; exact hl.1.symm) hown (e1465 hE) (e362 hE) (e9 hE) (e363 hE) (Nat.le_of_ble_eq_true rfl) (Nat.le_of_ble_eq_true rfl) (Nat.le_of_ble_eq_true rfl) (Nat.le_of_ble_eq_true rfl) (by decide) dX10_layLengths_142 ?_
  refine x_iast_same hx hb hE hP hD hS 1 rfl 2 (x_in (by decide)) (by decide) hf49 dX10_layLengths_145 (fun H locs hP hD hS => ?_)
  refine lv_aload_n hx hb dX10_layLengths_146 rfl (lv_at hl 4 rfl) ?_
  refine gf_RX10_25 hx hb hown hE hP 3 rfl rfl dX10_layLengths_147 ?_
  refine lv_iload_n hx hb dX10_layLengths_150 rfl (lv_at hl 3 rfl) ?_
  refine lv_iload_n hx hb dX10_layLengths_151 rfl (lv_at hl 1 rfl) ?_
  refine lv_ldc (v := 200000) hx hb hown (e1464 hE) dX10_layLengths_152 ?_
  refine x_mmin (v := 0) hx hb (by rw [hml]; exact hl.1.symm) hown (e1465 hE) (e362 hE) (e9 hE) (e363 hE) (Nat.le_of_ble_eq_true rfl) (Nat.le_of_ble_eq_true rfl) (Nat.le_of_ble_eq_true rfl) (Nat.le_of_ble_eq_true rfl) (by decide) dX10_layLengths_154 ?_
  refine x_iast_same hx hb hE hP hD hS 0 rfl 2 (x_in (by decide)) (by decide) hf49 dX10_layLengths_157 (fun H locs hP hD hS => ?_)
  refine lv_iinc (v := 3) (lv' := [(1, .int 3), (4, .int 0), (3, .int 0), (2, .int 0), (0, .ref q1)]) hx hb dX10_layLengths_158 hl (k := 3) rfl (by decide) (by decide) rfl (fun ls hl => ?_)
  refine lv_goto (tgt := 2) hx hb dX10_layLengths_161 (by decide) ?_
  refine lv_iload_n hx hb dX10_layLengths_2 rfl (lv_at hl 0 rfl) ?_
  refine lv_bipush (v := 8) hx hb dX10_layLengths_3 (by decide) ?_
  refine lv_icmp_ge (tgt := 164) hx hb dX10_layLengths_5 (by decide) (fun h => absurd h (by decide)) (fun _ => ?_)
  refine lv_iconst (v := 0) hx hb dX10_layLengths_8 (by decide) ?_
  refine lv_istore_n (lv' := [(2, .int 0), (1, .int 3), (4, .int 0), (3, .int 0), (0, .ref q1)]) hx hb dX10_layLengths_9 rfl hl (by decide) rfl (fun ls hl => ?_)
  refine lv_iconst (v := 0) hx hb dX10_layLengths_10 (by decide) ?_
  refine lv_istore_n (lv' := [(3, .int 0), (2, .int 0), (1, .int 3), (4, .int 0), (0, .ref q1)]) hx hb dX10_layLengths_11 rfl hl (by decide) rfl (fun ls hl => ?_)
  refine lv_iconst (v := 0) hx hb dX10_layLengths_12 (by decide) ?_
  refine lv_istore (lv' := [(4, .int 0), (3, .int 0), (2, .int 0), (1, .int 3), (0, .ref q1)]) hx hb dX10_layLengths_13 hl (by decide) rfl (fun ls hl => ?_)
  refine lv_iload hx hb dX10_layLengths_15 (lv_at hl 0 rfl) ?_
  refine lv_aload_n hx hb dX10_layLengths_17 rfl (lv_at hl 4 rfl) ?_
  refine lv_iload_n hx hb dX10_layLengths_18 rfl (lv_at hl 3 rfl) ?_
  refine g_i (wr := [(q45, .inl (g.2 0, 8, .inl f43)), (q42, .inl (g.2 0, 8, .inl f43))]) (rV (rest := [.int 0]) hx hb hml hown hE hP hD 3 rfl rfl (c162_X10_many l g q1 q39 w3 w4 w5 w6 w7 w8 (.ref q42) (.ref q45) w11 w12 w13 w14 w15 w16 w17 w18 w19 w20 w21 w22 w23 w24 w25 w26 w27 w28 w29 w30 w31 w32 w33 w34 w35 w36 w37 w38 f40 (hf50) H.size) (kV_X10_many hE (e1456 hE) rfl rfl ⟨(Nat.le_of_ble_eq_true rfl), (Nat.le_of_ble_eq_true rfl)⟩) [2, 3] rfl (by decide) rfl hl.1 rfl (lv_room (Nat.le_of_ble_eq_true rfl)) dX10_layLengths_19 ⟨(Nat.le_of_ble_eq_true rfl), (Nat.le_of_ble_eq_true rfl)⟩) hP hD hS hA [2, 3] [0, 1] rfl rfl (by decide) (by decide) (fun u4 H locs hP hD hS => ?_)
  have hP : va_P g.1 vwCl [(q45, .inl (g.2 0, 8, .inl f43)), (q42, .inl (g.2 0, 8, .inl f43)), (q39, .inl (g.2 0, 497, .inl f40)), (q1, .inr (12, [.ref q39, w3, w4, w5, w6, w7, w8, .ref q42, .ref q45, w11, w12, w13, w14, w15, w16, w17, w18, w19, w20, w21, w22, w23, w24, w25, w26, w27, w28, w29, w30, w31, w32, w33, w34, w35, w36, w37, w38]))] H := hP
  have hD : va_D A [(q45, .inl (g.2 0, 8, .inl f43)), (q42, .inl (g.2 0, 8, .inl f43)), (q39, .inl (g.2 0, 497, .inl f40)), (q1, .inr (12, [.ref q39, w3, w4, w5, w6, w7, w8, .ref q42, .ref q45, w11, w12, w13, w14, w15, w16, w17, w18, w19, w20, w21, w22, w23, w24, w25, w26, w27, w28, w29, w30, w31, w32, w33, w34, w35, w36, w37, w38]))] := hD
  refine lv_icmp_ge (tgt := 134) hx hb dX10_layLengths_22 (by decide) (fun _ => ?_) (fun h => absurd (by decide) h)
  refine lv_aload_n hx hb dX10_layLengths_134 rfl (lv_at hl 4 rfl) ?_
  refine gf_RX10_22 hx hb hown hE hP 3 rfl rfl dX10_layLengths_135 ?_
  refine lv_iload_n hx hb dX10_layLengths_138 rfl (lv_at hl 3 rfl) ?_
  refine lv_iload_n hx hb dX10_layLengths_139 rfl (lv_at hl 2 rfl) ?_
  refine lv_ldc (v := 200000) hx hb hown (e1464 hE) dX10_layLengths_140 ?_
  refine x_mmin (v := 0) hx hb (by rw [hml]; exact hl.1.symm) hown (e1465 hE) (e362 hE) (e9 hE) (e363 hE) (Nat.le_of_ble_eq_true rfl) (Nat.le_of_ble_eq_true rfl) (Nat.le_of_ble_eq_true rfl) (Nat.le_of_ble_eq_true rfl) (by decide) dX10_layLengths_142 ?_
  refine x_iast_same hx hb hE hP hD hS 1 rfl 3 (x_in (by decide)) (by decide) hf51 dX10_layLengths_145 (fun H locs hP hD hS => ?_)
  refine lv_aload_n hx hb dX10_layLengths_146 rfl (lv_at hl 4 rfl) ?_
  refine gf_RX10_25 hx hb hown hE hP 3 rfl rfl dX10_layLengths_147 ?_
  refine lv_iload_n hx hb dX10_layLengths_150 rfl (lv_at hl 3 rfl) ?_
  refine lv_iload_n hx hb dX10_layLengths_151 rfl (lv_at hl 1 rfl) ?_
  refine lv_ldc (v := 200000) hx hb hown (e1464 hE) dX10_layLengths_152 ?_
  refine x_mmin (v := 0) hx hb (by rw [hml]; exact hl.1.symm) hown (e1465 hE) (e362 hE) (e9 hE) (e363 hE) (Nat.le_of_ble_eq_true rfl) (Nat.le_of_ble_eq_true rfl) (Nat.le_of_ble_eq_true rfl) (Nat.le_of_ble_eq_true rfl) (by decide) dX10_layLengths_154 ?_
  refine x_iast_same hx hb hE hP hD hS 0 rfl 3 (x_in (by decide)) (by decide) hf51 dX10_layLengths_157 (fun H locs hP hD hS => ?_)
  refine lv_iinc (v := 4) (lv' := [(1, .int 4), (4, .int 0), (3, .int 0), (2, .int 0), (0, .ref q1)]) hx hb dX10_layLengths_158 hl (k := 3) rfl (by decide) (by decide) rfl (fun ls hl => ?_)
  refine lv_goto (tgt := 2) hx hb dX10_layLengths_161 (by decide) ?_
  refine lv_iload_n hx hb dX10_layLengths_2 rfl (lv_at hl 0 rfl) ?_
  refine lv_bipush (v := 8) hx hb dX10_layLengths_3 (by decide) ?_
  refine lv_icmp_ge (tgt := 164) hx hb dX10_layLengths_5 (by decide) (fun h => absurd h (by decide)) (fun _ => ?_)
  refine lv_iconst (v := 0) hx hb dX10_layLengths_8 (by decide) ?_
  refine lv_istore_n (lv' := [(2, .int 0), (1, .int 4), (4, .int 0), (3, .int 0), (0, .ref q1)]) hx hb dX10_layLengths_9 rfl hl (by decide) rfl (fun ls hl => ?_)
  refine lv_iconst (v := 0) hx hb dX10_layLengths_10 (by decide) ?_
  refine lv_istore_n (lv' := [(3, .int 0), (2, .int 0), (1, .int 4), (4, .int 0), (0, .ref q1)]) hx hb dX10_layLengths_11 rfl hl (by decide) rfl (fun ls hl => ?_)
  refine lv_iconst (v := 0) hx hb dX10_layLengths_12 (by decide) ?_
  refine lv_istore (lv' := [(4, .int 0), (3, .int 0), (2, .int 0), (1, .int 4), (0, .ref q1)]) hx hb dX10_layLengths_13 hl (by decide) rfl (fun ls hl => ?_)
  refine lv_iload hx hb dX10_layLengths_15 (lv_at hl 0 rfl) ?_
  refine lv_aload_n hx hb dX10_layLengths_17 rfl (lv_at hl 4 rfl) ?_
  refine lv_iload_n hx hb dX10_layLengths_18 rfl (lv_at hl 3 rfl) ?_
  refine g_i (wr := [(q45, .inl (g.2 0, 8, .inl f43)), (q42, .inl (g.2 0, 8, .inl f43))]) (rV (rest := [.int 0]) hx hb hml hown hE hP hD 3 rfl rfl (c164_X10_many l g q1 q39 w3 w4 w5 w6 w7 w8 (.ref q42) (.ref q45) w11 w12 w13 w14 w15 w16 w17 w18 w19 w20 w21 w22 w23 w24 w25 w26 w27 w28 w29 w30 w31 w32 w33 w34 w35 w36 w37 w38 f40 (hf52) H.size) (kV_X10_many hE (e1456 hE) rfl rfl ⟨(Nat.le_of_ble_eq_true rfl), (Nat.le_of_ble_eq_true rfl)⟩) [2, 3] rfl (by decide) rfl hl.1 rfl (lv_room (Nat.le_of_ble_eq_true rfl)) dX10_layLengths_19 ⟨(Nat.le_of_ble_eq_true rfl), (Nat.le_of_ble_eq_true rfl)⟩) hP hD hS hA [2, 3] [0, 1] rfl rfl (by decide) (by decide) (fun u5 H locs hP hD hS => ?_)
  have hP : va_P g.1 vwCl [(q45, .inl (g.2 0, 8, .inl f43)), (q42, .inl (g.2 0, 8, .inl f43)), (q39, .inl (g.2 0, 497, .inl f40)), (q1, .inr (12, [.ref q39, w3, w4, w5, w6, w7, w8, .ref q42, .ref q45, w11, w12, w13, w14, w15, w16, w17, w18, w19, w20, w21, w22, w23, w24, w25, w26, w27, w28, w29, w30, w31, w32, w33, w34, w35, w36, w37, w38]))] H := hP
  have hD : va_D A [(q45, .inl (g.2 0, 8, .inl f43)), (q42, .inl (g.2 0, 8, .inl f43)), (q39, .inl (g.2 0, 497, .inl f40)), (q1, .inr (12, [.ref q39, w3, w4, w5, w6, w7, w8, .ref q42, .ref q45, w11, w12, w13, w14, w15, w16, w17, w18, w19, w20, w21, w22, w23, w24, w25, w26, w27, w28, w29, w30, w31, w32, w33, w34, w35, w36, w37, w38]))] := hD
  refine lv_icmp_ge (tgt := 134) hx hb dX10_layLengths_22 (by decide) (fun _ => ?_) (fun h => absurd (by decide) h)
  refine lv_aload_n hx hb dX10_layLengths_134 rfl (lv_at hl 4 rfl) ?_
  refine gf_RX10_22 hx hb hown hE hP 3 rfl rfl dX10_layLengths_135 ?_
  refine lv_iload_n hx hb dX10_layLengths_138 rfl (lv_at hl 3 rfl) ?_
  refine lv_iload_n hx hb dX10_layLengths_139 rfl (lv_at hl 2 rfl) ?_
  refine lv_ldc (v := 200000) hx hb hown (e1464 hE) dX10_layLengths_140 ?_
  refine x_mmin (v := 0) hx hb (by rw [hml]; exact hl.1.symm) hown (e1465 hE) (e362 hE) (e9 hE) (e363 hE) (Nat.le_of_ble_eq_true rfl) (Nat.le_of_ble_eq_true rfl) (Nat.le_of_ble_eq_true rfl) (Nat.le_of_ble_eq_true rfl) (by decide) dX10_layLengths_142 ?_
  refine x_iast_same hx hb hE hP hD hS 1 rfl 4 (x_in (by decide)) (by decide) hf53 dX10_layLengths_145 (fun H locs hP hD hS => ?_)
  refine lv_aload_n hx hb dX10_layLengths_146 rfl (lv_at hl 4 rfl) ?_
  refine gf_RX10_25 hx hb hown hE hP 3 rfl rfl dX10_layLengths_147 ?_
  refine lv_iload_n hx hb dX10_layLengths_150 rfl (lv_at hl 3 rfl) ?_
  refine lv_iload_n hx hb dX10_layLengths_151 rfl (lv_at hl 1 rfl) ?_
  refine lv_ldc (v := 200000) hx hb hown (e1464 hE) dX10_layLengths_152 ?_
  refine x_mmin (v := 0) hx hb (by rw [hml]; exact hl.1.symm) hown (e1465 hE) (e362 hE) (e9 hE) (e363 hE) (Nat.le_of_ble_eq_true rfl) (Nat.le_of_ble_eq_true rfl) (Nat.le_of_ble_eq_true rfl) (Nat.le_of_ble_eq_true rfl) (by decide) dX10_layLengths_154 ?_
  refine x_iast_same hx hb hE hP hD hS 0 rfl 4 (x_in (by decide)) (by decide) hf53 dX10_layLengths_157 (fun H locs hP hD hS => ?_)
  refine lv_iinc (v := 5) (lv' := [(1, .int 5), (4, .int 0), (3, .int 0), (2, .int 0), (0, .ref q1)]) hx hb dX10_layLengths_158 hl (k := 3) rfl (by decide) (by decide) rfl (fun ls hl => ?_)
  refine lv_goto (tgt := 2) hx hb dX10_layLengths_161 (by decide) ?_
  refine lv_iload_n hx hb dX10_layLengths_2 rfl (lv_at hl 0 rfl) ?_
  refine lv_bipush (v := 8) hx hb dX10_layLengths_3 (by decide) ?_
  refine lv_icmp_ge (tgt := 164) hx hb dX10_layLengths_5 (by decide) (fun h => absurd h (by decide)) (fun _ => ?_)
  refine lv_iconst (v := 0) hx hb dX10_layLengths_8 (by decide) ?_
  refine lv_istore_n (lv' := [(2, .int 0), (1, .int 5), (4, .int 0), (3, .int 0), (0, .ref q1)]) hx hb dX10_layLengths_9 rfl hl (by decide) rfl (fun ls hl => ?_)
  refine lv_iconst (v := 0) hx hb dX10_layLengths_10 (by decide) ?_
  refine lv_istore_n (lv' := [(3, .int 0), (2, .int 0), (1, .int 5), (4, .int 0), (0, .ref q1)]) hx hb dX10_layLengths_11 rfl hl (by decide) rfl (fun ls hl => ?_)
  refine lv_iconst (v := 0) hx hb dX10_layLengths_12 (by decide) ?_
  refine lv_istore (lv' := [(4, .int 0), (3, .int 0), (2, .int 0), (1, .int 5), (0, .ref q1)]) hx hb dX10_layLengths_13 hl (by decide) rfl (fun ls hl => ?_)
  refine lv_iload hx hb dX10_layLengths_15 (lv_at hl 0 rfl) ?_
  refine lv_aload_n hx hb dX10_layLengths_17 rfl (lv_at hl 4 rfl) ?_
  refine lv_iload_n hx hb dX10_layLengths_18 rfl (lv_at hl 3 rfl) ?_
  refine g_i (wr := [(q45, .inl (g.2 0, 8, .inl f43)), (q42, .inl (g.2 0, 8, .inl f43))]) (rV (rest := [.int 0]) hx hb hml hown hE hP hD 3 rfl rfl (c166_X10_many l g q1 q39 w3 w4 w5 w6 w7 w8 (.ref q42) (.ref q45) w11 w12 w13 w14 w15 w16 w17 w18 w19 w20 w21 w22 w23 w24 w25 w26 w27 w28 w29 w30 w31 w32 w33 w34 w35 w36 w37 w38 f40 (hf54) H.size) (kV_X10_many hE (e1456 hE) rfl rfl ⟨(Nat.le_of_ble_eq_true rfl), (Nat.le_of_ble_eq_true rfl)⟩) [2, 3] rfl (by decide) rfl hl.1 rfl (lv_room (Nat.le_of_ble_eq_true rfl)) dX10_layLengths_19 ⟨(Nat.le_of_ble_eq_true rfl), (Nat.le_of_ble_eq_true rfl)⟩) hP hD hS hA [2, 3] [0, 1] rfl rfl (by decide) (by decide) (fun u6 H locs hP hD hS => ?_)
  have hP : va_P g.1 vwCl [(q45, .inl (g.2 0, 8, .inl f43)), (q42, .inl (g.2 0, 8, .inl f43)), (q39, .inl (g.2 0, 497, .inl f40)), (q1, .inr (12, [.ref q39, w3, w4, w5, w6, w7, w8, .ref q42, .ref q45, w11, w12, w13, w14, w15, w16, w17, w18, w19, w20, w21, w22, w23, w24, w25, w26, w27, w28, w29, w30, w31, w32, w33, w34, w35, w36, w37, w38]))] H := hP
  have hD : va_D A [(q45, .inl (g.2 0, 8, .inl f43)), (q42, .inl (g.2 0, 8, .inl f43)), (q39, .inl (g.2 0, 497, .inl f40)), (q1, .inr (12, [.ref q39, w3, w4, w5, w6, w7, w8, .ref q42, .ref q45, w11, w12, w13, w14, w15, w16, w17, w18, w19, w20, w21, w22, w23, w24, w25, w26, w27, w28, w29, w30, w31, w32, w33, w34, w35, w36, w37, w38]))] := hD
  refine lv_icmp_ge (tgt := 134) hx hb dX10_layLengths_22 (by decide) (fun _ => ?_) (fun h => absurd (by decide) h)
  refine lv_aload_n hx hb dX10_layLengths_134 rfl (lv_at hl 4 rfl) ?_
  refine gf_RX10_22 hx hb hown hE hP 3 rfl rfl dX10_layLengths_135 ?_
  refine lv_iload_n hx hb dX10_layLengths_138 rfl (lv_at hl 3 rfl) ?_
  refine lv_iload_n hx hb dX10_layLengths_139 rfl (lv_at hl 2 rfl) ?_
  refine lv_ldc (v := 200000) hx hb hown (e1464 hE) dX10_layLengths_140 ?_
  refine x_mmin (v := 0) hx hb (by rw [hml]; exact hl.1.symm) hown (e1465 hE) (e362 hE) (e9 hE) (e363 hE) (Nat.le_of_ble_eq_true rfl) (Nat.le_of_ble_eq_true rfl) (Nat.le_of_ble_eq_true rfl) (Nat.le_of_ble_eq_true rfl) (by decide) dX10_layLengths_142 ?_
  refine x_iast_same hx hb hE hP hD hS 1 rfl 5 (x_in (by decide)) (by decide) hf55 dX10_layLengths_145 (fun H locs hP hD hS => ?_)
  refine lv_aload_n hx hb dX10_layLengths_146 rfl (lv_at hl 4 rfl) ?_
  refine gf_RX10_25 hx hb hown hE hP 3 rfl rfl dX10_layLengths_147 ?_
  refine lv_iload_n hx hb dX10_layLengths_150 rfl (lv_at hl 3 rfl) ?_
  refine lv_iload_n hx hb dX10_layLengths_151 rfl (lv_at hl 1 rfl) ?_
  refine lv_ldc (v := 200000) hx hb hown (e1464 hE) dX10_layLengths_152 ?_
  refine x_mmin (v := 0) hx hb (by rw [hml]; exact hl.1.symm) hown (e1465 hE) (e362 hE) (e9 hE) (e363 hE) (Nat.le_of_ble_eq_true rfl) (Nat.le_of_ble_eq_true rfl) (Nat.le_of_ble_eq_true rfl) (Nat.le_of_ble_eq_true rfl) (by decide) dX10_layLengths_154 ?_
  refine x_iast_same hx hb hE hP hD hS 0 rfl 5 (x_in (by decide)) (by decide) hf55 dX10_layLengths_157 (fun H locs hP hD hS => ?_)
  refine lv_iinc (v := 6) (lv' := [(1, .int 6), (4, .int 0), (3, .int 0), (2, .int 0), (0, .ref q1)]) hx hb dX10_layLengths_158 hl (k := 3) rfl (by decide) (by decide) rfl (fun ls hl => ?_)
  refine lv_goto (tgt := 2) hx hb dX10_layLengths_161 (by decide) ?_
  refine lv_iload_n hx hb dX10_layLengths_2 rfl (lv_at hl 0 rfl) ?_
  refine lv_bipush (v := 8) hx hb dX10_layLengths_3 (by decide) ?_
  refine lv_icmp_ge (tgt := 164) hx hb dX10_layLengths_5 (by decide) (fun h => absurd h (by decide)) (fun _ => ?_)
  refine lv_iconst (v := 0) hx hb dX10_layLengths_8 (by decide) ?_
  refine lv_istore_n (lv' := [(2, .int 0), (1, .int 6), (4, .int 0), (3, .int 0), (0, .ref q1)]) hx hb dX10_layLengths_9 rfl hl (by decide) rfl (fun ls hl => ?_)
  refine lv_iconst (v := 0) hx hb dX10_layLengths_10 (by decide) ?_
  refine lv_istore_n (lv' := [(3, .int 0), (2, .int 0), (1, .int 6), (4, .int 0), (0, .ref q1)]) hx hb dX10_layLengths_11 rfl hl (by decide) rfl (fun ls hl => ?_)
  refine lv_iconst (v := 0) hx hb dX10_layLengths_12 (by decide) ?_
  refine lv_istore (lv' := [(4, .int 0), (3, .int 0), (2, .int 0), (1, .int 6), (0, .ref q1)]) hx hb dX10_layLengths_13 hl (by decide) rfl (fun ls hl => ?_)
  refine lv_iload hx hb dX10_layLengths_15 (lv_at hl 0 rfl) ?_
  refine lv_aload_n hx hb dX10_layLengths_17 rfl (lv_at hl 4 rfl) ?_
  refine lv_iload_n hx hb dX10_layLengths_18 rfl (lv_at hl 3 rfl) ?_
  refine g_i (wr := [(q45, .inl (g.2 0, 8, .inl f43)), (q42, .inl (g.2 0, 8, .inl f43))]) (rV (rest := [.int 0]) hx hb hml hown hE hP hD 3 rfl rfl (c168_X10_many l g q1 q39 w3 w4 w5 w6 w7 w8 (.ref q42) (.ref q45) w11 w12 w13 w14 w15 w16 w17 w18 w19 w20 w21 w22 w23 w24 w25 w26 w27 w28 w29 w30 w31 w32 w33 w34 w35 w36 w37 w38 f40 (hf56) H.size) (kV_X10_many hE (e1456 hE) rfl rfl ⟨(Nat.le_of_ble_eq_true rfl), (Nat.le_of_ble_eq_true rfl)⟩) [2, 3] rfl (by decide) rfl hl.1 rfl (lv_room (Nat.le_of_ble_eq_true rfl)) dX10_layLengths_19 ⟨(Nat.le_of_ble_eq_true rfl), (Nat.le_of_ble_eq_true rfl)⟩) hP hD hS hA [2, 3] [0, 1] rfl rfl (by decide) (by decide) (fun u7 H locs hP hD hS => ?_)
  have hP : va_P g.1 vwCl [(q45, .inl (g.2 0, 8, .inl f43)), (q42, .inl (g.2 0, 8, .inl f43)), (q39, .inl (g.2 0, 497, .inl f40)), (q1, .inr (12, [.ref q39, w3, w4, w5, w6, w7, w8, .ref q42, .ref q45, w11, w12, w13, w14, w15, w16, w17, w18, w19, w20, w21, w22, w23, w24, w25, w26, w27, w28, w29, w30, w31, w32, w33, w34, w35, w36, w37, w38]))] H := hP
  have hD : va_D A [(q45, .inl (g.2 0, 8, .inl f43)), (q42, .inl (g.2 0, 8, .inl f43)), (q39, .inl (g.2 0, 497, .inl f40)), (q1, .inr (12, [.ref q39, w3, w4, w5, w6, w7, w8, .ref q42, .ref q45, w11, w12, w13, w14, w15, w16, w17, w18, w19, w20, w21, w22, w23, w24, w25, w26, w27, w28, w29, w30, w31, w32, w33, w34, w35, w36, w37, w38]))] := hD
  refine lv_icmp_ge (tgt := 134) hx hb dX10_layLengths_22 (by decide) (fun _ => ?_) (fun h => absurd (by decide) h)
  refine lv_aload_n hx hb dX10_layLengths_134 rfl (lv_at hl 4 rfl) ?_
  refine gf_RX10_22 hx hb hown hE hP 3 rfl rfl dX10_layLengths_135 ?_
  refine lv_iload_n hx hb dX10_layLengths_138 rfl (lv_at hl 3 rfl) ?_
  refine lv_iload_n hx hb dX10_layLengths_139 rfl (lv_at hl 2 rfl) ?_
  refine lv_ldc (v := 200000) hx hb hown (e1464 hE) dX10_layLengths_140 ?_
  refine x_mmin (v := 0) hx hb (by rw [hml]; exact hl.1.symm) hown (e1465 hE) (e362 hE) (e9 hE) (e363 hE) (Nat.le_of_ble_eq_true rfl) (Nat.le_of_ble_eq_true rfl) (Nat.le_of_ble_eq_true rfl) (Nat.le_of_ble_eq_true rfl) (by decide) dX10_layLengths_142 ?_
  refine x_iast_same hx hb hE hP hD hS 1 rfl 6 (x_in (by decide)) (by decide) hf57 dX10_layLengths_145 (fun H locs hP hD hS => ?_)
  refine lv_aload_n hx hb dX10_layLengths_146 rfl (lv_at hl 4 rfl) ?_
  refine gf_RX10_25 hx hb hown hE hP 3 rfl rfl dX10_layLengths_147 ?_
  refine lv_iload_n hx hb dX10_layLengths_150 rfl (lv_at hl 3 rfl) ?_
  refine lv_iload_n hx hb dX10_layLengths_151 rfl (lv_at hl 1 rfl) ?_
  refine lv_ldc (v := 200000) hx hb hown (e1464 hE) dX10_layLengths_152 ?_
  refine x_mmin (v := 0) hx hb (by rw [hml]; exact hl.1.symm) hown (e1465 hE) (e362 hE) (e9 hE) (e363 hE) (Nat.le_of_ble_eq_true rfl) (Nat.le_of_ble_eq_true rfl) (Nat.le_of_ble_eq_true rfl) (Nat.le_of_ble_eq_true rfl) (by decide) dX10_layLengths_154 ?_
  refine x_iast_same hx hb hE hP hD hS 0 rfl 6 (x_in (by decide)) (by decide) hf57 dX10_layLengths_157 (fun H locs hP hD hS => ?_)
  refine lv_iinc (v := 7) (lv' := [(1, .int 7), (4, .int 0), (3, .int 0), (2, .int 0), (0, .ref q1)]) hx hb dX10_layLengths_158 hl (k := 3) rfl (by decide) (by decide) rfl (fun ls hl => ?_)
  refine lv_goto (tgt := 2) hx hb dX10_layLengths_161 (by decide) ?_
  refine lv_iload_n hx hb dX10_layLengths_2 rfl (lv_at hl 0 rfl) ?_
  refine lv_bipush (v := 8) hx hb dX10_layLengths_3 (by decide) ?_
  refine lv_icmp_ge (tgt := 164) hx hb dX10_layLengths_5 (by decide) (fun h => absurd h (by decide)) (fun _ => ?_)
  refine lv_iconst (v := 0) hx hb dX10_layLengths_8 (by decide) ?_
  refine lv_istore_n (lv' := [(2, .int 0), (1, .int 7), (4, .int 0), (3, .int 0), (0, .ref q1)]) hx hb dX10_layLengths_9 rfl hl (by decide) rfl (fun ls hl => ?_)
  refine lv_iconst (v := 0) hx hb dX10_layLengths_10 (by decide) ?_
  refine lv_istore_n (lv' := [(3, .int 0), (2, .int 0), (1, .int 7), (4, .int 0), (0, .ref q1)]) hx hb dX10_layLengths_11 rfl hl (by decide) rfl (fun ls hl => ?_)
  refine lv_iconst (v := 0) hx hb dX10_layLengths_12 (by decide) ?_
  refine lv_istore (lv' := [(4, .int 0), (3, .int 0), (2, .int 0), (1, .int 7), (0, .ref q1)]) hx hb dX10_layLengths_13 hl (by decide) rfl (fun ls hl => ?_)
  refine lv_iload hx hb dX10_layLengths_15 (lv_at hl 0 rfl) ?_
  refine lv_aload_n hx hb dX10_layLengths_17 rfl (lv_at hl 4 rfl) ?_
  refine lv_iload_n hx hb dX10_layLengths_18 rfl (lv_at hl 3 rfl) ?_
  refine g_i (wr := [(q45, .inl (g.2 0, 8, .inl f43)), (q42, .inl (g.2 0, 8, .inl f43))]) (rV (rest := [.int 0]) hx hb hml hown hE hP hD 3 rfl rfl (c170_X10_many l g q1 q39 w3 w4 w5 w6 w7 w8 (.ref q42) (.ref q45) w11 w12 w13 w14 w15 w16 w17 w18 w19 w20 w21 w22 w23 w24 w25 w26 w27 w28 w29 w30 w31 w32 w33 w34 w35 w36 w37 w38 f40 (hf58) H.size) (kV_X10_many hE (e1456 hE) rfl rfl ⟨(Nat.le_of_ble_eq_true rfl), (Nat.le_of_ble_eq_true rfl)⟩) [2, 3] rfl (by decide) rfl hl.1 rfl (lv_room (Nat.le_of_ble_eq_true rfl)) dX10_layLengths_19 ⟨(Nat.le_of_ble_eq_true rfl), (Nat.le_of_ble_eq_true rfl)⟩) hP hD hS hA [2, 3] [0, 1] rfl rfl (by decide) (by decide) (fun u8 H locs hP hD hS => ?_)
  have hP : va_P g.1 vwCl [(q45, .inl (g.2 0, 8, .inl f43)), (q42, .inl (g.2 0, 8, .inl f43)), (q39, .inl (g.2 0, 497, .inl f40)), (q1, .inr (12, [.ref q39, w3, w4, w5, w6, w7, w8, .ref q42, .ref q45, w11, w12, w13, w14, w15, w16, w17, w18, w19, w20, w21, w22, w23, w24, w25, w26, w27, w28, w29, w30, w31, w32, w33, w34, w35, w36, w37, w38]))] H := hP
  have hD : va_D A [(q45, .inl (g.2 0, 8, .inl f43)), (q42, .inl (g.2 0, 8, .inl f43)), (q39, .inl (g.2 0, 497, .inl f40)), (q1, .inr (12, [.ref q39, w3, w4, w5, w6, w7, w8, .ref q42, .ref q45, w11, w12, w13, w14, w15, w16, w17, w18, w19, w20, w21, w22, w23, w24, w25, w26, w27, w28, w29, w30, w31, w32, w33, w34, w35, w36, w37, w38]))] := hD
  refine lv_icmp_ge (tgt := 134) hx hb dX10_layLengths_22 (by decide) (fun _ => ?_) (fun h => absurd (by decide) h)
  refine lv_aload_n hx hb dX10_layLengths_134 rfl (lv_at hl 4 rfl) ?_
  refine gf_RX10_22 hx hb hown hE hP 3 rfl rfl dX10_layLengths_135 ?_
  refine lv_iload_n hx hb dX10_layLengths_138 rfl (lv_at hl 3 rfl) ?_
  refine lv_iload_n hx hb dX10_layLengths_139 rfl (lv_at hl 2 rfl) ?_
  refine lv_ldc (v := 200000) hx hb hown (e1464 hE) dX10_layLengths_140 ?_
  refine x_mmin (v := 0) hx hb (by rw [hml]; exact hl.1.symm) hown (e1465 hE) (e362 hE) (e9 hE) (e363 hE) (Nat.le_of_ble_eq_true rfl) (Nat.le_of_ble_eq_true rfl) (Nat.le_of_ble_eq_true rfl) (Nat.le_of_ble_eq_true rfl) (by decide) dX10_layLengths_142 ?_
  refine x_iast_same hx hb hE hP hD hS 1 rfl 7 (x_in (by decide)) (by decide) hf59 dX10_layLengths_145 (fun H locs hP hD hS => ?_)
  refine lv_aload_n hx hb dX10_layLengths_146 rfl (lv_at hl 4 rfl) ?_
  refine gf_RX10_25 hx hb hown hE hP 3 rfl rfl dX10_layLengths_147 ?_
  refine lv_iload_n hx hb dX10_layLengths_150 rfl (lv_at hl 3 rfl) ?_
  refine lv_iload_n hx hb dX10_layLengths_151 rfl (lv_at hl 1 rfl) ?_
  refine lv_ldc (v := 200000) hx hb hown (e1464 hE) dX10_layLengths_152 ?_
  refine x_mmin (v := 0) hx hb (by rw [hml]; exact hl.1.symm) hown (e1465 hE) (e362 hE) (e9 hE) (e363 hE) (Nat.le_of_ble_eq_true rfl) (Nat.le_of_ble_eq_true rfl) (Nat.le_of_ble_eq_true rfl) (Nat.le_of_ble_eq_true rfl) (by decide) dX10_layLengths_154 ?_
  refine x_iast_same hx hb hE hP hD hS 0 rfl 7 (x_in (by decide)) (by decide) hf59 dX10_layLengths_157 (fun H locs hP hD hS => ?_)
  refine lv_iinc (v := 8) (lv' := [(1, .int 8), (4, .int 0), (3, .int 0), (2, .int 0), (0, .ref q1)]) hx hb dX10_layLengths_158 hl (k := 3) rfl (by decide) (by decide) rfl (fun ls hl => ?_)
  refine lv_goto (tgt := 2) hx hb dX10_layLengths_161 (by decide) ?_
  refine lv_iload_n hx hb dX10_layLengths_2 rfl (lv_at hl 0 rfl) ?_
  refine lv_bipush (v := 8) hx hb dX10_layLengths_3 (by decide) ?_
  refine lv_icmp_ge (tgt := 164) hx hb dX10_layLengths_5 (by decide) (fun _ => ?_) (fun h => absurd (by decide) h)
  exact x_vret hx hb hr hlocks hP hD hS hAe hsz (Nat.le_of_ble_eq_true rfl) (Nat.le_of_ble_eq_true rfl) (fun _ => 0) [0, 1, 2, 3] (by decide) rfl dX10_layLengths_164

set_option maxHeartbeats 4000000 in
set_option maxRecDepth 100000 in
theorem c172_X10_giveVoices (l : Launch) (g : gG) (q1 q39 : Nat) (w2 w3 w4 w5 w6 w7 w8 w9 w10 w11 w12 w13 w14 w15 w17 w18 w19 w20 w21 w22 w23 w24 w25 w26 w28 w29 w30 w31 w32 w33 w34 w35 w36 w37 w38 : Value) (f40 : Nat → Int32) (sz : Nat) : Met l yX10_giveVoices [Cond.code yX10_giveVoices cX10_giveVoices 3 none] ({ frames := 0, cells := 0, slots := 0, locals := 0 } : Room) (va_Pc [.ref q1] (PX g sz [(q39, .inl (g.2 0, 8, .inl f40)), (q1, .inr (12, [w2, w3, w4, w5, w6, w7, w8, w9, w10, w11, w12, w13, w14, w15, .int 0, w17, w18, w19, w20, w21, w22, w23, w24, w25, w26, .ref q39, w28, w29, w30, w31, w32, w33, w34, w35, w36, w37, w38]))])) (QV g [(q39, .inl (g.2 0, 8, .inl f40)), (q1, .inr (12, [w2, w3, w4, w5, w6, w7, w8, w9, w10, w11, w12, w13, w14, w15, .int 0, w17, w18, w19, w20, w21, w22, w23, w24, w25, w26, .ref q39, w28, w29, w30, w31, w32, w33, w34, w35, w36, w37, w38]))] sz (fun _ => [(q39, .inl (g.2 0, 8, .inl (upd (upd (upd (upd (upd (upd (upd (upd f40 0 (-1)) 1 (-1)) 2 (-1)) 3 (-1)) 4 (-1)) 5 (-1)) 6 (-1)) 7 (-1)))), (q1, .inr (12, [w2, w3, w4, w5, w6, w7, w8, w9, w10, w11, w12, w13, w14, w15, .int 0, w17, w18, w19, w20, w21, w22, w23, w24, w25, w26, .ref q39, w28, w29, w30, w31, w32, w33, w34, w35, w36, w37, w38]))])) 0 0 (va_A [(q39, .inl (g.2 0, 8, .inl f40)), (q1, .inr (12, [w2, w3, w4, w5, w6, w7, w8, w9, w10, w11, w12, w13, w14, w15, .int 0, w17, w18, w19, w20, w21, w22, w23, w24, w25, w26, .ref q39, w28, w29, w30, w31, w32, w33, w34, w35, w36, w37, w38]))] sz) := by
  refine ofN (by decide) (Nat.le_of_ble_eq_true rfl) rfl ?_
  intro p e s m args below meth c A ls hAe hsz hx hb hml hr hlocks hin hown hE hP hD hA hS hl
  have hown : s.vm.findClass RX10 = some m.cls := hown
  refine lv_iconst (v := 0) hx hb dX10_giveVoices_0 (by decide) ?_
  refine lv_istore_n (lv' := [(1, .int 0), (0, .ref q1)]) hx hb dX10_giveVoices_1 rfl hl (by decide) rfl (fun ls hl => ?_)
  refine lv_iload_n hx hb dX10_giveVoices_2 rfl (lv_at hl 0 rfl) ?_
  refine lv_bipush (v := 8) hx hb dX10_giveVoices_3 (by decide) ?_
  refine lv_icmp_ge (tgt := 21) hx hb dX10_giveVoices_5 (by decide) (fun h => absurd h (by decide)) (fun _ => ?_)
  refine lv_aload_n hx hb dX10_giveVoices_8 rfl (lv_at hl 1 rfl) ?_
  refine gf_RX10_64 hx hb hown hE hP 1 rfl rfl dX10_giveVoices_9 ?_
  refine lv_iload_n hx hb dX10_giveVoices_12 rfl (lv_at hl 0 rfl) ?_
  refine lv_iconst (v := (-1)) hx hb dX10_giveVoices_13 (by decide) ?_
  refine x_iast (ws' := [(q39, .inl (g.2 0, 8, .inl (upd f40 0 (-1)))), (q1, .inr (12, [w2, w3, w4, w5, w6, w7, w8, w9, w10, w11, w12, w13, w14, w15, .int 0, w17, w18, w19, w20, w21, w22, w23, w24, w25, w26, .ref q39, w28, w29, w30, w31, w32, w33, w34, w35, w36, w37, w38]))]) hx hb hE hP hD hS 0 rfl 0 (x_in (by decide)) (by decide) dX10_giveVoices_14 rfl (fun H locs hP hD hS => ?_)
  refine lv_iinc (v := 1) (lv' := [(1, .int 1), (0, .ref q1)]) hx hb dX10_giveVoices_15 hl (k := 0) rfl (by decide) (by decide) rfl (fun ls hl => ?_)
  refine lv_goto (tgt := 2) hx hb dX10_giveVoices_18 (by decide) ?_
  refine lv_iload_n hx hb dX10_giveVoices_2 rfl (lv_at hl 0 rfl) ?_
  refine lv_bipush (v := 8) hx hb dX10_giveVoices_3 (by decide) ?_
  refine lv_icmp_ge (tgt := 21) hx hb dX10_giveVoices_5 (by decide) (fun h => absurd h (by decide)) (fun _ => ?_)
  refine lv_aload_n hx hb dX10_giveVoices_8 rfl (lv_at hl 1 rfl) ?_
  refine gf_RX10_64 hx hb hown hE hP 1 rfl rfl dX10_giveVoices_9 ?_
  refine lv_iload_n hx hb dX10_giveVoices_12 rfl (lv_at hl 0 rfl) ?_
  refine lv_iconst (v := (-1)) hx hb dX10_giveVoices_13 (by decide) ?_
  refine x_iast (ws' := [(q39, .inl (g.2 0, 8, .inl (upd (upd f40 0 (-1)) 1 (-1)))), (q1, .inr (12, [w2, w3, w4, w5, w6, w7, w8, w9, w10, w11, w12, w13, w14, w15, .int 0, w17, w18, w19, w20, w21, w22, w23, w24, w25, w26, .ref q39, w28, w29, w30, w31, w32, w33, w34, w35, w36, w37, w38]))]) hx hb hE hP hD hS 0 rfl 1 (x_in (by decide)) (by decide) dX10_giveVoices_14 rfl (fun H locs hP hD hS => ?_)
  refine lv_iinc (v := 2) (lv' := [(1, .int 2), (0, .ref q1)]) hx hb dX10_giveVoices_15 hl (k := 0) rfl (by decide) (by decide) rfl (fun ls hl => ?_)
  refine lv_goto (tgt := 2) hx hb dX10_giveVoices_18 (by decide) ?_
  refine lv_iload_n hx hb dX10_giveVoices_2 rfl (lv_at hl 0 rfl) ?_
  refine lv_bipush (v := 8) hx hb dX10_giveVoices_3 (by decide) ?_
  refine lv_icmp_ge (tgt := 21) hx hb dX10_giveVoices_5 (by decide) (fun h => absurd h (by decide)) (fun _ => ?_)
  refine lv_aload_n hx hb dX10_giveVoices_8 rfl (lv_at hl 1 rfl) ?_
  refine gf_RX10_64 hx hb hown hE hP 1 rfl rfl dX10_giveVoices_9 ?_
  refine lv_iload_n hx hb dX10_giveVoices_12 rfl (lv_at hl 0 rfl) ?_
  refine lv_iconst (v := (-1)) hx hb dX10_giveVoices_13 (by decide) ?_
  refine x_iast (ws' := [(q39, .inl (g.2 0, 8, .inl (upd (upd (upd f40 0 (-1)) 1 (-1)) 2 (-1)))), (q1, .inr (12, [w2, w3, w4, w5, w6, w7, w8, w9, w10, w11, w12, w13, w14, w15, .int 0, w17, w18, w19, w20, w21, w22, w23, w24, w25, w26, .ref q39, w28, w29, w30, w31, w32, w33, w34, w35, w36, w37, w38]))]) hx hb hE hP hD hS 0 rfl 2 (x_in (by decide)) (by decide) dX10_giveVoices_14 rfl (fun H locs hP hD hS => ?_)
  refine lv_iinc (v := 3) (lv' := [(1, .int 3), (0, .ref q1)]) hx hb dX10_giveVoices_15 hl (k := 0) rfl (by decide) (by decide) rfl (fun ls hl => ?_)
  refine lv_goto (tgt := 2) hx hb dX10_giveVoices_18 (by decide) ?_
  refine lv_iload_n hx hb dX10_giveVoices_2 rfl (lv_at hl 0 rfl) ?_
  refine lv_bipush (v := 8) hx hb dX10_giveVoices_3 (by decide) ?_
  refine lv_icmp_ge (tgt := 21) hx hb dX10_giveVoices_5 (by decide) (fun h => absurd h (by decide)) (fun _ => ?_)
  refine lv_aload_n hx hb dX10_giveVoices_8 rfl (lv_at hl 1 rfl) ?_
  refine gf_RX10_64 hx hb hown hE hP 1 rfl rfl dX10_giveVoices_9 ?_
  refine lv_iload_n hx hb dX10_giveVoices_12 rfl (lv_at hl 0 rfl) ?_
  refine lv_iconst (v := (-1)) hx hb dX10_giveVoices_13 (by decide) ?_
  refine x_iast (ws' := [(q39, .inl (g.2 0, 8, .inl (upd (upd (upd (upd f40 0 (-1)) 1 (-1)) 2 (-1)) 3 (-1)))), (q1, .inr (12, [w2, w3, w4, w5, w6, w7, w8, w9, w10, w11, w12, w13, w14, w15, .int 0, w17, w18, w19, w20, w21, w22, w23, w24, w25, w26, .ref q39, w28, w29, w30, w31, w32, w33, w34, w35, w36, w37, w38]))]) hx hb hE hP hD hS 0 rfl 3 (x_in (by decide)) (by decide) dX10_giveVoices_14 rfl (fun H locs hP hD hS => ?_)
  refine lv_iinc (v := 4) (lv' := [(1, .int 4), (0, .ref q1)]) hx hb dX10_giveVoices_15 hl (k := 0) rfl (by decide) (by decide) rfl (fun ls hl => ?_)
  refine lv_goto (tgt := 2) hx hb dX10_giveVoices_18 (by decide) ?_
  refine lv_iload_n hx hb dX10_giveVoices_2 rfl (lv_at hl 0 rfl) ?_
  refine lv_bipush (v := 8) hx hb dX10_giveVoices_3 (by decide) ?_
  refine lv_icmp_ge (tgt := 21) hx hb dX10_giveVoices_5 (by decide) (fun h => absurd h (by decide)) (fun _ => ?_)
  refine lv_aload_n hx hb dX10_giveVoices_8 rfl (lv_at hl 1 rfl) ?_
  refine gf_RX10_64 hx hb hown hE hP 1 rfl rfl dX10_giveVoices_9 ?_
  refine lv_iload_n hx hb dX10_giveVoices_12 rfl (lv_at hl 0 rfl) ?_
  refine lv_iconst (v := (-1)) hx hb dX10_giveVoices_13 (by decide) ?_
  refine x_iast (ws' := [(q39, .inl (g.2 0, 8, .inl (upd (upd (upd (upd (upd f40 0 (-1)) 1 (-1)) 2 (-1)) 3 (-1)) 4 (-1)))), (q1, .inr (12, [w2, w3, w4, w5, w6, w7, w8, w9, w10, w11, w12, w13, w14, w15, .int 0, w17, w18, w19, w20, w21, w22, w23, w24, w25, w26, .ref q39, w28, w29, w30, w31, w32, w33, w34, w35, w36, w37, w38]))]) hx hb hE hP hD hS 0 rfl 4 (x_in (by decide)) (by decide) dX10_giveVoices_14 rfl (fun H locs hP hD hS => ?_)
  refine lv_iinc (v := 5) (lv' := [(1, .int 5), (0, .ref q1)]) hx hb dX10_giveVoices_15 hl (k := 0) rfl (by decide) (by decide) rfl (fun ls hl => ?_)
  refine lv_goto (tgt := 2) hx hb dX10_giveVoices_18 (by decide) ?_
  refine lv_iload_n hx hb dX10_giveVoices_2 rfl (lv_at hl 0 rfl) ?_
  refine lv_bipush (v := 8) hx hb dX10_giveVoices_3 (by decide) ?_
  refine lv_icmp_ge (tgt := 21) hx hb dX10_giveVoices_5 (by decide) (fun h => absurd h (by decide)) (fun _ => ?_)
  refine lv_aload_n hx hb dX10_giveVoices_8 rfl (lv_at hl 1 rfl) ?_
  refine gf_RX10_64 hx hb hown hE hP 1 rfl rfl dX10_giveVoices_9 ?_
  refine lv_iload_n hx hb dX10_giveVoices_12 rfl (lv_at hl 0 rfl) ?_
  refine lv_iconst (v := (-1)) hx hb dX10_giveVoices_13 (by decide) ?_
  refine x_iast (ws' := [(q39, .inl (g.2 0, 8, .inl (upd (upd (upd (upd (upd (upd f40 0 (-1)) 1 (-1)) 2 (-1)) 3 (-1)) 4 (-1)) 5 (-1)))), (q1, .inr (12, [w2, w3, w4, w5, w6, w7, w8, w9, w10, w11, w12, w13, w14, w15, .int 0, w17, w18, w19, w20, w21, w22, w23, w24, w25, w26, .ref q39, w28, w29, w30, w31, w32, w33, w34, w35, w36, w37, w38]))]) hx hb hE hP hD hS 0 rfl 5 (x_in (by decide)) (by decide) dX10_giveVoices_14 rfl (fun H locs hP hD hS => ?_)
  refine lv_iinc (v := 6) (lv' := [(1, .int 6), (0, .ref q1)]) hx hb dX10_giveVoices_15 hl (k := 0) rfl (by decide) (by decide) rfl (fun ls hl => ?_)
  refine lv_goto (tgt := 2) hx hb dX10_giveVoices_18 (by decide) ?_
  refine lv_iload_n hx hb dX10_giveVoices_2 rfl (lv_at hl 0 rfl) ?_
  refine lv_bipush (v := 8) hx hb dX10_giveVoices_3 (by decide) ?_
  refine lv_icmp_ge (tgt := 21) hx hb dX10_giveVoices_5 (by decide) (fun h => absurd h (by decide)) (fun _ => ?_)
  refine lv_aload_n hx hb dX10_giveVoices_8 rfl (lv_at hl 1 rfl) ?_
  refine gf_RX10_64 hx hb hown hE hP 1 rfl rfl dX10_giveVoices_9 ?_
  refine lv_iload_n hx hb dX10_giveVoices_12 rfl (lv_at hl 0 rfl) ?_
  refine lv_iconst (v := (-1)) hx hb dX10_giveVoices_13 (by decide) ?_
  refine x_iast (ws' := [(q39, .inl (g.2 0, 8, .inl (upd (upd (upd (upd (upd (upd (upd f40 0 (-1)) 1 (-1)) 2 (-1)) 3 (-1)) 4 (-1)) 5 (-1)) 6 (-1)))), (q1, .inr (12, [w2, w3, w4, w5, w6, w7, w8, w9, w10, w11, w12, w13, w14, w15, .int 0, w17, w18, w19, w20, w21, w22, w23, w24, w25, w26, .ref q39, w28, w29, w30, w31, w32, w33, w34, w35, w36, w37, w38]))]) hx hb hE hP hD hS 0 rfl 6 (x_in (by decide)) (by decide) dX10_giveVoices_14 rfl (fun H locs hP hD hS => ?_)
  refine lv_iinc (v := 7) (lv' := [(1, .int 7), (0, .ref q1)]) hx hb dX10_giveVoices_15 hl (k := 0) rfl (by decide) (by decide) rfl (fun ls hl => ?_)
  refine lv_goto (tgt := 2) hx hb dX10_giveVoices_18 (by decide) ?_
  refine lv_iload_n hx hb dX10_giveVoices_2 rfl (lv_at hl 0 rfl) ?_
  refine lv_bipush (v := 8) hx hb dX10_giveVoices_3 (by decide) ?_
  refine lv_icmp_ge (tgt := 21) hx hb dX10_giveVoices_5 (by decide) (fun h => absurd h (by decide)) (fun _ => ?_)
  refine lv_aload_n hx hb dX10_giveVoices_8 rfl (lv_at hl 1 rfl) ?_
  refine gf_RX10_64 hx hb hown hE hP 1 rfl rfl dX10_giveVoices_9 ?_
  refine lv_iload_n hx hb dX10_giveVoices_12 rfl (lv_at hl 0 rfl) ?_
  refine lv_iconst (v := (-1)) hx hb dX10_giveVoices_13 (by decide) ?_
  refine x_iast (ws' := [(q39, .inl (g.2 0, 8, .inl (upd (upd (upd (upd (upd (upd (upd (upd f40 0 (-1)) 1 (-1)) 2 (-1)) 3 (-1)) 4 (-1)) 5 (-1)) 6 (-1)) 7 (-1)))), (q1, .inr (12, [w2, w3, w4, w5, w6, w7, w8, w9, w10, w11, w12, w13, w14, w15, .int 0, w17, w18, w19, w20, w21, w22, w23, w24, w25, w26, .ref q39, w28, w29, w30, w31, w32, w33, w34, w35, w36, w37, w38]))]) hx hb hE hP hD hS 0 rfl 7 (x_in (by decide)) (by decide) dX10_giveVoices_14 rfl (fun H locs hP hD hS => ?_)
  refine lv_iinc (v := 8) (lv' := [(1, .int 8), (0, .ref q1)]) hx hb dX10_giveVoices_15 hl (k := 0) rfl (by decide) (by decide) rfl (fun ls hl => ?_)
  refine lv_goto (tgt := 2) hx hb dX10_giveVoices_18 (by decide) ?_
  refine lv_iload_n hx hb dX10_giveVoices_2 rfl (lv_at hl 0 rfl) ?_
  refine lv_bipush (v := 8) hx hb dX10_giveVoices_3 (by decide) ?_
  refine lv_icmp_ge (tgt := 21) hx hb dX10_giveVoices_5 (by decide) (fun _ => ?_) (fun h => absurd (by decide) h)
  refine lv_iconst (v := 0) hx hb dX10_giveVoices_21 (by decide) ?_
  refine lv_istore_n (lv' := [(1, .int 0), (0, .ref q1)]) hx hb dX10_giveVoices_22 rfl hl (by decide) rfl (fun ls hl => ?_)
  refine lv_iload_n hx hb dX10_giveVoices_23 rfl (lv_at hl 0 rfl) ?_
  refine lv_aload_n hx hb dX10_giveVoices_24 rfl (lv_at hl 1 rfl) ?_
  refine gf_RX10_176 hx hb hown hE hP 1 rfl rfl dX10_giveVoices_25 ?_
  refine lv_icmp_ge (tgt := 59) hx hb dX10_giveVoices_28 (by decide) (fun _ => ?_) (fun h => absurd (by decide) h)
  refine lv_iconst (v := 0) hx hb dX10_giveVoices_59 (by decide) ?_
  refine lv_istore_n (lv' := [(1, .int 0), (0, .ref q1)]) hx hb dX10_giveVoices_60 rfl hl (by decide) rfl (fun ls hl => ?_)
  refine lv_iload_n hx hb dX10_giveVoices_61 rfl (lv_at hl 0 rfl) ?_
  refine lv_aload_n hx hb dX10_giveVoices_62 rfl (lv_at hl 1 rfl) ?_
  refine gf_RX10_176 hx hb hown hE hP 1 rfl rfl dX10_giveVoices_63 ?_
  refine lv_icmp_ge (tgt := 91) hx hb dX10_giveVoices_66 (by decide) (fun _ => ?_) (fun h => absurd (by decide) h)
  exact x_vret hx hb hr hlocks hP hD hS hAe hsz (Nat.le_of_ble_eq_true rfl) (Nat.le_of_ble_eq_true rfl) (fun _ => 0) [0, 1] (by decide) rfl dX10_giveVoices_91

set_option maxHeartbeats 4000000 in
set_option maxRecDepth 100000 in
theorem c173_X10_layNotes (l : Launch) (g : gG) (q1 q39 q42 q45 q61 : Nat) (w3 w4 w5 w6 w7 w8 w11 w12 w13 w14 w15 w16 w17 w18 w19 w20 w21 w22 w23 w24 w25 w26 w28 w29 w30 w31 w32 w33 w34 w35 w36 w37 w38 : Value) (f40 : Nat → Int32) (f43 : Nat → Int32) (hf41 : f40 0 = 0) (hf44 : f43 0 = 0) (hf46 : f40 49 = 0) (hf47 : f43 1 = 0) (hf48 : f40 98 = 0) (hf49 : f43 2 = 0) (hf50 : f40 147 = 0) (hf51 : f43 3 = 0) (hf52 : f40 196 = 0) (hf53 : f43 4 = 0) (hf54 : f40 245 = 0) (hf55 : f43 5 = 0) (hf56 : f40 294 = 0) (hf57 : f43 6 = 0) (hf58 : f40 343 = 0) (hf59 : f43 7 = 0) (hf60 : f40 392 = 0) (sz : Nat) : Met l yX10_layNotes [Cond.code yX10_layNotes cX10_layNotes 4 none] ({ frames := 3, cells := 0, slots := 0, locals := 66 } : Room) (va_Pc [.ref q1] (PX g sz [(q61, .inl (g.2 0, 8, .inl f43)), (q45, .inl (g.2 0, 8, .inl f43)), (q42, .inl (g.2 0, 8, .inl f43)), (q39, .inl (g.2 0, 497, .inl f40)), (q1, .inr (12, [.ref q39, w3, w4, w5, w6, w7, w8, .ref q42, .ref q45, w11, w12, w13, w14, w15, w16, w17, w18, w19, w20, w21, w22, w23, w24, w25, w26, .ref q61, w28, w29, w30, w31, w32, w33, w34, w35, w36, w37, w38]))])) (QV g [(q61, .inl (g.2 0, 8, .inl f43)), (q45, .inl (g.2 0, 8, .inl f43)), (q42, .inl (g.2 0, 8, .inl f43)), (q39, .inl (g.2 0, 497, .inl f40)), (q1, .inr (12, [.ref q39, w3, w4, w5, w6, w7, w8, .ref q42, .ref q45, w11, w12, w13, w14, w15, w16, w17, w18, w19, w20, w21, w22, w23, w24, w25, w26, .ref q61, w28, w29, w30, w31, w32, w33, w34, w35, w36, w37, w38]))] sz (fun _ => [(q45, .inl (g.2 0, 8, .inl f43)), (q42, .inl (g.2 0, 8, .inl f43)), (q39, .inl (g.2 0, 497, .inl f40)), (q61, .inl (g.2 0, 8, .inl (upd (upd (upd (upd (upd (upd (upd (upd f43 0 (-1)) 1 (-1)) 2 (-1)) 3 (-1)) 4 (-1)) 5 (-1)) 6 (-1)) 7 (-1)))), (q1, .inr (12, [.ref q39, w3, w4, w5, w6, w7, w8, .ref q42, .ref q45, w11, w12, w13, w14, w15, .int 0, w17, w18, w19, w20, w21, w22, w23, w24, w25, w26, .ref q61, w28, w29, w30, w31, w32, w33, w34, w35, w36, w37, w38]))])) 0 0 (va_A [(q61, .inl (g.2 0, 8, .inl f43)), (q45, .inl (g.2 0, 8, .inl f43)), (q42, .inl (g.2 0, 8, .inl f43)), (q39, .inl (g.2 0, 497, .inl f40)), (q1, .inr (12, [.ref q39, w3, w4, w5, w6, w7, w8, .ref q42, .ref q45, w11, w12, w13, w14, w15, w16, w17, w18, w19, w20, w21, w22, w23, w24, w25, w26, .ref q61, w28, w29, w30, w31, w32, w33, w34, w35, w36, w37, w38]))] sz) := by
  refine ofN (by decide) (Nat.le_of_ble_eq_true rfl) rfl ?_
  intro p e s m args below meth c A ls hAe hsz hx hb hml hr hlocks hin hown hE hP hD hA hS hl
  have hown : s.vm.findClass RX10 = some m.cls := hown
  refine lv_aload_n hx hb dX10_layNotes_0 rfl (lv_at hl 0 rfl) ?_
  refine g_v (wr := [(q61, .inl (g.2 0, 8, .inl f43))]) (rV (rest := []) hx hb hml hown hE hP hD 4 rfl rfl (c171_X10_layLengths l g q1 q39 q42 q45 w3 w4 w5 w6 w7 w8 w11 w12 w13 w14 w15 w16 w17 w18 w19 w20 w21 w22 w23 w24 w25 w26 (.ref q61) w28 w29 w30 w31 w32 w33 w34 w35 w36 w37 w38 f40 f43 (hf41) (hf44) (hf46) (hf47) (hf48) (hf49) (hf50) (hf51) (hf52) (hf53) (hf54) (hf55) (hf56) (hf57) (hf58) (hf59) s.heap.size) (kV_X10_layLengths hE (e1452 hE) rfl rfl ⟨(Nat.le_of_ble_eq_true rfl), (Nat.le_of_ble_eq_true rfl)⟩) [1, 2, 3, 4] rfl (by decide) rfl hl.1 rfl (lv_room (Nat.le_of_ble_eq_true rfl)) dX10_layNotes_1 ⟨(Nat.le_of_ble_eq_true rfl), (Nat.le_of_ble_eq_true rfl)⟩) hP hD hS hA [1, 2, 3, 4] [0] rfl rfl (by decide) (by decide) (fun u1 H locs hP hD hS => ?_)
  have hP : va_P g.1 vwCl [(q61, .inl (g.2 0, 8, .inl f43)), (q45, .inl (g.2 0, 8, .inl f43)), (q42, .inl (g.2 0, 8, .inl f43)), (q39, .inl (g.2 0, 497, .inl f40)), (q1, .inr (12, [.ref q39, w3, w4, w5, w6, w7, w8, .ref q42, .ref q45, w11, w12, w13, w14, w15, w16, w17, w18, w19, w20, w21, w22, w23, w24, w25, w26, .ref q61, w28, w29, w30, w31, w32, w33, w34, w35, w36, w37, w38]))] H := hP
  have hD : va_D A [(q61, .inl (g.2 0, 8, .inl f43)), (q45, .inl (g.2 0, 8, .inl f43)), (q42, .inl (g.2 0, 8, .inl f43)), (q39, .inl (g.2 0, 497, .inl f40)), (q1, .inr (12, [.ref q39, w3, w4, w5, w6, w7, w8, .ref q42, .ref q45, w11, w12, w13, w14, w15, w16, w17, w18, w19, w20, w21, w22, w23, w24, w25, w26, .ref q61, w28, w29, w30, w31, w32, w33, w34, w35, w36, w37, w38]))] := hD
  refine lv_aload_n hx hb dX10_layNotes_4 rfl (lv_at hl 0 rfl) ?_
  refine lv_iconst (v := 0) hx hb dX10_layNotes_5 (by decide) ?_
  refine pf_RX10_176 (ws' := [(q61, .inl (g.2 0, 8, .inl f43)), (q45, .inl (g.2 0, 8, .inl f43)), (q42, .inl (g.2 0, 8, .inl f43)), (q39, .inl (g.2 0, 497, .inl f40)), (q1, .inr (12, [.ref q39, w3, w4, w5, w6, w7, w8, .ref q42, .ref q45, w11, w12, w13, w14, w15, .int 0, w17, w18, w19, w20, w21, w22, w23, w24, w25, w26, .ref q61, w28, w29, w30, w31, w32, w33, w34, w35, w36, w37, w38]))]) hx hb hown hE hP hD hS 4 rfl rfl rfl (Nat.le_of_ble_eq_true rfl) dX10_layNotes_6 rfl (fun H locs hP hD hS => ?_)
  refine lv_iconst (v := 0) hx hb dX10_layNotes_9 (by decide) ?_
  refine lv_istore_n (lv' := [(1, .int 0), (0, .ref q1)]) hx hb dX10_layNotes_10 rfl hl (by decide) rfl (fun ls hl => ?_)
  refine lv_iload_n hx hb dX10_layNotes_11 rfl (lv_at hl 0 rfl) ?_
  refine lv_aload_n hx hb dX10_layNotes_12 rfl (lv_at hl 1 rfl) ?_
  refine gf_RX10_9 hx hb hown hE hP 4 rfl rfl dX10_layNotes_13 ?_
  refine lv_sipush (v := 392) hx hb dX10_layNotes_16 (by decide) ?_
  refine x_iald (v := 0) hx hb hE hP 3 rfl 392 (x_in (by decide)) (by decide) hf60 dX10_layNotes_19 ?_
  refine lv_icmp_ge (tgt := 106) hx hb dX10_layNotes_20 (by decide) (fun _ => ?_) (fun h => absurd (by decide) h)
  refine lv_iconst (v := 0) hx hb dX10_layNotes_106 (by decide) ?_
  refine lv_istore_n (lv' := [(1, .int 0), (0, .ref q1)]) hx hb dX10_layNotes_107 rfl hl (by decide) rfl (fun ls hl => ?_)
  refine lv_iload_n hx hb dX10_layNotes_108 rfl (lv_at hl 0 rfl) ?_
  refine lv_aload_n hx hb dX10_layNotes_109 rfl (lv_at hl 1 rfl) ?_
  refine gf_RX10_176 hx hb hown hE hP 4 rfl rfl dX10_layNotes_110 ?_
  refine lv_icmp_ge (tgt := 156) hx hb dX10_layNotes_113 (by decide) (fun _ => ?_) (fun h => absurd (by decide) h)
  refine lv_aload_n hx hb dX10_layNotes_156 rfl (lv_at hl 1 rfl) ?_
  refine g_v (wr := [(q45, .inl (g.2 0, 8, .inl f43)), (q42, .inl (g.2 0, 8, .inl f43)), (q39, .inl (g.2 0, 497, .inl f40))]) (rV (rest := []) hx hb hml hown hE hP hD 4 rfl rfl (c172_X10_giveVoices l g q1 q61 (.ref q39) w3 w4 w5 w6 w7 w8 (.ref q42) (.ref q45) w11 w12 w13 w14 w15 w17 w18 w19 w20 w21 w22 w23 w24 w25 w26 w28 w29 w30 w31 w32 w33 w34 w35 w36 w37 w38 f43 H.size) (kV_X10_giveVoices hE (e1559 hE) rfl rfl ⟨(Nat.le_of_ble_eq_true rfl), (Nat.le_of_ble_eq_true rfl)⟩) [0, 4] rfl (by decide) rfl hl.1 rfl (lv_room (Nat.le_of_ble_eq_true rfl)) dX10_layNotes_157 ⟨(Nat.le_of_ble_eq_true rfl), (Nat.le_of_ble_eq_true rfl)⟩) hP hD hS hA [0, 4] [1, 2, 3] rfl rfl (by decide) (by decide) (fun u2 H locs hP hD hS => ?_)
  have hP : va_P g.1 vwCl [(q45, .inl (g.2 0, 8, .inl f43)), (q42, .inl (g.2 0, 8, .inl f43)), (q39, .inl (g.2 0, 497, .inl f40)), (q61, .inl (g.2 0, 8, .inl (upd (upd (upd (upd (upd (upd (upd (upd f43 0 (-1)) 1 (-1)) 2 (-1)) 3 (-1)) 4 (-1)) 5 (-1)) 6 (-1)) 7 (-1)))), (q1, .inr (12, [.ref q39, w3, w4, w5, w6, w7, w8, .ref q42, .ref q45, w11, w12, w13, w14, w15, .int 0, w17, w18, w19, w20, w21, w22, w23, w24, w25, w26, .ref q61, w28, w29, w30, w31, w32, w33, w34, w35, w36, w37, w38]))] H := hP
  have hD : va_D A [(q45, .inl (g.2 0, 8, .inl f43)), (q42, .inl (g.2 0, 8, .inl f43)), (q39, .inl (g.2 0, 497, .inl f40)), (q61, .inl (g.2 0, 8, .inl (upd (upd (upd (upd (upd (upd (upd (upd f43 0 (-1)) 1 (-1)) 2 (-1)) 3 (-1)) 4 (-1)) 5 (-1)) 6 (-1)) 7 (-1)))), (q1, .inr (12, [.ref q39, w3, w4, w5, w6, w7, w8, .ref q42, .ref q45, w11, w12, w13, w14, w15, .int 0, w17, w18, w19, w20, w21, w22, w23, w24, w25, w26, .ref q61, w28, w29, w30, w31, w32, w33, w34, w35, w36, w37, w38]))] := hD
  exact x_vret hx hb hr hlocks hP hD hS hAe hsz (Nat.le_of_ble_eq_true rfl) (Nat.le_of_ble_eq_true rfl) (fun _ => 0) [0, 1, 2, 3, 4] (by decide) rfl dX10_layNotes_160

set_option maxHeartbeats 4000000 in
set_option maxRecDepth 100000 in
theorem c174_X10_polyphony (l : Launch) (g : gG) (q1 q39 q42 q45 q61 : Nat) (w3 w4 w5 w6 w7 w8 w11 w12 w13 w14 w15 w16 w17 w18 w19 w20 w21 w22 w23 w24 w25 w26 w28 w29 w30 w31 w32 w33 w34 w35 w36 w37 w38 : Value) (f40 : Nat → Int32) (f43 : Nat → Int32) (hf41 : f40 0 = 0) (hf44 : f43 0 = 0) (hf46 : f40 49 = 0) (hf47 : f43 1 = 0) (hf48 : f40 98 = 0) (hf49 : f43 2 = 0) (hf50 : f40 147 = 0) (hf51 : f43 3 = 0) (hf52 : f40 196 = 0) (hf53 : f43 4 = 0) (hf54 : f40 245 = 0) (hf55 : f43 5 = 0) (hf56 : f40 294 = 0) (hf57 : f43 6 = 0) (hf58 : f40 343 = 0) (hf59 : f43 7 = 0) (hf60 : f40 392 = 0) (sz : Nat) : Met l yX10_polyphony [Cond.code yX10_polyphony cX10_polyphony 5 (some .int)] ({ frames := 4, cells := 0, slots := 0, locals := 89 } : Room) (va_Pc [.ref q1] (PX g sz [(q61, .inl (g.2 0, 8, .inl f43)), (q45, .inl (g.2 0, 8, .inl f43)), (q42, .inl (g.2 0, 8, .inl f43)), (q39, .inl (g.2 0, 497, .inl f40)), (q1, .inr (12, [.ref q39, w3, w4, w5, w6, w7, w8, .ref q42, .ref q45, w11, w12, w13, w14, w15, w16, w17, w18, w19, w20, w21, w22, w23, w24, w25, w26, .ref q61, w28, w29, w30, w31, w32, w33, w34, w35, w36, w37, w38]))])) (QI g [(q61, .inl (g.2 0, 8, .inl f43)), (q45, .inl (g.2 0, 8, .inl f43)), (q42, .inl (g.2 0, 8, .inl f43)), (q39, .inl (g.2 0, 497, .inl f40)), (q1, .inr (12, [.ref q39, w3, w4, w5, w6, w7, w8, .ref q42, .ref q45, w11, w12, w13, w14, w15, w16, w17, w18, w19, w20, w21, w22, w23, w24, w25, w26, .ref q61, w28, w29, w30, w31, w32, w33, w34, w35, w36, w37, w38]))] sz 0 (fun _ => [(q1, .inr (12, [.ref q39, w3, w4, w5, w6, w7, .int 0, .ref q42, .ref q45, w11, w12, w13, w14, w15, .int 0, w17, w18, w19, w20, w21, w22, w23, w24, w25, w26, .ref q61, w28, w29, w30, w31, w32, w33, w34, w35, w36, w37, w38]))])) 0 0 (va_A [(q61, .inl (g.2 0, 8, .inl f43)), (q45, .inl (g.2 0, 8, .inl f43)), (q42, .inl (g.2 0, 8, .inl f43)), (q39, .inl (g.2 0, 497, .inl f40)), (q1, .inr (12, [.ref q39, w3, w4, w5, w6, w7, w8, .ref q42, .ref q45, w11, w12, w13, w14, w15, w16, w17, w18, w19, w20, w21, w22, w23, w24, w25, w26, .ref q61, w28, w29, w30, w31, w32, w33, w34, w35, w36, w37, w38]))] sz) := by
  refine ofN (by decide) (Nat.le_of_ble_eq_true rfl) rfl ?_
  intro p e s m args below meth c A ls hAe hsz hx hb hml hr hlocks hin hown hE hP hD hA hS hl
  have hown : s.vm.findClass RX10 = some m.cls := hown
  refine lv_aload_n hx hb dX10_polyphony_0 rfl (lv_at hl 0 rfl) ?_
  refine lv_iconst (v := 0) hx hb dX10_polyphony_1 (by decide) ?_
  refine pf_RX10_86 (ws' := [(q61, .inl (g.2 0, 8, .inl f43)), (q45, .inl (g.2 0, 8, .inl f43)), (q42, .inl (g.2 0, 8, .inl f43)), (q39, .inl (g.2 0, 497, .inl f40)), (q1, .inr (12, [.ref q39, w3, w4, w5, w6, w7, .int 0, .ref q42, .ref q45, w11, w12, w13, w14, w15, w16, w17, w18, w19, w20, w21, w22, w23, w24, w25, w26, .ref q61, w28, w29, w30, w31, w32, w33, w34, w35, w36, w37, w38]))]) hx hb hown hE hP hD hS 4 rfl rfl rfl (Nat.le_of_ble_eq_true rfl) dX10_polyphony_2 rfl (fun H locs hP hD hS => ?_)
  refine lv_aload_n hx hb dX10_polyphony_5 rfl (lv_at hl 0 rfl) ?_
  refine g_v (wr := []) (rV (rest := []) hx hb hml hown hE hP hD 4 rfl rfl (c173_X10_layNotes l g q1 q39 q42 q45 q61 w3 w4 w5 w6 w7 (.int 0) w11 w12 w13 w14 w15 w16 w17 w18 w19 w20 w21 w22 w23 w24 w25 w26 w28 w29 w30 w31 w32 w33 w34 w35 w36 w37 w38 f40 f43 (hf41) (hf44) (hf46) (hf47) (hf48) (hf49) (hf50) (hf51) (hf52) (hf53) (hf54) (hf55) (hf56) (hf57) (hf58) (hf59) (hf60) H.size) (kV_X10_layNotes hE (e1543 hE) rfl rfl ⟨(Nat.le_of_ble_eq_true rfl), (Nat.le_of_ble_eq_true rfl)⟩) [0, 1, 2, 3, 4] rfl (by decide) rfl hl.1 rfl (lv_room (Nat.le_of_ble_eq_true rfl)) dX10_polyphony_6 ⟨(Nat.le_of_ble_eq_true rfl), (Nat.le_of_ble_eq_true rfl)⟩) hP hD hS hA [0, 1, 2, 3, 4] [] rfl rfl (by decide) (by decide) (fun u1 H locs hP hD hS => ?_)
  have hP : va_P g.1 vwCl [(q45, .inl (g.2 0, 8, .inl f43)), (q42, .inl (g.2 0, 8, .inl f43)), (q39, .inl (g.2 0, 497, .inl f40)), (q61, .inl (g.2 0, 8, .inl (upd (upd (upd (upd (upd (upd (upd (upd f43 0 (-1)) 1 (-1)) 2 (-1)) 3 (-1)) 4 (-1)) 5 (-1)) 6 (-1)) 7 (-1)))), (q1, .inr (12, [.ref q39, w3, w4, w5, w6, w7, .int 0, .ref q42, .ref q45, w11, w12, w13, w14, w15, .int 0, w17, w18, w19, w20, w21, w22, w23, w24, w25, w26, .ref q61, w28, w29, w30, w31, w32, w33, w34, w35, w36, w37, w38]))] H := hP
  have hD : va_D A [(q45, .inl (g.2 0, 8, .inl f43)), (q42, .inl (g.2 0, 8, .inl f43)), (q39, .inl (g.2 0, 497, .inl f40)), (q61, .inl (g.2 0, 8, .inl (upd (upd (upd (upd (upd (upd (upd (upd f43 0 (-1)) 1 (-1)) 2 (-1)) 3 (-1)) 4 (-1)) 5 (-1)) 6 (-1)) 7 (-1)))), (q1, .inr (12, [.ref q39, w3, w4, w5, w6, w7, .int 0, .ref q42, .ref q45, w11, w12, w13, w14, w15, .int 0, w17, w18, w19, w20, w21, w22, w23, w24, w25, w26, .ref q61, w28, w29, w30, w31, w32, w33, w34, w35, w36, w37, w38]))] := hD
  refine lv_iconst (v := 0) hx hb dX10_polyphony_9 (by decide) ?_
  refine lv_istore_n (lv' := [(1, .int 0), (0, .ref q1)]) hx hb dX10_polyphony_10 rfl hl (by decide) rfl (fun ls hl => ?_)
  refine lv_iconst (v := 0) hx hb dX10_polyphony_11 (by decide) ?_
  refine lv_istore_n (lv' := [(2, .int 0), (1, .int 0), (0, .ref q1)]) hx hb dX10_polyphony_12 rfl hl (by decide) rfl (fun ls hl => ?_)
  refine lv_iload_n hx hb dX10_polyphony_13 rfl (lv_at hl 0 rfl) ?_
  refine lv_aload_n hx hb dX10_polyphony_14 rfl (lv_at hl 2 rfl) ?_
  refine gf_RX10_176 hx hb hown hE hP 4 rfl rfl dX10_polyphony_15 ?_
  refine lv_icmp_ge (tgt := 76) hx hb dX10_polyphony_18 (by decide) (fun _ => ?_) (fun h => absurd (by decide) h)
  refine lv_iload_n hx hb dX10_polyphony_76 rfl (lv_at hl 1 rfl) ?_
  exact x_zret hx hb hr rfl rfl hlocks hP hD hS hAe hsz (Nat.le_of_ble_eq_true rfl) (Nat.le_of_ble_eq_true rfl) (fun _ => 0) [4] (by decide) rfl dX10_polyphony_77

set_option maxHeartbeats 4000000 in
set_option maxRecDepth 100000 in
theorem c175_X9_lostShare (l : Launch) (g : gG) (hlx : l.stackTraces = false) (q1 q13 q14 q18 q21 q32 q33 q34 q35 q45 : Nat) (w3 w5 w6 w7 w8 w9 w11 w12 w17 w22 w24 w28 w29 w30 w31 w36 w37 w38 w39 w41 w42 : Value) (f19 : Nat → Option Nat) (f43 : Nat → Int64) (f46 : Nat → Int32) (hf20 : f19 0 = some q21) (sz : Nat) : vx_Met l yX9_lostShare [Cond.code yX9_lostShare cX9_lostShare 3 (some .double)] ({ frames := 6, cells := 1, slots := 6, locals := 100 } : Room) (va_Pc [.ref q1] (PZ g sz [(q32, .inl (g.2 0, 300, .inl f46)), (q33, .inl (g.2 0, 8, .inl f46)), (q45, .inl (g.2 1, 300, .inr (.inl f43))), (q35, .inr (3, [.ref q45])), (q34, .inl (g.2 1, 300, .inr (.inl f43))), (q21, .inr (8, [w36, w37, w38, w39, .int 0, w41, w42])), (q14, .inr (7, [w22, .ref q32, w24, .ref q33, .ref q34, .ref q35, w28, w29, w30, w31])), (q18, .inl (g.2 3, 10, .inr (.inr (.inr (.inr f19))))), (q13, .inr (10, [.ref q18, .int 0, w17])), (q1, .inr (11, [.ref q13, w3, .ref q14, w5, w6, w7, w8, w9, .int 0, w11, w12]))])) ND (XW g [(q32, .inl (g.2 0, 300, .inl f46)), (q33, .inl (g.2 0, 8, .inl f46)), (q45, .inl (g.2 1, 300, .inr (.inl f43))), (q35, .inr (3, [.ref q45])), (q34, .inl (g.2 1, 300, .inr (.inl f43))), (q21, .inr (8, [w36, w37, w38, w39, .int 0, w41, w42])), (q14, .inr (7, [w22, .ref q32, w24, .ref q33, .ref q34, .ref q35, w28, w29, w30, w31])), (q18, .inl (g.2 3, 10, .inr (.inr (.inr (.inr f19))))), (q13, .inr (10, [.ref q18, .int 0, w17])), (q1, .inr (11, [.ref q13, w3, .ref q14, w5, w6, w7, w8, w9, .int 0, w11, w12]))] sz "java/lang/ArithmeticException" [(q1, .inr (11, [.ref q13, w3, .ref q14, w5, w6, w7, w8, w9, .int 1, w11, w12])), (q18, .inl (g.2 3, 10, .inr (.inr (.inr (.inr f19))))), (q13, .inr (10, [.ref q18, .int 0, w17])), (q21, .inr (8, [w36, w37, w38, w39, .int 0, w41, w42])), (q33, .inl (g.2 0, 8, .inl (fillF 8 (-1) f46))), (q32, .inl (g.2 0, 300, .inl (fillF 300 (-1) f46))), (q45, .inl (g.2 1, 300, .inr (.inl f43))), (q35, .inr (3, [.ref q45])), (q34, .inl (g.2 1, 300, .inr (.inl f43))), (q14, .inr (7, [w22, .ref q32, w24, .ref q33, .ref q34, .ref q35, .int 0, .int 0, .int 0, .int 0]))]) 1 6 (va_A [(q32, .inl (g.2 0, 300, .inl f46)), (q33, .inl (g.2 0, 8, .inl f46)), (q45, .inl (g.2 1, 300, .inr (.inl f43))), (q35, .inr (3, [.ref q45])), (q34, .inl (g.2 1, 300, .inr (.inl f43))), (q21, .inr (8, [w36, w37, w38, w39, .int 0, w41, w42])), (q14, .inr (7, [w22, .ref q32, w24, .ref q33, .ref q34, .ref q35, w28, w29, w30, w31])), (q18, .inl (g.2 3, 10, .inr (.inr (.inr (.inr f19))))), (q13, .inr (10, [.ref q18, .int 0, w17])), (q1, .inr (11, [.ref q13, w3, .ref q14, w5, w6, w7, w8, w9, .int 0, w11, w12]))] sz) := by
  refine ofX (by decide) (Nat.le_of_ble_eq_true rfl) rfl ?_
  intro p e s m args below meth c A ls hAe hsz hx hb hml hr hlocks hin hown hE hP hD hA hS hl hex hz
  have hown : s.vm.findClass RX9 = some m.cls := hown
  refine lv_aload_n hx hb dX9_lostShare_0 rfl (lv_at hl 0 rfl) ?_
  refine g_r (wr := []) (rV (rest := []) hx hb hml hown hE hP hD 9 rfl rfl (c148_X9_upToDateScore l g q1 q13 q18 q21 q14 q35 q34 q45 q33 q32 w3 w5 w6 w7 w8 w9 w11 w12 w17 w22 w24 w28 w29 w30 w31 w36 w37 w38 w39 w41 w42 f19 f43 f46 (hf20) s.heap.size) (kV_X9_upToDateScore hE (e318 hE) rfl rfl ⟨(Nat.le_of_ble_eq_true rfl), (Nat.le_of_ble_eq_true rfl)⟩) [0, 1, 2, 3, 4, 5, 6, 7, 8, 9] rfl (by decide) rfl hl.1 rfl (lv_room (Nat.le_of_ble_eq_true rfl)) dX9_lostShare_1 ⟨(Nat.le_of_ble_eq_true rfl), (Nat.le_of_ble_eq_true rfl)⟩) hP hD hS hA [0, 1, 2, 3, 4, 5, 6, 7, 8, 9] [] rfl rfl (by decide) (by decide) (fun u1 H locs hP hD hS => ?_)
  have hP : va_P g.1 vwCl [(q1, .inr (11, [.ref q13, w3, .ref q14, w5, w6, w7, w8, w9, .int 1, w11, w12])), (q18, .inl (g.2 3, 10, .inr (.inr (.inr (.inr f19))))), (q13, .inr (10, [.ref q18, .int 0, w17])), (q21, .inr (8, [w36, w37, w38, w39, .int 0, w41, w42])), (q14, .inr (7, [w22, .ref q32, w24, .ref q33, .ref q34, .ref q35, .int 0, .int 0, .int 0, .int 0])), (q33, .inl (g.2 0, 8, .inl (fillF 8 (-1) f46))), (q32, .inl (g.2 0, 300, .inl (fillF 300 (-1) f46))), (q45, .inl (g.2 1, 300, .inr (.inl f43))), (q35, .inr (3, [.ref q45])), (q34, .inl (g.2 1, 300, .inr (.inl f43)))] H := hP
  have hD : va_D A [(q1, .inr (11, [.ref q13, w3, .ref q14, w5, w6, w7, w8, w9, .int 1, w11, w12])), (q18, .inl (g.2 3, 10, .inr (.inr (.inr (.inr f19))))), (q13, .inr (10, [.ref q18, .int 0, w17])), (q21, .inr (8, [w36, w37, w38, w39, .int 0, w41, w42])), (q14, .inr (7, [w22, .ref q32, w24, .ref q33, .ref q34, .ref q35, .int 0, .int 0, .int 0, .int 0])), (q33, .inl (g.2 0, 8, .inl (fillF 8 (-1) f46))), (q32, .inl (g.2 0, 300, .inl (fillF 300 (-1) f46))), (q45, .inl (g.2 1, 300, .inr (.inl f43))), (q35, .inr (3, [.ref q45])), (q34, .inl (g.2 1, 300, .inr (.inl f43)))] := hD
  refine lv_astore_n (lv' := [(1, .ref q14), (0, .ref q1)]) hx hb dX9_lostShare_4 rfl hl (by decide) rfl (fun ls hl => ?_)
  refine lv_aload_n hx hb dX9_lostShare_5 rfl (lv_at hl 0 rfl) ?_
  refine g_i (wr := [(q1, .inr (11, [.ref q13, w3, .ref q14, w5, w6, w7, w8, w9, .int 1, w11, w12])), (q18, .inl (g.2 3, 10, .inr (.inr (.inr (.inr f19))))), (q13, .inr (10, [.ref q18, .int 0, w17])), (q21, .inr (8, [w36, w37, w38, w39, .int 0, w41, w42])), (q33, .inl (g.2 0, 8, .inl (fillF 8 (-1) f46))), (q32, .inl (g.2 0, 300, .inl (fillF 300 (-1) f46))), (q45, .inl (g.2 1, 300, .inr (.inl f43))), (q35, .inr (3, [.ref q45])), (q34, .inl (g.2 1, 300, .inr (.inl f43)))]) (rV (rest := []) hx hb hml hown hE hP hD 4 rfl rfl (c149_X5_noteCount l g q14 w22 (.ref q32) w24 (.ref q33) (.ref q34) (.ref q35) (.int 0) (.int 0) (.int 0) H.size) (kV_X5_noteCount hE (e856 hE) rfl rfl ⟨(Nat.le_of_ble_eq_true rfl), (Nat.le_of_ble_eq_true rfl)⟩) [4] rfl (by decide) rfl hl.1 rfl (lv_room (Nat.le_of_ble_eq_true rfl)) dX9_lostShare_6 ⟨(Nat.le_of_ble_eq_true rfl), (Nat.le_of_ble_eq_true rfl)⟩) hP hD hS hA [4] [0, 1, 2, 3, 5, 6, 7, 8, 9] rfl rfl (by decide) (by decide) (fun u2 H locs hP hD hS => ?_)
  have hP : va_P g.1 vwCl [(q1, .inr (11, [.ref q13, w3, .ref q14, w5, w6, w7, w8, w9, .int 1, w11, w12])), (q18, .inl (g.2 3, 10, .inr (.inr (.inr (.inr f19))))), (q13, .inr (10, [.ref q18, .int 0, w17])), (q21, .inr (8, [w36, w37, w38, w39, .int 0, w41, w42])), (q33, .inl (g.2 0, 8, .inl (fillF 8 (-1) f46))), (q32, .inl (g.2 0, 300, .inl (fillF 300 (-1) f46))), (q45, .inl (g.2 1, 300, .inr (.inl f43))), (q35, .inr (3, [.ref q45])), (q34, .inl (g.2 1, 300, .inr (.inl f43))), (q14, .inr (7, [w22, .ref q32, w24, .ref q33, .ref q34, .ref q35, .int 0, .int 0, .int 0, .int 0]))] H := hP
  have hD : va_D A [(q1, .inr (11, [.ref q13, w3, .ref q14, w5, w6, w7, w8, w9, .int 1, w11, w12])), (q18, .inl (g.2 3, 10, .inr (.inr (.inr (.inr f19))))), (q13, .inr (10, [.ref q18, .int 0, w17])), (q21, .inr (8, [w36, w37, w38, w39, .int 0, w41, w42])), (q33, .inl (g.2 0, 8, .inl (fillF 8 (-1) f46))), (q32, .inl (g.2 0, 300, .inl (fillF 300 (-1) f46))), (q45, .inl (g.2 1, 300, .inr (.inl f43))), (q35, .inr (3, [.ref q45])), (q34, .inl (g.2 1, 300, .inr (.inl f43))), (q14, .inr (7, [w22, .ref q32, w24, .ref q33, .ref q34, .ref q35, .int 0, .int 0, .int 0, .int 0]))] := hD
  refine lv_istore_n (lv' := [(2, .int 0), (1, .ref q14), (0, .ref q1)]) hx hb dX9_lostShare_9 rfl hl (by decide) rfl (fun ls hl => ?_)
  refine lv_iload_n hx hb dX9_lostShare_10 rfl (lv_at hl 0 rfl) ?_
  refine lv_if_gt (tgt := 25) hx hb dX9_lostShare_11 (by decide) (fun h => absurd h (by decide)) (fun _ => ?_)
  exact x_throwW (text := "there are no notes") (names := ["java/lang/RuntimeException", "java/lang/Exception"]) hx hb hlx hown hE (by decide) (by decide) (e1115 hE) (e24 hE) (by decide +kernel) (th_316 hE) tg_316_312 hz (by rw [hml]; exact hl.1) dX9_lostShare_14 dX9_lostShare_17 dX9_lostShare_18 dX9_lostShare_21 dX9_lostShare_24 hex (Nat.le_of_ble_eq_true rfl) (Nat.le_of_ble_eq_true rfl) (Nat.le_of_ble_eq_true rfl) (Nat.le_of_ble_eq_true rfl) hlocks hP hD hS hAe hsz (Nat.le_of_ble_eq_true rfl) (Nat.le_of_ble_eq_true rfl) [0, 1, 2, 3, 4, 5, 6, 7, 8, 9] (by decide) rfl

set_option maxHeartbeats 4000000 in
set_option maxRecDepth 100000 in
theorem c176_L_lostShare (l : Launch) (g : gG) (hlx : l.stackTraces = false) (q1 q2 q14 q15 q19 q22 q33 q34 q35 q36 q46 : Nat) (w4 w6 w7 w8 w9 w10 w12 w13 w18 w23 w25 w29 w30 w31 w32 w37 w38 w39 w40 w42 w43 : Value) (f20 : Nat → Option Nat) (f44 : Nat → Int64) (f47 : Nat → Int32) (hf21 : f20 0 = some q22) (sz : Nat) : Met l yL_lostShare [Cond.codeWith yL_lostShare cL_lostShare 3 (some .int) [(0, 7, 10, 124)]] ({ frames := 7, cells := 1, slots := 6, locals := 122 } : Room) (va_Pc [.ref q1, .ref q2] (PZ g sz [(q33, .inl (g.2 0, 300, .inl f47)), (q34, .inl (g.2 0, 8, .inl f47)), (q46, .inl (g.2 1, 300, .inr (.inl f44))), (q36, .inr (3, [.ref q46])), (q35, .inl (g.2 1, 300, .inr (.inl f44))), (q22, .inr (8, [w37, w38, w39, w40, .int 0, w42, w43])), (q15, .inr (7, [w23, .ref q33, w25, .ref q34, .ref q35, .ref q36, w29, w30, w31, w32])), (q19, .inl (g.2 3, 10, .inr (.inr (.inr (.inr f20))))), (q14, .inr (10, [.ref q19, .int 0, w18])), (q1, .inr (11, [.ref q14, w4, .ref q15, w6, w7, w8, w9, w10, .int 0, w12, w13]))])) (QI g [(q33, .inl (g.2 0, 300, .inl f47)), (q34, .inl (g.2 0, 8, .inl f47)), (q46, .inl (g.2 1, 300, .inr (.inl f44))), (q36, .inr (3, [.ref q46])), (q35, .inl (g.2 1, 300, .inr (.inl f44))), (q22, .inr (8, [w37, w38, w39, w40, .int 0, w42, w43])), (q15, .inr (7, [w23, .ref q33, w25, .ref q34, .ref q35, .ref q36, w29, w30, w31, w32])), (q19, .inl (g.2 3, 10, .inr (.inr (.inr (.inr f20))))), (q14, .inr (10, [.ref q19, .int 0, w18])), (q1, .inr (11, [.ref q14, w4, .ref q15, w6, w7, w8, w9, w10, .int 0, w12, w13]))] sz 1 (fun _ => [])) 1 6 (va_A [(q33, .inl (g.2 0, 300, .inl f47)), (q34, .inl (g.2 0, 8, .inl f47)), (q46, .inl (g.2 1, 300, .inr (.inl f44))), (q36, .inr (3, [.ref q46])), (q35, .inl (g.2 1, 300, .inr (.inl f44))), (q22, .inr (8, [w37, w38, w39, w40, .int 0, w42, w43])), (q15, .inr (7, [w23, .ref q33, w25, .ref q34, .ref q35, .ref q36, w29, w30, w31, w32])), (q19, .inl (g.2 3, 10, .inr (.inr (.inr (.inr f20))))), (q14, .inr (10, [.ref q19, .int 0, w18])), (q1, .inr (11, [.ref q14, w4, .ref q15, w6, w7, w8, w9, w10, .int 0, w12, w13]))] sz) := by
  refine ofH (by decide) (Nat.le_of_ble_eq_true rfl) rfl ?_
  intro p e s m args below meth c A ls hAe hsz hx hb hml hr hlocks hin hown hE hP hD hA hS hl htb hz
  have hown : s.vm.findClass RL = some m.cls := hown
  refine lv_aload_n hx hb dL_lostShare_0 rfl (lv_at hl 1 rfl) ?_
  refine lv_iconst (v := 0) hx hb dL_lostShare_1 (by decide) ?_
  refine lv_aload_n hx hb dL_lostShare_2 rfl (lv_at hl 0 rfl) ?_
  refine gx_d (wr := []) (rVx (rest := [.int 0, .ref q2]) hx hb hml hown hE hP hD hS hA hz 9 rfl rfl (c175_X9_lostShare l g hlx q1 q14 q15 q19 q22 q33 q34 q35 q36 q46 w4 w6 w7 w8 w9 w10 w12 w13 w18 w23 w25 w29 w30 w31 w32 w37 w38 w39 w40 w42 w43 f20 f44 f47 (hf21) s.heap.size) (kV_X9_lostShare hE (e1111 hE) rfl rfl ⟨(Nat.le_of_ble_eq_true rfl), (Nat.le_of_ble_eq_true rfl)⟩) [0, 1, 2, 3, 4, 5, 6, 7, 8, 9] rfl (by decide) rfl hl.1 rfl (lv_room (Nat.le_of_ble_eq_true rfl)) dL_lostShare_3 ⟨(Nat.le_of_ble_eq_true rfl), (Nat.le_of_ble_eq_true rfl)⟩) hP hD hS hA [0, 1, 2, 3, 4, 5, 6, 7, 8, 9] [] rfl rfl (by decide) (by decide) (fun ce9 q9 H locs hP hD hS hq1 hq2 hq3 => ?_)
  have hP : va_P g.1 vwCl [(q1, .inr (11, [.ref q14, w4, .ref q15, w6, w7, w8, w9, w10, .int 1, w12, w13])), (q19, .inl (g.2 3, 10, .inr (.inr (.inr (.inr f20))))), (q14, .inr (10, [.ref q19, .int 0, w18])), (q22, .inr (8, [w37, w38, w39, w40, .int 0, w42, w43])), (q34, .inl (g.2 0, 8, .inl (fillF 8 (-1) f47))), (q33, .inl (g.2 0, 300, .inl (fillF 300 (-1) f47))), (q46, .inl (g.2 1, 300, .inr (.inl f44))), (q36, .inr (3, [.ref q46])), (q35, .inl (g.2 1, 300, .inr (.inl f44))), (q15, .inr (7, [w23, .ref q33, w25, .ref q34, .ref q35, .ref q36, .int 0, .int 0, .int 0, .int 0]))] H := hP
  have hD : va_D A [(q1, .inr (11, [.ref q14, w4, .ref q15, w6, w7, w8, w9, w10, .int 1, w12, w13])), (q19, .inl (g.2 3, 10, .inr (.inr (.inr (.inr f20))))), (q14, .inr (10, [.ref q19, .int 0, w18])), (q22, .inr (8, [w37, w38, w39, w40, .int 0, w42, w43])), (q34, .inl (g.2 0, 8, .inl (fillF 8 (-1) f47))), (q33, .inl (g.2 0, 300, .inl (fillF 300 (-1) f47))), (q46, .inl (g.2 1, 300, .inr (.inl f44))), (q36, .inr (3, [.ref q46])), (q35, .inl (g.2 1, 300, .inr (.inl f44))), (q15, .inr (7, [w23, .ref q33, w25, .ref q34, .ref q35, .ref q36, .int 0, .int 0, .int 0, .int 0]))] := hD
  refine x_catch (name := "java/lang/ArithmeticException") (hh := [(0, 7, 10, 124)]) (tgt := 10) hown htb [] ⟨0, 7, 10, 124⟩ [] rfl (fun _ h => nomatch h) rfl (by decide) (e1097 hE) (e1109 hE) hq1 hq2 hq3 rfl ?_
  refine lv_astore_n (lv' := [(2, .ref q9), (0, .ref q1), (1, .ref q2)]) hx hb dL_lostShare_10 rfl hl (by decide) rfl (fun ls hl => ?_)
  refine lv_iconst (v := 1) hx hb dL_lostShare_11 (by decide) ?_
  exact x_zret hx hb hr rfl rfl hlocks hP hD hS hAe hsz (Nat.le_of_ble_eq_true rfl) (Nat.le_of_ble_eq_true rfl) (fun _ => 0) [] (by decide) rfl dL_lostShare_12

set_option maxHeartbeats 4000000 in
set_option maxRecDepth 100000 in
theorem c177_X10_lostShare (l : Launch) (g : gG) (q1 q39 q40 q41 q42 : Nat) (w3 w4 w5 w6 w7 w8 w11 w12 w13 w14 w15 w16 w17 w18 w19 w20 w21 w22 w23 w24 w25 w26 w28 w29 w30 w31 w32 w33 w34 w35 w36 w37 w38 : Value) (f43 : Nat → Int32) (f53 : Nat → Int32) (hf44 : f43 0 = 0) (hf45 : f43 49 = 0) (hf46 : f43 98 = 0) (hf47 : f43 147 = 0) (hf48 : f43 196 = 0) (hf49 : f43 245 = 0) (hf50 : f43 294 = 0) (hf51 : f43 343 = 0) (hf52 : f43 392 = 0) (hf54 : f53 0 = 0) (hf55 : f53 1 = 0) (hf56 : f53 2 = 0) (hf57 : f53 3 = 0) (hf58 : f53 4 = 0) (hf59 : f53 5 = 0) (hf60 : f53 6 = 0) (hf61 : f53 7 = 0) (sz : Nat) : Met l yX10_lostShare [Cond.code yX10_lostShare cX10_lostShare 3 (some .double)] ({ frames := 4, cells := 0, slots := 0, locals := 89 } : Room) (va_Pc [.ref q1] (PX g sz [(q42, .inl (g.2 0, 8, .inl f53)), (q41, .inl (g.2 0, 8, .inl f53)), (q40, .inl (g.2 0, 8, .inl f53)), (q39, .inl (g.2 0, 497, .inl f43)), (q1, .inr (12, [.ref q39, w3, w4, w5, w6, w7, w8, .ref q40, .ref q41, w11, w12, w13, w14, w15, w16, w17, w18, w19, w20, w21, w22, w23, w24, w25, w26, .ref q42, w28, w29, w30, w31, w32, w33, w34, w35, w36, w37, w38]))])) (QD g [(q42, .inl (g.2 0, 8, .inl f53)), (q41, .inl (g.2 0, 8, .inl f53)), (q40, .inl (g.2 0, 8, .inl f53)), (q39, .inl (g.2 0, 497, .inl f43)), (q1, .inr (12, [.ref q39, w3, w4, w5, w6, w7, w8, .ref q40, .ref q41, w11, w12, w13, w14, w15, w16, w17, w18, w19, w20, w21, w22, w23, w24, w25, w26, .ref q42, w28, w29, w30, w31, w32, w33, w34, w35, w36, w37, w38]))] sz (FP.dconst0) (fun _ => [(q1, .inr (12, [.ref q39, w3, w4, w5, w6, w7, .int 1, .ref q40, .ref q41, w11, w12, w13, w14, w15, .int 0, w17, w18, w19, w20, w21, w22, w23, w24, w25, w26, .ref q42, w28, w29, w30, w31, w32, w33, w34, w35, w36, w37, w38]))])) 0 0 (va_A [(q42, .inl (g.2 0, 8, .inl f53)), (q41, .inl (g.2 0, 8, .inl f53)), (q40, .inl (g.2 0, 8, .inl f53)), (q39, .inl (g.2 0, 497, .inl f43)), (q1, .inr (12, [.ref q39, w3, w4, w5, w6, w7, w8, .ref q40, .ref q41, w11, w12, w13, w14, w15, w16, w17, w18, w19, w20, w21, w22, w23, w24, w25, w26, .ref q42, w28, w29, w30, w31, w32, w33, w34, w35, w36, w37, w38]))] sz) := by
  refine ofN (by decide) (Nat.le_of_ble_eq_true rfl) rfl ?_
  intro p e s m args below meth c A ls hAe hsz hx hb hml hr hlocks hin hown hE hP hD hA hS hl
  have hown : s.vm.findClass RX10 = some m.cls := hown
  refine lv_aload_n hx hb dX10_lostShare_0 rfl (lv_at hl 0 rfl) ?_
  refine g_v (wr := []) (rV (rest := []) hx hb hml hown hE hP hD 4 rfl rfl (c173_X10_layNotes l g q1 q39 q40 q41 q42 w3 w4 w5 w6 w7 w8 w11 w12 w13 w14 w15 w16 w17 w18 w19 w20 w21 w22 w23 w24 w25 w26 w28 w29 w30 w31 w32 w33 w34 w35 w36 w37 w38 f43 f53 (hf44) (hf54) (hf45) (hf55) (hf46) (hf56) (hf47) (hf57) (hf48) (hf58) (hf49) (hf59) (hf50) (hf60) (hf51) (hf61) (hf52) s.heap.size) (kV_X10_layNotes hE (e1543 hE) rfl rfl ⟨(Nat.le_of_ble_eq_true rfl), (Nat.le_of_ble_eq_true rfl)⟩) [0, 1, 2, 3, 4] rfl (by decide) rfl hl.1 rfl (lv_room (Nat.le_of_ble_eq_true rfl)) dX10_lostShare_1 ⟨(Nat.le_of_ble_eq_true rfl), (Nat.le_of_ble_eq_true rfl)⟩) hP hD hS hA [0, 1, 2, 3, 4] [] rfl rfl (by decide) (by decide) (fun u1 H locs hP hD hS => ?_)
  have hP : va_P g.1 vwCl [(q41, .inl (g.2 0, 8, .inl f53)), (q40, .inl (g.2 0, 8, .inl f53)), (q39, .inl (g.2 0, 497, .inl f43)), (q42, .inl (g.2 0, 8, .inl (upd (upd (upd (upd (upd (upd (upd (upd f53 0 (-1)) 1 (-1)) 2 (-1)) 3 (-1)) 4 (-1)) 5 (-1)) 6 (-1)) 7 (-1)))), (q1, .inr (12, [.ref q39, w3, w4, w5, w6, w7, w8, .ref q40, .ref q41, w11, w12, w13, w14, w15, .int 0, w17, w18, w19, w20, w21, w22, w23, w24, w25, w26, .ref q42, w28, w29, w30, w31, w32, w33, w34, w35, w36, w37, w38]))] H := hP
  have hD : va_D A [(q41, .inl (g.2 0, 8, .inl f53)), (q40, .inl (g.2 0, 8, .inl f53)), (q39, .inl (g.2 0, 497, .inl f43)), (q42, .inl (g.2 0, 8, .inl (upd (upd (upd (upd (upd (upd (upd (upd f53 0 (-1)) 1 (-1)) 2 (-1)) 3 (-1)) 4 (-1)) 5 (-1)) 6 (-1)) 7 (-1)))), (q1, .inr (12, [.ref q39, w3, w4, w5, w6, w7, w8, .ref q40, .ref q41, w11, w12, w13, w14, w15, .int 0, w17, w18, w19, w20, w21, w22, w23, w24, w25, w26, .ref q42, w28, w29, w30, w31, w32, w33, w34, w35, w36, w37, w38]))] := hD
  refine lv_aload_n hx hb dX10_lostShare_4 rfl (lv_at hl 0 rfl) ?_
  refine lv_aload_n hx hb dX10_lostShare_5 rfl (lv_at hl 0 rfl) ?_
  refine gf_RX10_176 hx hb hown hE hP 4 rfl rfl dX10_lostShare_6 ?_
  refine lv_if_ne (tgt := 16) hx hb dX10_lostShare_9 (by decide) (fun h => absurd h (by decide)) (fun _ => ?_)
  refine lv_iconst (v := 1) hx hb dX10_lostShare_12 (by decide) ?_
  refine lv_goto (tgt := 17) hx hb dX10_lostShare_13 (by decide) ?_
  refine pf_RX10_86 (ws' := [(q41, .inl (g.2 0, 8, .inl f53)), (q40, .inl (g.2 0, 8, .inl f53)), (q39, .inl (g.2 0, 497, .inl f43)), (q42, .inl (g.2 0, 8, .inl (upd (upd (upd (upd (upd (upd (upd (upd f53 0 (-1)) 1 (-1)) 2 (-1)) 3 (-1)) 4 (-1)) 5 (-1)) 6 (-1)) 7 (-1)))), (q1, .inr (12, [.ref q39, w3, w4, w5, w6, w7, .int 1, .ref q40, .ref q41, w11, w12, w13, w14, w15, .int 0, w17, w18, w19, w20, w21, w22, w23, w24, w25, w26, .ref q42, w28, w29, w30, w31, w32, w33, w34, w35, w36, w37, w38]))]) hx hb hown hE hP hD hS 4 rfl rfl rfl (Nat.le_of_ble_eq_true rfl) dX10_lostShare_17 rfl (fun H locs hP hD hS => ?_)
  refine lv_iconst (v := 0) hx hb dX10_lostShare_20 (by decide) ?_
  refine lv_istore_n (lv' := [(1, .int 0), (0, .ref q1)]) hx hb dX10_lostShare_21 rfl hl (by decide) rfl (fun ls hl => ?_)
  refine lv_iconst (v := 0) hx hb dX10_lostShare_22 (by decide) ?_
  refine lv_istore_n (lv' := [(2, .int 0), (1, .int 0), (0, .ref q1)]) hx hb dX10_lostShare_23 rfl hl (by decide) rfl (fun ls hl => ?_)
  refine lv_iload_n hx hb dX10_lostShare_24 rfl (lv_at hl 0 rfl) ?_
  refine lv_aload_n hx hb dX10_lostShare_25 rfl (lv_at hl 2 rfl) ?_
  refine gf_RX10_176 hx hb hown hE hP 4 rfl rfl dX10_lostShare_26 ?_
  refine lv_icmp_ge (tgt := 64) hx hb dX10_lostShare_29 (by decide) (fun _ => ?_) (fun h => absurd (by decide) h)
  refine lv_aload_n hx hb dX10_lostShare_64 rfl (lv_at hl 2 rfl) ?_
  refine gf_RX10_86 hx hb hown hE hP 4 rfl rfl dX10_lostShare_65 ?_
  refine lv_if_le (tgt := 75) hx hb dX10_lostShare_68 (by decide) (fun h => absurd h (by decide)) (fun _ => ?_)
  refine lv_dconst0 hx hb dX10_lostShare_71 ?_
  refine lv_goto (tgt := 83) hx hb dX10_lostShare_72 (by decide) ?_
  exact x_dret hx hb hr rfl hlocks hP hD hS hAe hsz (Nat.le_of_ble_eq_true rfl) (Nat.le_of_ble_eq_true rfl) (fun _ => 0) [4] (by decide) rfl dX10_lostShare_83

set_option maxHeartbeats 4000000 in
set_option maxRecDepth 100000 in
theorem c178_X9_requireIndex (l : Launch) (g : gG) (hlx : l.stackTraces = false) (x1 : Int32) (h2 : x1 < 0) (sz : Nat) : vx_Met l yX9_requireIndex [Cond.code yX9_requireIndex cX9_requireIndex 2 none] ({ frames := 6, cells := 1, slots := 6, locals := 100 } : Room) (va_Pc [.int x1, .int 4] (PZ g sz [])) NV (XW g [] sz "java/lang/IndexOutOfBoundsException" []) 1 6 (va_A [] sz) := by
  refine ofX (by decide) (Nat.le_of_ble_eq_true rfl) rfl ?_
  intro p e s m args below meth c A ls hAe hsz hx hb hml hr hlocks hin hown hE hP hD hA hS hl hex hz
  have hown : s.vm.findClass RX9 = some m.cls := hown
  refine lv_iload_n hx hb dX9_requireIndex_0 rfl (lv_at hl 0 rfl) ?_
  refine lv_if_lt (tgt := 9) hx hb dX9_requireIndex_1 (by decide) (fun _ => ?_) (fun h => absurd h2 h)
  exact x_throwW (text := "no such number") (names := ["java/lang/RuntimeException", "java/lang/Exception"]) hx hb hlx hown hE (by decide) (by decide) (e623 hE) (e17 hE) (by decide +kernel) (th_324 hE) tg_324_320 hz (by rw [hml]; exact hl.1) dX9_requireIndex_9 dX9_requireIndex_12 dX9_requireIndex_13 dX9_requireIndex_16 dX9_requireIndex_19 hex (Nat.le_of_ble_eq_true rfl) (Nat.le_of_ble_eq_true rfl) (Nat.le_of_ble_eq_true rfl) (Nat.le_of_ble_eq_true rfl) hlocks hP hD hS hAe hsz (Nat.le_of_ble_eq_true rfl) (Nat.le_of_ble_eq_true rfl) [] (by decide) rfl

set_option maxHeartbeats 4000000 in
set_option maxRecDepth 100000 in
theorem c179_X9_requireVoice (l : Launch) (g : gG) (hlx : l.stackTraces = false) (q1 q14 q18 q21 : Nat) (x2 : Int32) (w4 w5 w6 w7 w8 w9 w10 w11 w12 w13 w17 w22 w23 w24 w25 w26 w28 : Value) (f19 : Nat → Option Nat) (hf20 : f19 0 = some q21) (h29 : x2 < 0) (sz : Nat) : vx_Met l yX9_requireVoice [Cond.code yX9_requireVoice cX9_requireVoice 2 none] ({ frames := 7, cells := 1, slots := 6, locals := 121 } : Room) (va_Pc [.ref q1, .int x2] (PZ g sz [(q21, .inr (8, [w22, w23, w24, w25, w26, .int 4, w28])), (q18, .inl (g.2 3, 10, .inr (.inr (.inr (.inr f19))))), (q14, .inr (10, [.ref q18, .int 0, w17])), (q1, .inr (11, [.ref q14, w4, w5, w6, w7, w8, w9, w10, w11, w12, w13]))])) NV (XW g [(q21, .inr (8, [w22, w23, w24, w25, w26, .int 4, w28])), (q18, .inl (g.2 3, 10, .inr (.inr (.inr (.inr f19))))), (q14, .inr (10, [.ref q18, .int 0, w17])), (q1, .inr (11, [.ref q14, w4, w5, w6, w7, w8, w9, w10, w11, w12, w13]))] sz "java/lang/IndexOutOfBoundsException" [(q21, .inr (8, [w22, w23, w24, w25, w26, .int 4, w28])), (q1, .inr (11, [.ref q14, w4, w5, w6, w7, w8, w9, w10, w11, w12, w13])), (q18, .inl (g.2 3, 10, .inr (.inr (.inr (.inr f19))))), (q14, .inr (10, [.ref q18, .int 0, w17]))]) 1 6 (va_A [(q21, .inr (8, [w22, w23, w24, w25, w26, .int 4, w28])), (q18, .inl (g.2 3, 10, .inr (.inr (.inr (.inr f19))))), (q14, .inr (10, [.ref q18, .int 0, w17])), (q1, .inr (11, [.ref q14, w4, w5, w6, w7, w8, w9, w10, w11, w12, w13]))] sz) := by
  refine ofX (by decide) (Nat.le_of_ble_eq_true rfl) rfl ?_
  intro p e s m args below meth c A ls hAe hsz hx hb hml hr hlocks hin hown hE hP hD hA hS hl hex hz
  have hown : s.vm.findClass RX9 = some m.cls := hown
  refine lv_iload_n hx hb dX9_requireVoice_0 rfl (lv_at hl 1 rfl) ?_
  refine lv_aload_n hx hb dX9_requireVoice_1 rfl (lv_at hl 0 rfl) ?_
  refine gf_RX9_12 hx hb hown hE hP 3 rfl rfl dX9_requireVoice_2 ?_
  refine g_r (wr := [(q21, .inr (8, [w22, w23, w24, w25, w26, .int 4, w28])), (q1, .inr (11, [.ref q14, w4, w5, w6, w7, w8, w9, w10, w11, w12, w13]))]) (rV (rest := [.int x2]) hx hb hml hown hE hP hD 2 rfl rfl (c79_X8_current l g q14 q18 q21 w17 f19 (hf20) s.heap.size) (kV_X8_current hE (e290 hE) rfl rfl ⟨(Nat.le_of_ble_eq_true rfl), (Nat.le_of_ble_eq_true rfl)⟩) [1, 2] rfl (by decide) rfl hl.1 rfl (lv_room (Nat.le_of_ble_eq_true rfl)) dX9_requireVoice_5 ⟨(Nat.le_of_ble_eq_true rfl), (Nat.le_of_ble_eq_true rfl)⟩) hP hD hS hA [1, 2] [0, 3] rfl rfl (by decide) (by decide) (fun u1 H locs hP hD hS => ?_)
  have hP : va_P g.1 vwCl [(q21, .inr (8, [w22, w23, w24, w25, w26, .int 4, w28])), (q1, .inr (11, [.ref q14, w4, w5, w6, w7, w8, w9, w10, w11, w12, w13])), (q18, .inl (g.2 3, 10, .inr (.inr (.inr (.inr f19))))), (q14, .inr (10, [.ref q18, .int 0, w17]))] H := hP
  have hD : va_D A [(q21, .inr (8, [w22, w23, w24, w25, w26, .int 4, w28])), (q1, .inr (11, [.ref q14, w4, w5, w6, w7, w8, w9, w10, w11, w12, w13])), (q18, .inl (g.2 3, 10, .inr (.inr (.inr (.inr f19))))), (q14, .inr (10, [.ref q18, .int 0, w17]))] := hD
  refine gf_RX9_190 hx hb hown hE hP 0 rfl rfl dX9_requireVoice_8 ?_
  refine gx_v (wr := [(q21, .inr (8, [w22, w23, w24, w25, w26, .int 4, w28])), (q1, .inr (11, [.ref q14, w4, w5, w6, w7, w8, w9, w10, w11, w12, w13])), (q18, .inl (g.2 3, 10, .inr (.inr (.inr (.inr f19))))), (q14, .inr (10, [.ref q18, .int 0, w17]))]) (rSx (rest := []) hx hb hml hown hE hP hD hS hA hz (c178_X9_requireIndex l g hlx x2 h29 H.size) (kS_X9_requireIndex hE (e620 hE) rfl rfl ⟨(Nat.le_of_ble_eq_true rfl), (Nat.le_of_ble_eq_true rfl)⟩) [] rfl (by decide) rfl hl.1 rfl (lv_room (Nat.le_of_ble_eq_true rfl)) dX9_requireVoice_11 ⟨(Nat.le_of_ble_eq_true rfl), (Nat.le_of_ble_eq_true rfl)⟩) hP hD hS hA [] [0, 1, 2, 3] rfl rfl (by decide) (by decide) (fun ce9 q9 H locs hP hD hS hq1 hq2 hq3 => ?_)
  exact x_out hex hlocks hq1 hq2 hq3 hP hD hS hAe hsz (Nat.le_of_ble_eq_true rfl) (Nat.le_of_ble_eq_true rfl) [0, 1, 2, 3] (by decide) rfl

set_option maxHeartbeats 4000000 in
set_option maxRecDepth 100000 in
theorem c180_X9_noteOn (l : Launch) (g : gG) (hlx : l.stackTraces = false) (q1 q15 q19 q22 : Nat) (x2 x3 : Int32) (w5 w6 w7 w8 w9 w10 w11 w12 w13 w14 w18 w23 w24 w25 w26 w27 w29 : Value) (f20 : Nat → Option Nat) (hf21 : f20 0 = some q22) (h30 : x2 < 0) (sz : Nat) : vx_Met l yX9_noteOn [Cond.code yX9_noteOn cX9_noteOn 4 (some .int)] ({ frames := 8, cells := 1, slots := 6, locals := 142 } : Room) (va_Pc [.ref q1, .int x2, .int x3] (PZ g sz [(q22, .inr (8, [w23, w24, w25, w26, w27, .int 4, w29])), (q19, .inl (g.2 3, 10, .inr (.inr (.inr (.inr f20))))), (q15, .inr (10, [.ref q19, .int 0, w18])), (q1, .inr (11, [.ref q15, w5, w6, w7, w8, w9, w10, w11, w12, w13, w14]))])) NI (XW g [(q22, .inr (8, [w23, w24, w25, w26, w27, .int 4, w29])), (q19, .inl (g.2 3, 10, .inr (.inr (.inr (.inr f20))))), (q15, .inr (10, [.ref q19, .int 0, w18])), (q1, .inr (11, [.ref q15, w5, w6, w7, w8, w9, w10, w11, w12, w13, w14]))] sz "java/lang/IndexOutOfBoundsException" [(q22, .inr (8, [w23, w24, w25, w26, w27, .int 4, w29])), (q1, .inr (11, [.ref q15, w5, w6, w7, w8, w9, w10, w11, w12, w13, w14])), (q19, .inl (g.2 3, 10, .inr (.inr (.inr (.inr f20))))), (q15, .inr (10, [.ref q19, .int 0, w18]))]) 1 6 (va_A [(q22, .inr (8, [w23, w24, w25, w26, w27, .int 4, w29])), (q19, .inl (g.2 3, 10, .inr (.inr (.inr (.inr f20))))), (q15, .inr (10, [.ref q19, .int 0, w18])), (q1, .inr (11, [.ref q15, w5, w6, w7, w8, w9, w10, w11, w12, w13, w14]))] sz) := by
  refine ofX (by decide) (Nat.le_of_ble_eq_true rfl) rfl ?_
  intro p e s m args below meth c A ls hAe hsz hx hb hml hr hlocks hin hown hE hP hD hA hS hl hex hz
  have hown : s.vm.findClass RX9 = some m.cls := hown
  refine lv_aload_n hx hb dX9_noteOn_0 rfl (lv_at hl 0 rfl) ?_
  refine lv_iload_n hx hb dX9_noteOn_1 rfl (lv_at hl 1 rfl) ?_
  refine gx_v (wr := []) (rVx (rest := []) hx hb hml hown hE hP hD hS hA hz 3 rfl rfl (c179_X9_requireVoice l g hlx q1 q15 q19 q22 x2 w5 w6 w7 w8 w9 w10 w11 w12 w13 w14 w18 w23 w24 w25 w26 w27 w29 f20 (hf21) h30 s.heap.size) (kV_X9_requireVoice hE (e1074 hE) rfl rfl ⟨(Nat.le_of_ble_eq_true rfl), (Nat.le_of_ble_eq_true rfl)⟩) [0, 1, 2, 3] rfl (by decide) rfl hl.1 rfl (lv_room (Nat.le_of_ble_eq_true rfl)) dX9_noteOn_2 ⟨(Nat.le_of_ble_eq_true rfl), (Nat.le_of_ble_eq_true rfl)⟩) hP hD hS hA [0, 1, 2, 3] [] rfl rfl (by decide) (by decide) (fun ce9 q9 H locs hP hD hS hq1 hq2 hq3 => ?_)
  exact x_out hex hlocks hq1 hq2 hq3 hP hD hS hAe hsz (Nat.le_of_ble_eq_true rfl) (Nat.le_of_ble_eq_true rfl) [0, 1, 2, 3] (by decide) rfl

set_option maxHeartbeats 4000000 in
set_option maxRecDepth 100000 in
theorem c181_L_noteOn (l : Launch) (g : gG) (hlx : l.stackTraces = false) (q1 q4 q16 q20 q23 : Nat) (x2 x3 : Int32) (w6 w7 w8 w9 w10 w11 w12 w13 w14 w15 w19 w24 w25 w26 w27 w28 w30 : Value) (f21 : Nat → Option Nat) (hf22 : f21 0 = some q23) (h31 : x2 < 0) (sz : Nat) : Met l yL_noteOn [Cond.codeWith yL_noteOn cL_noteOn 5 (some .int) [(0, 10, 13, 13), (0, 10, 17, 15), (0, 10, 21, 39)]] ({ frames := 9, cells := 1, slots := 6, locals := 165 } : Room) (va_Pc [.ref q1, .int x2, .int x3, .ref q4] (PZ g sz [(q23, .inr (8, [w24, w25, w26, w27, w28, .int 4, w30])), (q20, .inl (g.2 3, 10, .inr (.inr (.inr (.inr f21))))), (q16, .inr (10, [.ref q20, .int 0, w19])), (q1, .inr (11, [.ref q16, w6, w7, w8, w9, w10, w11, w12, w13, w14, w15]))])) (QI g [(q23, .inr (8, [w24, w25, w26, w27, w28, .int 4, w30])), (q20, .inl (g.2 3, 10, .inr (.inr (.inr (.inr f21))))), (q16, .inr (10, [.ref q20, .int 0, w19])), (q1, .inr (11, [.ref q16, w6, w7, w8, w9, w10, w11, w12, w13, w14, w15]))] sz 1 (fun _ => [])) 1 6 (va_A [(q23, .inr (8, [w24, w25, w26, w27, w28, .int 4, w30])), (q20, .inl (g.2 3, 10, .inr (.inr (.inr (.inr f21))))), (q16, .inr (10, [.ref q20, .int 0, w19])), (q1, .inr (11, [.ref q16, w6, w7, w8, w9, w10, w11, w12, w13, w14, w15]))] sz) := by
  refine ofH (by decide) (Nat.le_of_ble_eq_true rfl) rfl ?_
  intro p e s m args below meth c A ls hAe hsz hx hb hml hr hlocks hin hown hE hP hD hA hS hl htb hz
  have hown : s.vm.findClass RL = some m.cls := hown
  refine lv_aload_n hx hb dL_noteOn_0 rfl (lv_at hl 3 rfl) ?_
  refine lv_iconst (v := 0) hx hb dL_noteOn_1 (by decide) ?_
  refine lv_aload_n hx hb dL_noteOn_2 rfl (lv_at hl 0 rfl) ?_
  refine lv_iload_n hx hb dL_noteOn_3 rfl (lv_at hl 1 rfl) ?_
  refine lv_iload_n hx hb dL_noteOn_4 rfl (lv_at hl 2 rfl) ?_
  refine gx_i (wr := []) (rVx (rest := [.int 0, .ref q4]) hx hb hml hown hE hP hD hS hA hz 3 rfl rfl (c180_X9_noteOn l g hlx q1 q16 q20 q23 x2 x3 w6 w7 w8 w9 w10 w11 w12 w13 w14 w15 w19 w24 w25 w26 w27 w28 w30 f21 (hf22) h31 s.heap.size) (kV_X9_noteOn hE (e1070 hE) rfl rfl ⟨(Nat.le_of_ble_eq_true rfl), (Nat.le_of_ble_eq_true rfl)⟩) [0, 1, 2, 3] rfl (by decide) rfl hl.1 rfl (lv_room (Nat.le_of_ble_eq_true rfl)) dL_noteOn_5 ⟨(Nat.le_of_ble_eq_true rfl), (Nat.le_of_ble_eq_true rfl)⟩) hP hD hS hA [0, 1, 2, 3] [] rfl rfl (by decide) (by decide) (fun ce9 q9 H locs hP hD hS hq1 hq2 hq3 => ?_)
  have hP : va_P g.1 vwCl [(q23, .inr (8, [w24, w25, w26, w27, w28, .int 4, w30])), (q1, .inr (11, [.ref q16, w6, w7, w8, w9, w10, w11, w12, w13, w14, w15])), (q20, .inl (g.2 3, 10, .inr (.inr (.inr (.inr f21))))), (q16, .inr (10, [.ref q20, .int 0, w19]))] H := hP
  have hD : va_D A [(q23, .inr (8, [w24, w25, w26, w27, w28, .int 4, w30])), (q1, .inr (11, [.ref q16, w6, w7, w8, w9, w10, w11, w12, w13, w14, w15])), (q20, .inl (g.2 3, 10, .inr (.inr (.inr (.inr f21))))), (q16, .inr (10, [.ref q20, .int 0, w19]))] := hD
  refine x_catch (name := "java/lang/IndexOutOfBoundsException") (hh := [(0, 10, 13, 13), (0, 10, 17, 15), (0, 10, 21, 39)]) (tgt := 13) hown htb [] ⟨0, 10, 13, 13⟩ [⟨0, 10, 17, 15⟩, ⟨0, 10, 21, 39⟩] rfl (fun _ h => nomatch h) rfl (by decide) (e532 hE) (e625 hE) hq1 hq2 hq3 rfl ?_
  refine lv_astore (lv' := [(4, .ref q9), (0, .ref q1), (1, .int x2), (2, .int x3), (3, .ref q4)]) hx hb dL_noteOn_13 hl (by decide) rfl (fun ls hl => ?_)
  refine lv_iconst (v := 1) hx hb dL_noteOn_15 (by decide) ?_
  exact x_zret hx hb hr rfl rfl hlocks hP hD hS hAe hsz (Nat.le_of_ble_eq_true rfl) (Nat.le_of_ble_eq_true rfl) (fun _ => 0) [] (by decide) rfl dL_noteOn_16

set_option maxHeartbeats 4000000 in
set_option maxRecDepth 100000 in
theorem c182_X10_in (l : Launch) (g : gG) (x1 : Int32) (h2 : x1 < 0) (sz : Nat) : Met l yX10_in [Cond.code yX10_in cX10_in 3 (some .boolean)] ({ frames := 0, cells := 0, slots := 0, locals := 0 } : Room) (va_Pc [.int x1, .int 0, .int 3] (PX g sz [])) (QI g [] sz 0 (fun _ => [])) 0 0 (va_A [] sz) := by
  refine ofN (by decide) (Nat.le_of_ble_eq_true rfl) rfl ?_
  intro p e s m args below meth c A ls hAe hsz hx hb hml hr hlocks hin hown hE hP hD hA hS hl
  have hown : s.vm.findClass RX10 = some m.cls := hown
  refine lv_iload_n hx hb dX10_in_0 rfl (lv_at hl 0 rfl) ?_
  refine lv_iload_n hx hb dX10_in_1 rfl (lv_at hl 1 rfl) ?_
  refine lv_icmp_lt (tgt := 14) hx hb dX10_in_2 (by decide) (fun _ => ?_) (fun h => absurd h2 h)
  refine lv_iconst (v := 0) hx hb dX10_in_14 (by decide) ?_
  exact x_zret hx hb hr rfl rfl hlocks hP hD hS hAe hsz (Nat.le_of_ble_eq_true rfl) (Nat.le_of_ble_eq_true rfl) (fun _ => 0) [] (by decide) rfl dX10_in_15

set_option maxHeartbeats 4000000 in
set_option maxRecDepth 100000 in
theorem c183_X10_isVoice (l : Launch) (g : gG) (q1 q40 : Nat) (x2 : Int32) (w4 w5 w6 w7 w8 w9 w10 w11 w12 w13 w14 w15 w16 w17 w18 w19 w20 w21 w22 w23 w24 w25 w26 w27 w28 w29 w30 w31 w32 w33 w34 w35 w36 w37 w38 w39 : Value) (f41 : Nat → Int32) (hf42 : f41 495 = 4) (h43 : x2 < 0) (sz : Nat) : Met l yX10_isVoice [Cond.code yX10_isVoice cX10_isVoice 2 (some .boolean)] ({ frames := 1, cells := 0, slots := 0, locals := 22 } : Room) (va_Pc [.ref q1, .int x2] (PX g sz [(q40, .inl (g.2 0, 497, .inl f41)), (q1, .inr (12, [.ref q40, w4, w5, w6, w7, w8, w9, w10, w11, w12, w13, w14, w15, w16, w17, w18, w19, w20, w21, w22, w23, w24, w25, w26, w27, w28, w29, w30, w31, w32, w33, w34, w35, w36, w37, w38, w39]))])) (QI g [(q40, .inl (g.2 0, 497, .inl f41)), (q1, .inr (12, [.ref q40, w4, w5, w6, w7, w8, w9, w10, w11, w12, w13, w14, w15, w16, w17, w18, w19, w20, w21, w22, w23, w24, w25, w26, w27, w28, w29, w30, w31, w32, w33, w34, w35, w36, w37, w38, w39]))] sz 0 (fun _ => [(q40, .inl (g.2 0, 497, .inl f41)), (q1, .inr (12, [.ref q40, w4, w5, w6, w7, w8, w9, w10, w11, w12, w13, w14, w15, w16, w17, w18, w19, w20, w21, w22, w23, w24, w25, w26, w27, w28, w29, w30, w31, w32, w33, w34, w35, w36, w37, w38, w39]))])) 0 0 (va_A [(q40, .inl (g.2 0, 497, .inl f41)), (q1, .inr (12, [.ref q40, w4, w5, w6, w7, w8, w9, w10, w11, w12, w13, w14, w15, w16, w17, w18, w19, w20, w21, w22, w23, w24, w25, w26, w27, w28, w29, w30, w31, w32, w33, w34, w35, w36, w37, w38, w39]))] sz) := by
  refine ofN (by decide) (Nat.le_of_ble_eq_true rfl) rfl ?_
  intro p e s m args below meth c A ls hAe hsz hx hb hml hr hlocks hin hown hE hP hD hA hS hl
  have hown : s.vm.findClass RX10 = some m.cls := hown
  refine lv_iload_n hx hb dX10_isVoice_0 rfl (lv_at hl 1 rfl) ?_
  refine lv_iconst (v := 0) hx hb dX10_isVoice_1 (by decide) ?_
  refine lv_aload_n hx hb dX10_isVoice_2 rfl (lv_at hl 0 rfl) ?_
  refine gf_RX10_9 hx hb hown hE hP 1 rfl rfl dX10_isVoice_3 ?_
  refine lv_sipush (v := 495) hx hb dX10_isVoice_6 (by decide) ?_
  refine x_iald (v := 4) hx hb hE hP 0 rfl 495 (x_in (by decide)) (by decide) hf42 dX10_isVoice_9 ?_
  refine lv_iconst (v := 1) hx hb dX10_isVoice_10 (by decide) ?_
  refine x_isub (v := 3) hx hb dX10_isVoice_11 (by decide) ?_
  refine g0_i (rS (rest := []) hx hb hml hown hE hP hD (c182_X10_in l g x2 h43 s.heap.size) (kS_X10_in hE (e1431 hE) rfl rfl ⟨(Nat.le_of_ble_eq_true rfl), (Nat.le_of_ble_eq_true rfl)⟩) [] rfl (by decide) rfl hl.1 rfl (lv_room (Nat.le_of_ble_eq_true rfl)) dX10_isVoice_12 ⟨(Nat.le_of_ble_eq_true rfl), (Nat.le_of_ble_eq_true rfl)⟩) hP hD hS hA (fun u9 H locs hP hS => ?_)
  exact x_zret hx hb hr rfl rfl hlocks hP hD hS hAe hsz (Nat.le_of_ble_eq_true rfl) (Nat.le_of_ble_eq_true rfl) (fun _ => 0) [0, 1] (by decide) rfl dX10_isVoice_15

set_option maxHeartbeats 4000000 in
set_option maxRecDepth 100000 in
theorem c184_X10_noteOn (l : Launch) (g : gG) (q1 q41 : Nat) (x2 x3 : Int32) (w5 w6 w7 w8 w9 w10 w11 w12 w13 w14 w15 w16 w17 w18 w19 w20 w21 w22 w23 w24 w25 w26 w27 w28 w29 w30 w31 w32 w33 w34 w35 w36 w37 w38 w39 w40 : Value) (f42 : Nat → Int32) (hf43 : f42 495 = 4) (h44 : x2 < 0) (sz : Nat) : Met l yX10_noteOn [Cond.code yX10_noteOn cX10_noteOn 4 (some .int)] ({ frames := 2, cells := 0, slots := 0, locals := 43 } : Room) (va_Pc [.ref q1, .int x2, .int x3] (PX g sz [(q41, .inl (g.2 0, 497, .inl f42)), (q1, .inr (12, [.ref q41, w5, w6, w7, w8, w9, w10, w11, w12, w13, w14, w15, w16, w17, w18, w19, w20, w21, w22, w23, w24, w25, w26, w27, w28, w29, w30, w31, w32, w33, w34, w35, w36, w37, w38, w39, w40]))])) (QI g [(q41, .inl (g.2 0, 497, .inl f42)), (q1, .inr (12, [.ref q41, w5, w6, w7, w8, w9, w10, w11, w12, w13, w14, w15, w16, w17, w18, w19, w20, w21, w22, w23, w24, w25, w26, w27, w28, w29, w30, w31, w32, w33, w34, w35, w36, w37, w38, w39, w40]))] sz 0 (fun _ => [(q1, .inr (12, [.ref q41, w5, w6, w7, w8, w9, .int 1, w11, w12, w13, w14, w15, w16, w17, w18, w19, w20, w21, w22, w23, w24, w25, w26, w27, w28, w29, w30, w31, w32, w33, w34, w35, w36, w37, w38, w39, w40]))])) 0 0 (va_A [(q41, .inl (g.2 0, 497, .inl f42)), (q1, .inr (12, [.ref q41, w5, w6, w7, w8, w9, w10, w11, w12, w13, w14, w15, w16, w17, w18, w19, w20, w21, w22, w23, w24, w25, w26, w27, w28, w29, w30, w31, w32, w33, w34, w35, w36, w37, w38, w39, w40]))] sz) := by
  refine ofN (by decide) (Nat.le_of_ble_eq_true rfl) rfl ?_
  intro p e s m args below meth c A ls hAe hsz hx hb hml hr hlocks hin hown hE hP hD hA hS hl
  have hown : s.vm.findClass RX10 = some m.cls := hown
  refine lv_aload_n hx hb dX10_noteOn_0 rfl (lv_at hl 0 rfl) ?_
  refine lv_aload_n hx hb dX10_noteOn_1 rfl (lv_at hl 0 rfl) ?_
  refine lv_iload_n hx hb dX10_noteOn_2 rfl (lv_at hl 1 rfl) ?_
  refine g_i (wr := []) (rV (rest := [.ref q1]) hx hb hml hown hE hP hD 1 rfl rfl (c183_X10_isVoice l g q1 q41 x2 w5 w6 w7 w8 w9 w10 w11 w12 w13 w14 w15 w16 w17 w18 w19 w20 w21 w22 w23 w24 w25 w26 w27 w28 w29 w30 w31 w32 w33 w34 w35 w36 w37 w38 w39 w40 f42 (hf43) h44 s.heap.size) (kV_X10_isVoice hE (e1684 hE) rfl rfl ⟨(Nat.le_of_ble_eq_true rfl), (Nat.le_of_ble_eq_true rfl)⟩) [0, 1] rfl (by decide) rfl hl.1 rfl (lv_room (Nat.le_of_ble_eq_true rfl)) dX10_noteOn_3 ⟨(Nat.le_of_ble_eq_true rfl), (Nat.le_of_ble_eq_true rfl)⟩) hP hD hS hA [0, 1] [] rfl rfl (by decide) (by decide) (fun u1 H locs hP hD hS => ?_)
  have hP : va_P g.1 vwCl [(q41, .inl (g.2 0, 497, .inl f42)), (q1, .inr (12, [.ref q41, w5, w6, w7, w8, w9, w10, w11, w12, w13, w14, w15, w16, w17, w18, w19, w20, w21, w22, w23, w24, w25, w26, w27, w28, w29, w30, w31, w32, w33, w34, w35, w36, w37, w38, w39, w40]))] H := hP
  have hD : va_D A [(q41, .inl (g.2 0, 497, .inl f42)), (q1, .inr (12, [.ref q41, w5, w6, w7, w8, w9, w10, w11, w12, w13, w14, w15, w16, w17, w18, w19, w20, w21, w22, w23, w24, w25, w26, w27, w28, w29, w30, w31, w32, w33, w34, w35, w36, w37, w38, w39, w40]))] := hD
  refine lv_if_ne (tgt := 13) hx hb dX10_noteOn_6 (by decide) (fun h => absurd h (by decide)) (fun _ => ?_)
  refine lv_iconst (v := 1) hx hb dX10_noteOn_9 (by decide) ?_
  refine lv_goto (tgt := 28) hx hb dX10_noteOn_10 (by decide) ?_
  refine pf_RX10_86 (ws' := [(q41, .inl (g.2 0, 497, .inl f42)), (q1, .inr (12, [.ref q41, w5, w6, w7, w8, w9, .int 1, w11, w12, w13, w14, w15, w16, w17, w18, w19, w20, w21, w22, w23, w24, w25, w26, w27, w28, w29, w30, w31, w32, w33, w34, w35, w36, w37, w38, w39, w40]))]) hx hb hown hE hP hD hS 1 rfl rfl rfl (Nat.le_of_ble_eq_true rfl) dX10_noteOn_28 rfl (fun H locs hP hD hS => ?_)
  refine lv_aload_n hx hb dX10_noteOn_31 rfl (lv_at hl 0 rfl) ?_
  refine gf_RX10_86 hx hb hown hE hP 1 rfl rfl dX10_noteOn_32 ?_
  refine lv_if_le (tgt := 40) hx hb dX10_noteOn_35 (by decide) (fun h => absurd h (by decide)) (fun _ => ?_)
  refine lv_iconst (v := 0) hx hb dX10_noteOn_38 (by decide) ?_
  exact x_zret hx hb hr rfl rfl hlocks hP hD hS hAe hsz (Nat.le_of_ble_eq_true rfl) (Nat.le_of_ble_eq_true rfl) (fun _ => 0) [1] (by decide) rfl dX10_noteOn_39

set_option maxHeartbeats 4000000 in
set_option maxRecDepth 100000 in
theorem c185_X9_requireIndex (l : Launch) (g : gG) (x1 : Int32) (h2 : (0 : Int32) ≤ x1) (h3 : x1 < 4) (sz : Nat) : Met l yX9_requireIndex [Cond.code yX9_requireIndex cX9_requireIndex 2 none] ({ frames := 0, cells := 0, slots := 0, locals := 0 } : Room) (va_Pc [.int x1, .int 4] (PX g sz [])) (QV g [] sz (fun _ => [])) 0 0 (va_A [] sz) := by
  refine ofN (by decide) (Nat.le_of_ble_eq_true rfl) rfl ?_
  intro p e s m args below meth c A ls hAe hsz hx hb hml hr hlocks hin hown hE hP hD hA hS hl
  have hown : s.vm.findClass RX9 = some m.cls := hown
  refine lv_iload_n hx hb dX9_requireIndex_0 rfl (lv_at hl 0 rfl) ?_
  refine lv_if_lt (tgt := 9) hx hb dX9_requireIndex_1 (by decide) (fun h => absurd h (i_nlt h2)) (fun _ => ?_)
  refine lv_iload_n hx hb dX9_requireIndex_4 rfl (lv_at hl 0 rfl) ?_
  refine lv_iload_n hx hb dX9_requireIndex_5 rfl (lv_at hl 1 rfl) ?_
  refine lv_icmp_lt (tgt := 20) hx hb dX9_requireIndex_6 (by decide) (fun _ => ?_) (fun h => absurd h3 h)
  exact x_vret hx hb hr hlocks hP hD hS hAe hsz (Nat.le_of_ble_eq_true rfl) (Nat.le_of_ble_eq_true rfl) (fun _ => 0) [] (by decide) rfl dX9_requireIndex_20

set_option maxHeartbeats 4000000 in
set_option maxRecDepth 100000 in
theorem c186_X9_requireVoice (l : Launch) (g : gG) (q1 q14 q18 q21 : Nat) (x2 : Int32) (w4 w5 w6 w7 w8 w9 w10 w11 w12 w13 w17 w22 w23 w24 w25 w26 w28 : Value) (f19 : Nat → Option Nat) (hf20 : f19 0 = some q21) (h29 : (0 : Int32) ≤ x2) (h30 : x2 < 4) (sz : Nat) : Met l yX9_requireVoice [Cond.code yX9_requireVoice cX9_requireVoice 2 none] ({ frames := 2, cells := 0, slots := 0, locals := 42 } : Room) (va_Pc [.ref q1, .int x2] (PX g sz [(q21, .inr (8, [w22, w23, w24, w25, w26, .int 4, w28])), (q18, .inl (g.2 3, 10, .inr (.inr (.inr (.inr f19))))), (q14, .inr (10, [.ref q18, .int 0, w17])), (q1, .inr (11, [.ref q14, w4, w5, w6, w7, w8, w9, w10, w11, w12, w13]))])) (QV g [(q21, .inr (8, [w22, w23, w24, w25, w26, .int 4, w28])), (q18, .inl (g.2 3, 10, .inr (.inr (.inr (.inr f19))))), (q14, .inr (10, [.ref q18, .int 0, w17])), (q1, .inr (11, [.ref q14, w4, w5, w6, w7, w8, w9, w10, w11, w12, w13]))] sz (fun _ => [(q21, .inr (8, [w22, w23, w24, w25, w26, .int 4, w28])), (q1, .inr (11, [.ref q14, w4, w5, w6, w7, w8, w9, w10, w11, w12, w13])), (q18, .inl (g.2 3, 10, .inr (.inr (.inr (.inr f19))))), (q14, .inr (10, [.ref q18, .int 0, w17]))])) 0 0 (va_A [(q21, .inr (8, [w22, w23, w24, w25, w26, .int 4, w28])), (q18, .inl (g.2 3, 10, .inr (.inr (.inr (.inr f19))))), (q14, .inr (10, [.ref q18, .int 0, w17])), (q1, .inr (11, [.ref q14, w4, w5, w6, w7, w8, w9, w10, w11, w12, w13]))] sz) := by
  refine ofN (by decide) (Nat.le_of_ble_eq_true rfl) rfl ?_
  intro p e s m args below meth c A ls hAe hsz hx hb hml hr hlocks hin hown hE hP hD hA hS hl
  have hown : s.vm.findClass RX9 = some m.cls := hown
  refine lv_iload_n hx hb dX9_requireVoice_0 rfl (lv_at hl 1 rfl) ?_
  refine lv_aload_n hx hb dX9_requireVoice_1 rfl (lv_at hl 0 rfl) ?_
  refine gf_RX9_12 hx hb hown hE hP 3 rfl rfl dX9_requireVoice_2 ?_
  refine g_r (wr := [(q21, .inr (8, [w22, w23, w24, w25, w26, .int 4, w28])), (q1, .inr (11, [.ref q14, w4, w5, w6, w7, w8, w9, w10, w11, w12, w13]))]) (rV (rest := [.int x2]) hx hb hml hown hE hP hD 2 rfl rfl (c79_X8_current l g q14 q18 q21 w17 f19 (hf20) s.heap.size) (kV_X8_current hE (e290 hE) rfl rfl ⟨(Nat.le_of_ble_eq_true rfl), (Nat.le_of_ble_eq_true rfl)⟩) [1, 2] rfl (by decide) rfl hl.1 rfl (lv_room (Nat.le_of_ble_eq_true rfl)) dX9_requireVoice_5 ⟨(Nat.le_of_ble_eq_true rfl), (Nat.le_of_ble_eq_true rfl)⟩) hP hD hS hA [1, 2] [0, 3] rfl rfl (by decide) (by decide) (fun u1 H locs hP hD hS => ?_)
  have hP : va_P g.1 vwCl [(q21, .inr (8, [w22, w23, w24, w25, w26, .int 4, w28])), (q1, .inr (11, [.ref q14, w4, w5, w6, w7, w8, w9, w10, w11, w12, w13])), (q18, .inl (g.2 3, 10, .inr (.inr (.inr (.inr f19))))), (q14, .inr (10, [.ref q18, .int 0, w17]))] H := hP
  have hD : va_D A [(q21, .inr (8, [w22, w23, w24, w25, w26, .int 4, w28])), (q1, .inr (11, [.ref q14, w4, w5, w6, w7, w8, w9, w10, w11, w12, w13])), (q18, .inl (g.2 3, 10, .inr (.inr (.inr (.inr f19))))), (q14, .inr (10, [.ref q18, .int 0, w17]))] := hD
  refine gf_RX9_190 hx hb hown hE hP 0 rfl rfl dX9_requireVoice_8 ?_
  refine g0_v (rS (rest := []) hx hb hml hown hE hP hD (c185_X9_requireIndex l g x2 h29 h30 H.size) (kS_X9_requireIndex hE (e620 hE) rfl rfl ⟨(Nat.le_of_ble_eq_true rfl), (Nat.le_of_ble_eq_true rfl)⟩) [] rfl (by decide) rfl hl.1 rfl (lv_room (Nat.le_of_ble_eq_true rfl)) dX9_requireVoice_11 ⟨(Nat.le_of_ble_eq_true rfl), (Nat.le_of_ble_eq_true rfl)⟩) hP hD hS hA (fun u9 H locs hP hS => ?_)
  exact x_vret hx hb hr hlocks hP hD hS hAe hsz (Nat.le_of_ble_eq_true rfl) (Nat.le_of_ble_eq_true rfl) (fun _ => 0) [0, 1, 2, 3] (by decide) rfl dX9_requireVoice_14

set_option maxHeartbeats 4000000 in
set_option maxRecDepth 100000 in
theorem c187_X9_noteOn (l : Launch) (g : gG) (hlx : l.stackTraces = false) (q1 q15 q19 q22 : Nat) (x2 x3 : Int32) (w5 w6 w7 w8 w9 w10 w11 w12 w13 w14 w18 w23 w24 w25 w26 w27 w29 : Value) (f20 : Nat → Option Nat) (hf21 : f20 0 = some q22) (h30 : (0 : Int32) ≤ x2) (h31 : x2 < 4) (h32 : x3 < 0) (sz : Nat) : vx_Met l yX9_noteOn [Cond.code yX9_noteOn cX9_noteOn 4 (some .int)] ({ frames := 8, cells := 1, slots := 6, locals := 142 } : Room) (va_Pc [.ref q1, .int x2, .int x3] (PZ g sz [(q22, .inr (8, [w23, w24, w25, w26, w27, .int 4, w29])), (q19, .inl (g.2 3, 10, .inr (.inr (.inr (.inr f20))))), (q15, .inr (10, [.ref q19, .int 0, w18])), (q1, .inr (11, [.ref q15, w5, w6, w7, w8, w9, w10, w11, w12, w13, w14]))])) NI (XW g [(q22, .inr (8, [w23, w24, w25, w26, w27, .int 4, w29])), (q19, .inl (g.2 3, 10, .inr (.inr (.inr (.inr f20))))), (q15, .inr (10, [.ref q19, .int 0, w18])), (q1, .inr (11, [.ref q15, w5, w6, w7, w8, w9, w10, w11, w12, w13, w14]))] sz "java/lang/IllegalArgumentException" [(q22, .inr (8, [w23, w24, w25, w26, w27, .int 4, w29])), (q1, .inr (11, [.ref q15, w5, w6, w7, w8, w9, w10, w11, w12, w13, w14])), (q19, .inl (g.2 3, 10, .inr (.inr (.inr (.inr f20))))), (q15, .inr (10, [.ref q19, .int 0, w18]))]) 1 6 (va_A [(q22, .inr (8, [w23, w24, w25, w26, w27, .int 4, w29])), (q19, .inl (g.2 3, 10, .inr (.inr (.inr (.inr f20))))), (q15, .inr (10, [.ref q19, .int 0, w18])), (q1, .inr (11, [.ref q15, w5, w6, w7, w8, w9, w10, w11, w12, w13, w14]))] sz) := by
  refine ofX (by decide) (Nat.le_of_ble_eq_true rfl) rfl ?_
  intro p e s m args below meth c A ls hAe hsz hx hb hml hr hlocks hin hown hE hP hD hA hS hl hex hz
  have hown : s.vm.findClass RX9 = some m.cls := hown
  refine lv_aload_n hx hb dX9_noteOn_0 rfl (lv_at hl 0 rfl) ?_
  refine lv_iload_n hx hb dX9_noteOn_1 rfl (lv_at hl 1 rfl) ?_
  refine g_v (wr := []) (rV (rest := []) hx hb hml hown hE hP hD 3 rfl rfl (c186_X9_requireVoice l g q1 q15 q19 q22 x2 w5 w6 w7 w8 w9 w10 w11 w12 w13 w14 w18 w23 w24 w25 w26 w27 w29 f20 (hf21) h30 h31 s.heap.size) (kV_X9_requireVoice hE (e1074 hE) rfl rfl ⟨(Nat.le_of_ble_eq_true rfl), (Nat.le_of_ble_eq_true rfl)⟩) [0, 1, 2, 3] rfl (by decide) rfl hl.1 rfl (lv_room (Nat.le_of_ble_eq_true rfl)) dX9_noteOn_2 ⟨(Nat.le_of_ble_eq_true rfl), (Nat.le_of_ble_eq_true rfl)⟩) hP hD hS hA [0, 1, 2, 3] [] rfl rfl (by decide) (by decide) (fun u1 H locs hP hD hS => ?_)
  have hP : va_P g.1 vwCl [(q22, .inr (8, [w23, w24, w25, w26, w27, .int 4, w29])), (q1, .inr (11, [.ref q15, w5, w6, w7, w8, w9, w10, w11, w12, w13, w14])), (q19, .inl (g.2 3, 10, .inr (.inr (.inr (.inr f20))))), (q15, .inr (10, [.ref q19, .int 0, w18]))] H := hP
  have hD : va_D A [(q22, .inr (8, [w23, w24, w25, w26, w27, .int 4, w29])), (q1, .inr (11, [.ref q15, w5, w6, w7, w8, w9, w10, w11, w12, w13, w14])), (q19, .inl (g.2 3, 10, .inr (.inr (.inr (.inr f20))))), (q15, .inr (10, [.ref q19, .int 0, w18]))] := hD
  refine lv_iload_n hx hb dX9_noteOn_5 rfl (lv_at hl 2 rfl) ?_
  refine gx_v (wr := [(q22, .inr (8, [w23, w24, w25, w26, w27, .int 4, w29])), (q1, .inr (11, [.ref q15, w5, w6, w7, w8, w9, w10, w11, w12, w13, w14])), (q19, .inl (g.2 3, 10, .inr (.inr (.inr (.inr f20))))), (q15, .inr (10, [.ref q19, .int 0, w18]))]) (rSx (rest := []) hx hb hml hown hE hP hD hS hA hz (c71_X9_requireTime l g hlx x3 h32 H.size) (kS_X9_requireTime hE (e975 hE) rfl rfl ⟨(Nat.le_of_ble_eq_true rfl), (Nat.le_of_ble_eq_true rfl)⟩) [] rfl (by decide) rfl hl.1 rfl (lv_room (Nat.le_of_ble_eq_true rfl)) dX9_noteOn_6 ⟨(Nat.le_of_ble_eq_true rfl), (Nat.le_of_ble_eq_true rfl)⟩) hP hD hS hA [] [0, 1, 2, 3] rfl rfl (by decide) (by decide) (fun ce9 q9 H locs hP hD hS hq1 hq2 hq3 => ?_)
  exact x_out hex hlocks hq1 hq2 hq3 hP hD hS hAe hsz (Nat.le_of_ble_eq_true rfl) (Nat.le_of_ble_eq_true rfl) [0, 1, 2, 3] (by decide) rfl

set_option maxHeartbeats 4000000 in
set_option maxRecDepth 100000 in
theorem c188_L_noteOn (l : Launch) (g : gG) (hlx : l.stackTraces = false) (q1 q4 q16 q20 q23 : Nat) (x2 x3 : Int32) (w6 w7 w8 w9 w10 w11 w12 w13 w14 w15 w19 w24 w25 w26 w27 w28 w30 : Value) (f21 : Nat → Option Nat) (hf22 : f21 0 = some q23) (h31 : (0 : Int32) ≤ x2) (h32 : x2 < 4) (h33 : x3 < 0) (sz : Nat) : Met l yL_noteOn [Cond.codeWith yL_noteOn cL_noteOn 5 (some .int) [(0, 10, 13, 13), (0, 10, 17, 15), (0, 10, 21, 39)]] ({ frames := 9, cells := 1, slots := 6, locals := 165 } : Room) (va_Pc [.ref q1, .int x2, .int x3, .ref q4] (PZ g sz [(q23, .inr (8, [w24, w25, w26, w27, w28, .int 4, w30])), (q20, .inl (g.2 3, 10, .inr (.inr (.inr (.inr f21))))), (q16, .inr (10, [.ref q20, .int 0, w19])), (q1, .inr (11, [.ref q16, w6, w7, w8, w9, w10, w11, w12, w13, w14, w15]))])) (QI g [(q23, .inr (8, [w24, w25, w26, w27, w28, .int 4, w30])), (q20, .inl (g.2 3, 10, .inr (.inr (.inr (.inr f21))))), (q16, .inr (10, [.ref q20, .int 0, w19])), (q1, .inr (11, [.ref q16, w6, w7, w8, w9, w10, w11, w12, w13, w14, w15]))] sz 2 (fun _ => [])) 1 6 (va_A [(q23, .inr (8, [w24, w25, w26, w27, w28, .int 4, w30])), (q20, .inl (g.2 3, 10, .inr (.inr (.inr (.inr f21))))), (q16, .inr (10, [.ref q20, .int 0, w19])), (q1, .inr (11, [.ref q16, w6, w7, w8, w9, w10, w11, w12, w13, w14, w15]))] sz) := by
  refine ofH (by decide) (Nat.le_of_ble_eq_true rfl) rfl ?_
  intro p e s m args below meth c A ls hAe hsz hx hb hml hr hlocks hin hown hE hP hD hA hS hl htb hz
  have hown : s.vm.findClass RL = some m.cls := hown
  refine lv_aload_n hx hb dL_noteOn_0 rfl (lv_at hl 3 rfl) ?_
  refine lv_iconst (v := 0) hx hb dL_noteOn_1 (by decide) ?_
  refine lv_aload_n hx hb dL_noteOn_2 rfl (lv_at hl 0 rfl) ?_
  refine lv_iload_n hx hb dL_noteOn_3 rfl (lv_at hl 1 rfl) ?_
  refine lv_iload_n hx hb dL_noteOn_4 rfl (lv_at hl 2 rfl) ?_
  refine gx_i (wr := []) (rVx (rest := [.int 0, .ref q4]) hx hb hml hown hE hP hD hS hA hz 3 rfl rfl (c187_X9_noteOn l g hlx q1 q16 q20 q23 x2 x3 w6 w7 w8 w9 w10 w11 w12 w13 w14 w15 w19 w24 w25 w26 w27 w28 w30 f21 (hf22) h31 h32 h33 s.heap.size) (kV_X9_noteOn hE (e1070 hE) rfl rfl ⟨(Nat.le_of_ble_eq_true rfl), (Nat.le_of_ble_eq_true rfl)⟩) [0, 1, 2, 3] rfl (by decide) rfl hl.1 rfl (lv_room (Nat.le_of_ble_eq_true rfl)) dL_noteOn_5 ⟨(Nat.le_of_ble_eq_true rfl), (Nat.le_of_ble_eq_true rfl)⟩) hP hD hS hA [0, 1, 2, 3] [] rfl rfl (by decide) (by decide) (fun ce9 q9 H locs hP hD hS hq1 hq2 hq3 => ?_)
  have hP : va_P g.1 vwCl [(q23, .inr (8, [w24, w25, w26, w27, w28, .int 4, w30])), (q1, .inr (11, [.ref q16, w6, w7, w8, w9, w10, w11, w12, w13, w14, w15])), (q20, .inl (g.2 3, 10, .inr (.inr (.inr (.inr f21))))), (q16, .inr (10, [.ref q20, .int 0, w19]))] H := hP
  have hD : va_D A [(q23, .inr (8, [w24, w25, w26, w27, w28, .int 4, w30])), (q1, .inr (11, [.ref q16, w6, w7, w8, w9, w10, w11, w12, w13, w14, w15])), (q20, .inl (g.2 3, 10, .inr (.inr (.inr (.inr f21))))), (q16, .inr (10, [.ref q20, .int 0, w19]))] := hD
  refine x_catch (name := "java/lang/IllegalArgumentException") (hh := [(0, 10, 13, 13), (0, 10, 17, 15), (0, 10, 21, 39)]) (tgt := 17) hown htb [⟨0, 10, 13, 13⟩] ⟨0, 10, 17, 15⟩ [⟨0, 10, 21, 39⟩] rfl (fun z hz => by
    rcases List.mem_cons.mp hz with rfl | hz
    · exact Or.inr ⟨by decide, "java/lang/IndexOutOfBoundsException", e532 hE, hE.2.2.2.2.2 ("java/lang/IllegalArgumentException", "java/lang/IndexOutOfBoundsException") (by decide +kernel)⟩
    exact nomatch hz) rfl (by decide) (e611 hE) (e641 hE) hq1 hq2 hq3 rfl ?_
  refine lv_astore (lv' := [(4, .ref q9), (0, .ref q1), (1, .int x2), (2, .int x3), (3, .ref q4)]) hx hb dL_noteOn_17 hl (by decide) rfl (fun ls hl => ?_)
  refine lv_iconst (v := 2) hx hb dL_noteOn_19 (by decide) ?_
  exact x_zret hx hb hr rfl rfl hlocks hP hD hS hAe hsz (Nat.le_of_ble_eq_true rfl) (Nat.le_of_ble_eq_true rfl) (fun _ => 0) [] (by decide) rfl dL_noteOn_20

set_option maxHeartbeats 4000000 in
set_option maxRecDepth 100000 in
theorem c189_X10_in (l : Launch) (g : gG) (x1 : Int32) (h2 : (0 : Int32) ≤ x1) (h3 : x1 ≤ 3) (sz : Nat) : Met l yX10_in [Cond.code yX10_in cX10_in 3 (some .boolean)] ({ frames := 0, cells := 0, slots := 0, locals := 0 } : Room) (va_Pc [.int x1, .int 0, .int 3] (PX g sz [])) (QI g [] sz 1 (fun _ => [])) 0 0 (va_A [] sz) := by
  refine ofN (by decide) (Nat.le_of_ble_eq_true rfl) rfl ?_
  intro p e s m args below meth c A ls hAe hsz hx hb hml hr hlocks hin hown hE hP hD hA hS hl
  have hown : s.vm.findClass RX10 = some m.cls := hown
  refine lv_iload_n hx hb dX10_in_0 rfl (lv_at hl 0 rfl) ?_
  refine lv_iload_n hx hb dX10_in_1 rfl (lv_at hl 1 rfl) ?_
  refine lv_icmp_lt (tgt := 14) hx hb dX10_in_2 (by decide) (fun h => absurd h (i_nlt h2)) (fun _ => ?_)
  refine lv_iload_n hx hb dX10_in_5 rfl (lv_at hl 0 rfl) ?_
  refine lv_iload_n hx hb dX10_in_6 rfl (lv_at hl 2 rfl) ?_
  refine lv_icmp_gt (tgt := 14) hx hb dX10_in_7 (by decide) (fun h => absurd h (i_nlt h3)) (fun _ => ?_)
  refine lv_iconst (v := 1) hx hb dX10_in_10 (by decide) ?_
  refine lv_goto (tgt := 15) hx hb dX10_in_11 (by decide) ?_
  exact x_zret hx hb hr rfl rfl hlocks hP hD hS hAe hsz (Nat.le_of_ble_eq_true rfl) (Nat.le_of_ble_eq_true rfl) (fun _ => 0) [] (by decide) rfl dX10_in_15

set_option maxHeartbeats 4000000 in
set_option maxRecDepth 100000 in
theorem c190_X10_isVoice (l : Launch) (g : gG) (q1 q40 : Nat) (x2 : Int32) (w4 w5 w6 w7 w8 w9 w10 w11 w12 w13 w14 w15 w16 w17 w18 w19 w20 w21 w22 w23 w24 w25 w26 w27 w28 w29 w30 w31 w32 w33 w34 w35 w36 w37 w38 w39 : Value) (f41 : Nat → Int32) (hf42 : f41 495 = 4) (h43 : (0 : Int32) ≤ x2) (h44 : x2 ≤ 3) (sz : Nat) : Met l yX10_isVoice [Cond.code yX10_isVoice cX10_isVoice 2 (some .boolean)] ({ frames := 1, cells := 0, slots := 0, locals := 22 } : Room) (va_Pc [.ref q1, .int x2] (PX g sz [(q40, .inl (g.2 0, 497, .inl f41)), (q1, .inr (12, [.ref q40, w4, w5, w6, w7, w8, w9, w10, w11, w12, w13, w14, w15, w16, w17, w18, w19, w20, w21, w22, w23, w24, w25, w26, w27, w28, w29, w30, w31, w32, w33, w34, w35, w36, w37, w38, w39]))])) (QI g [(q40, .inl (g.2 0, 497, .inl f41)), (q1, .inr (12, [.ref q40, w4, w5, w6, w7, w8, w9, w10, w11, w12, w13, w14, w15, w16, w17, w18, w19, w20, w21, w22, w23, w24, w25, w26, w27, w28, w29, w30, w31, w32, w33, w34, w35, w36, w37, w38, w39]))] sz 1 (fun _ => [(q40, .inl (g.2 0, 497, .inl f41)), (q1, .inr (12, [.ref q40, w4, w5, w6, w7, w8, w9, w10, w11, w12, w13, w14, w15, w16, w17, w18, w19, w20, w21, w22, w23, w24, w25, w26, w27, w28, w29, w30, w31, w32, w33, w34, w35, w36, w37, w38, w39]))])) 0 0 (va_A [(q40, .inl (g.2 0, 497, .inl f41)), (q1, .inr (12, [.ref q40, w4, w5, w6, w7, w8, w9, w10, w11, w12, w13, w14, w15, w16, w17, w18, w19, w20, w21, w22, w23, w24, w25, w26, w27, w28, w29, w30, w31, w32, w33, w34, w35, w36, w37, w38, w39]))] sz) := by
  refine ofN (by decide) (Nat.le_of_ble_eq_true rfl) rfl ?_
  intro p e s m args below meth c A ls hAe hsz hx hb hml hr hlocks hin hown hE hP hD hA hS hl
  have hown : s.vm.findClass RX10 = some m.cls := hown
  refine lv_iload_n hx hb dX10_isVoice_0 rfl (lv_at hl 1 rfl) ?_
  refine lv_iconst (v := 0) hx hb dX10_isVoice_1 (by decide) ?_
  refine lv_aload_n hx hb dX10_isVoice_2 rfl (lv_at hl 0 rfl) ?_
  refine gf_RX10_9 hx hb hown hE hP 1 rfl rfl dX10_isVoice_3 ?_
  refine lv_sipush (v := 495) hx hb dX10_isVoice_6 (by decide) ?_
  refine x_iald (v := 4) hx hb hE hP 0 rfl 495 (x_in (by decide)) (by decide) hf42 dX10_isVoice_9 ?_
  refine lv_iconst (v := 1) hx hb dX10_isVoice_10 (by decide) ?_
  refine x_isub (v := 3) hx hb dX10_isVoice_11 (by decide) ?_
  refine g0_i (rS (rest := []) hx hb hml hown hE hP hD (c189_X10_in l g x2 h43 h44 s.heap.size) (kS_X10_in hE (e1431 hE) rfl rfl ⟨(Nat.le_of_ble_eq_true rfl), (Nat.le_of_ble_eq_true rfl)⟩) [] rfl (by decide) rfl hl.1 rfl (lv_room (Nat.le_of_ble_eq_true rfl)) dX10_isVoice_12 ⟨(Nat.le_of_ble_eq_true rfl), (Nat.le_of_ble_eq_true rfl)⟩) hP hD hS hA (fun u9 H locs hP hS => ?_)
  exact x_zret hx hb hr rfl rfl hlocks hP hD hS hAe hsz (Nat.le_of_ble_eq_true rfl) (Nat.le_of_ble_eq_true rfl) (fun _ => 0) [0, 1] (by decide) rfl dX10_isVoice_15

set_option maxHeartbeats 4000000 in
set_option maxRecDepth 100000 in
theorem c191_X10_noteOn (l : Launch) (g : gG) (q1 q41 : Nat) (x2 x3 : Int32) (w5 w6 w7 w8 w9 w10 w11 w12 w13 w14 w15 w16 w17 w18 w19 w20 w21 w22 w23 w24 w25 w26 w27 w28 w29 w30 w31 w32 w33 w34 w35 w36 w37 w38 w39 w40 : Value) (f42 : Nat → Int32) (hf43 : f42 495 = 4) (h44 : (0 : Int32) ≤ x2) (h45 : x2 ≤ 3) (h46 : x3 < 0) (sz : Nat) : Met l yX10_noteOn [Cond.code yX10_noteOn cX10_noteOn 4 (some .int)] ({ frames := 2, cells := 0, slots := 0, locals := 43 } : Room) (va_Pc [.ref q1, .int x2, .int x3] (PX g sz [(q41, .inl (g.2 0, 497, .inl f42)), (q1, .inr (12, [.ref q41, w5, w6, w7, w8, w9, w10, w11, w12, w13, w14, w15, w16, w17, w18, w19, w20, w21, w22, w23, w24, w25, w26, w27, w28, w29, w30, w31, w32, w33, w34, w35, w36, w37, w38, w39, w40]))])) (QI g [(q41, .inl (g.2 0, 497, .inl f42)), (q1, .inr (12, [.ref q41, w5, w6, w7, w8, w9, w10, w11, w12, w13, w14, w15, w16, w17, w18, w19, w20, w21, w22, w23, w24, w25, w26, w27, w28, w29, w30, w31, w32, w33, w34, w35, w36, w37, w38, w39, w40]))] sz 0 (fun _ => [(q1, .inr (12, [.ref q41, w5, w6, w7, w8, w9, .int 2, w11, w12, w13, w14, w15, w16, w17, w18, w19, w20, w21, w22, w23, w24, w25, w26, w27, w28, w29, w30, w31, w32, w33, w34, w35, w36, w37, w38, w39, w40]))])) 0 0 (va_A [(q41, .inl (g.2 0, 497, .inl f42)), (q1, .inr (12, [.ref q41, w5, w6, w7, w8, w9, w10, w11, w12, w13, w14, w15, w16, w17, w18, w19, w20, w21, w22, w23, w24, w25, w26, w27, w28, w29, w30, w31, w32, w33, w34, w35, w36, w37, w38, w39, w40]))] sz) := by
  refine ofN (by decide) (Nat.le_of_ble_eq_true rfl) rfl ?_
  intro p e s m args below meth c A ls hAe hsz hx hb hml hr hlocks hin hown hE hP hD hA hS hl
  have hown : s.vm.findClass RX10 = some m.cls := hown
  refine lv_aload_n hx hb dX10_noteOn_0 rfl (lv_at hl 0 rfl) ?_
  refine lv_aload_n hx hb dX10_noteOn_1 rfl (lv_at hl 0 rfl) ?_
  refine lv_iload_n hx hb dX10_noteOn_2 rfl (lv_at hl 1 rfl) ?_
  refine g_i (wr := []) (rV (rest := [.ref q1]) hx hb hml hown hE hP hD 1 rfl rfl (c190_X10_isVoice l g q1 q41 x2 w5 w6 w7 w8 w9 w10 w11 w12 w13 w14 w15 w16 w17 w18 w19 w20 w21 w22 w23 w24 w25 w26 w27 w28 w29 w30 w31 w32 w33 w34 w35 w36 w37 w38 w39 w40 f42 (hf43) h44 h45 s.heap.size) (kV_X10_isVoice hE (e1684 hE) rfl rfl ⟨(Nat.le_of_ble_eq_true rfl), (Nat.le_of_ble_eq_true rfl)⟩) [0, 1] rfl (by decide) rfl hl.1 rfl (lv_room (Nat.le_of_ble_eq_true rfl)) dX10_noteOn_3 ⟨(Nat.le_of_ble_eq_true rfl), (Nat.le_of_ble_eq_true rfl)⟩) hP hD hS hA [0, 1] [] rfl rfl (by decide) (by decide) (fun u1 H locs hP hD hS => ?_)
  have hP : va_P g.1 vwCl [(q41, .inl (g.2 0, 497, .inl f42)), (q1, .inr (12, [.ref q41, w5, w6, w7, w8, w9, w10, w11, w12, w13, w14, w15, w16, w17, w18, w19, w20, w21, w22, w23, w24, w25, w26, w27, w28, w29, w30, w31, w32, w33, w34, w35, w36, w37, w38, w39, w40]))] H := hP
  have hD : va_D A [(q41, .inl (g.2 0, 497, .inl f42)), (q1, .inr (12, [.ref q41, w5, w6, w7, w8, w9, w10, w11, w12, w13, w14, w15, w16, w17, w18, w19, w20, w21, w22, w23, w24, w25, w26, w27, w28, w29, w30, w31, w32, w33, w34, w35, w36, w37, w38, w39, w40]))] := hD
  refine lv_if_ne (tgt := 13) hx hb dX10_noteOn_6 (by decide) (fun _ => ?_) (fun h => absurd (by decide) h)
  refine lv_iload_n hx hb dX10_noteOn_13 rfl (lv_at hl 2 rfl) ?_
  refine lv_iconst (v := 0) hx hb dX10_noteOn_14 (by decide) ?_
  refine lv_ldc (v := 40000000) hx hb hown (e1640 hE) dX10_noteOn_15 ?_
  refine g0_i (rS (rest := [.ref q1]) hx hb hml hown hE hP hD (c74_X10_in l g x3 h46 H.size) (kS_X10_in hE (e1431 hE) rfl rfl ⟨(Nat.le_of_ble_eq_true rfl), (Nat.le_of_ble_eq_true rfl)⟩) [] rfl (by decide) rfl hl.1 rfl (lv_room (Nat.le_of_ble_eq_true rfl)) dX10_noteOn_17 ⟨(Nat.le_of_ble_eq_true rfl), (Nat.le_of_ble_eq_true rfl)⟩) hP hD hS hA (fun u9 H locs hP hS => ?_)
  refine lv_if_ne (tgt := 27) hx hb dX10_noteOn_20 (by decide) (fun h => absurd h (by decide)) (fun _ => ?_)
  refine lv_iconst (v := 2) hx hb dX10_noteOn_23 (by decide) ?_
  refine lv_goto (tgt := 28) hx hb dX10_noteOn_24 (by decide) ?_
  refine pf_RX10_86 (ws' := [(q41, .inl (g.2 0, 497, .inl f42)), (q1, .inr (12, [.ref q41, w5, w6, w7, w8, w9, .int 2, w11, w12, w13, w14, w15, w16, w17, w18, w19, w20, w21, w22, w23, w24, w25, w26, w27, w28, w29, w30, w31, w32, w33, w34, w35, w36, w37, w38, w39, w40]))]) hx hb hown hE hP hD hS 1 rfl rfl rfl (Nat.le_of_ble_eq_true rfl) dX10_noteOn_28 rfl (fun H locs hP hD hS => ?_)
  refine lv_aload_n hx hb dX10_noteOn_31 rfl (lv_at hl 0 rfl) ?_
  refine gf_RX10_86 hx hb hown hE hP 1 rfl rfl dX10_noteOn_32 ?_
  refine lv_if_le (tgt := 40) hx hb dX10_noteOn_35 (by decide) (fun h => absurd h (by decide)) (fun _ => ?_)
  refine lv_iconst (v := 0) hx hb dX10_noteOn_38 (by decide) ?_
  exact x_zret hx hb hr rfl rfl hlocks hP hD hS hAe hsz (Nat.le_of_ble_eq_true rfl) (Nat.le_of_ble_eq_true rfl) (fun _ => 0) [1] (by decide) rfl dX10_noteOn_39

set_option maxHeartbeats 4000000 in
set_option maxRecDepth 100000 in
theorem c192_X5_noteWith (l : Launch) (g : gG) (q1 : Nat) (x2 x3 : Int32) (w4 w5 w6 w7 w8 w9 w11 w12 w13 : Value) (sz : Nat) : Met l yX5_noteWith [Cond.code yX5_noteWith cX5_noteWith 4 (some .int)] ({ frames := 0, cells := 0, slots := 0, locals := 0 } : Room) (va_Pc [.ref q1, .int x2, .int x3] (PX g sz [(q1, .inr (7, [w4, w5, w6, w7, w8, w9, .int 0, w11, w12, w13]))])) (QI g [(q1, .inr (7, [w4, w5, w6, w7, w8, w9, .int 0, w11, w12, w13]))] sz (-1) (fun _ => [(q1, .inr (7, [w4, w5, w6, w7, w8, w9, .int 0, w11, w12, w13]))])) 0 0 (va_A [(q1, .inr (7, [w4, w5, w6, w7, w8, w9, .int 0, w11, w12, w13]))] sz) := by
  refine ofN (by decide) (Nat.le_of_ble_eq_true rfl) rfl ?_
  intro p e s m args below meth c A ls hAe hsz hx hb hml hr hlocks hin hown hE hP hD hA hS hl
  have hown : s.vm.findClass RX5 = some m.cls := hown
  refine lv_iconst (v := 0) hx hb dX5_noteWith_0 (by decide) ?_
  refine lv_istore_n (lv' := [(3, .int 0), (0, .ref q1), (1, .int x2), (2, .int x3)]) hx hb dX5_noteWith_1 rfl hl (by decide) rfl (fun ls hl => ?_)
  refine lv_iload_n hx hb dX5_noteWith_2 rfl (lv_at hl 0 rfl) ?_
  refine lv_aload_n hx hb dX5_noteWith_3 rfl (lv_at hl 1 rfl) ?_
  refine gf_RX5_37 hx hb hown hE hP 0 rfl rfl dX5_noteWith_4 ?_
  refine lv_icmp_ge (tgt := 38) hx hb dX5_noteWith_7 (by decide) (fun _ => ?_) (fun h => absurd (by decide) h)
  refine lv_iconst (v := (-1)) hx hb dX5_noteWith_38 (by decide) ?_
  exact x_zret hx hb hr rfl rfl hlocks hP hD hS hAe hsz (Nat.le_of_ble_eq_true rfl) (Nat.le_of_ble_eq_true rfl) (fun _ => 0) [0] (by decide) rfl dX5_noteWith_39

set_option maxHeartbeats 4000000 in
set_option maxRecDepth 100000 in
theorem c193_X9_noteOn (l : Launch) (g : gG) (hlx : l.stackTraces = false) (q1 q15 q19 q22 q34 q45 q46 q47 q48 q51 : Nat) (x2 x3 : Int32) (w5 w7 w8 w9 w10 w11 w13 w14 w18 w23 w24 w25 w26 w29 w35 w37 w41 w42 w43 w44 : Value) (f20 : Nat → Option Nat) (f49 : Nat → Int64) (f52 : Nat → Int32) (hf21 : f20 0 = some q22) (h30 : (0 : Int32) ≤ x2) (h31 : x2 < 4) (h32 : (0 : Int32) ≤ x3) (h33 : x3 ≤ 40000000) (sz : Nat) : vx_Met l yX9_noteOn [Cond.code yX9_noteOn cX9_noteOn 4 (some .int)] ({ frames := 6, cells := 1, slots := 6, locals := 100 } : Room) (va_Pc [.ref q1, .int x2, .int x3] (PZ g sz [(q45, .inl (g.2 0, 300, .inl f52)), (q46, .inl (g.2 0, 8, .inl f52)), (q51, .inl (g.2 1, 300, .inr (.inl f49))), (q48, .inr (3, [.ref q51])), (q47, .inl (g.2 1, 300, .inr (.inl f49))), (q34, .inr (7, [w35, .ref q45, w37, .ref q46, .ref q47, .ref q48, w41, w42, w43, w44])), (q22, .inr (8, [w23, w24, w25, w26, .int 0, .int 4, w29])), (q19, .inl (g.2 3, 10, .inr (.inr (.inr (.inr f20))))), (q15, .inr (10, [.ref q19, .int 0, w18])), (q1, .inr (11, [.ref q15, w5, .ref q34, w7, w8, w9, w10, w11, .int 0, w13, w14]))])) NI (XW g [(q45, .inl (g.2 0, 300, .inl f52)), (q46, .inl (g.2 0, 8, .inl f52)), (q51, .inl (g.2 1, 300, .inr (.inl f49))), (q48, .inr (3, [.ref q51])), (q47, .inl (g.2 1, 300, .inr (.inl f49))), (q34, .inr (7, [w35, .ref q45, w37, .ref q46, .ref q47, .ref q48, w41, w42, w43, w44])), (q22, .inr (8, [w23, w24, w25, w26, .int 0, .int 4, w29])), (q19, .inl (g.2 3, 10, .inr (.inr (.inr (.inr f20))))), (q15, .inr (10, [.ref q19, .int 0, w18])), (q1, .inr (11, [.ref q15, w5, .ref q34, w7, w8, w9, w10, w11, .int 0, w13, w14]))] sz "java/util/NoSuchElementException" [(q1, .inr (11, [.ref q15, w5, .ref q34, w7, w8, w9, w10, w11, .int 1, w13, w14])), (q19, .inl (g.2 3, 10, .inr (.inr (.inr (.inr f20))))), (q15, .inr (10, [.ref q19, .int 0, w18])), (q22, .inr (8, [w23, w24, w25, w26, .int 0, .int 4, w29])), (q46, .inl (g.2 0, 8, .inl (fillF 8 (-1) f52))), (q45, .inl (g.2 0, 300, .inl (fillF 300 (-1) f52))), (q51, .inl (g.2 1, 300, .inr (.inl f49))), (q48, .inr (3, [.ref q51])), (q47, .inl (g.2 1, 300, .inr (.inl f49))), (q34, .inr (7, [w35, .ref q45, w37, .ref q46, .ref q47, .ref q48, .int 0, .int 0, .int 0, .int 0]))]) 1 6 (va_A [(q45, .inl (g.2 0, 300, .inl f52)), (q46, .inl (g.2 0, 8, .inl f52)), (q51, .inl (g.2 1, 300, .inr (.inl f49))), (q48, .inr (3, [.ref q51])), (q47, .inl (g.2 1, 300, .inr (.inl f49))), (q34, .inr (7, [w35, .ref q45, w37, .ref q46, .ref q47, .ref q48, w41, w42, w43, w44])), (q22, .inr (8, [w23, w24, w25, w26, .int 0, .int 4, w29])), (q19, .inl (g.2 3, 10, .inr (.inr (.inr (.inr f20))))), (q15, .inr (10, [.ref q19, .int 0, w18])), (q1, .inr (11, [.ref q15, w5, .ref q34, w7, w8, w9, w10, w11, .int 0, w13, w14]))] sz) := by
  refine ofX (by decide) (Nat.le_of_ble_eq_true rfl) rfl ?_
  intro p e s m args below meth c A ls hAe hsz hx hb hml hr hlocks hin hown hE hP hD hA hS hl hex hz
  have hown : s.vm.findClass RX9 = some m.cls := hown
  refine lv_aload_n hx hb dX9_noteOn_0 rfl (lv_at hl 0 rfl) ?_
  refine lv_iload_n hx hb dX9_noteOn_1 rfl (lv_at hl 1 rfl) ?_
  refine g_v (wr := [(q45, .inl (g.2 0, 300, .inl f52)), (q46, .inl (g.2 0, 8, .inl f52)), (q51, .inl (g.2 1, 300, .inr (.inl f49))), (q48, .inr (3, [.ref q51])), (q47, .inl (g.2 1, 300, .inr (.inl f49))), (q34, .inr (7, [w35, .ref q45, w37, .ref q46, .ref q47, .ref q48, w41, w42, w43, w44]))]) (rV (rest := []) hx hb hml hown hE hP hD 9 rfl rfl (c186_X9_requireVoice l g q1 q15 q19 q22 x2 w5 (.ref q34) w7 w8 w9 w10 w11 (.int 0) w13 w14 w18 w23 w24 w25 w26 (.int 0) w29 f20 (hf21) h30 h31 s.heap.size) (kV_X9_requireVoice hE (e1074 hE) rfl rfl ⟨(Nat.le_of_ble_eq_true rfl), (Nat.le_of_ble_eq_true rfl)⟩) [6, 7, 8, 9] rfl (by decide) rfl hl.1 rfl (lv_room (Nat.le_of_ble_eq_true rfl)) dX9_noteOn_2 ⟨(Nat.le_of_ble_eq_true rfl), (Nat.le_of_ble_eq_true rfl)⟩) hP hD hS hA [6, 7, 8, 9] [0, 1, 2, 3, 4, 5] rfl rfl (by decide) (by decide) (fun u1 H locs hP hD hS => ?_)
  have hP : va_P g.1 vwCl [(q45, .inl (g.2 0, 300, .inl f52)), (q46, .inl (g.2 0, 8, .inl f52)), (q51, .inl (g.2 1, 300, .inr (.inl f49))), (q48, .inr (3, [.ref q51])), (q47, .inl (g.2 1, 300, .inr (.inl f49))), (q34, .inr (7, [w35, .ref q45, w37, .ref q46, .ref q47, .ref q48, w41, w42, w43, w44])), (q22, .inr (8, [w23, w24, w25, w26, .int 0, .int 4, w29])), (q1, .inr (11, [.ref q15, w5, .ref q34, w7, w8, w9, w10, w11, .int 0, w13, w14])), (q19, .inl (g.2 3, 10, .inr (.inr (.inr (.inr f20))))), (q15, .inr (10, [.ref q19, .int 0, w18]))] H := hP
  have hD : va_D A [(q45, .inl (g.2 0, 300, .inl f52)), (q46, .inl (g.2 0, 8, .inl f52)), (q51, .inl (g.2 1, 300, .inr (.inl f49))), (q48, .inr (3, [.ref q51])), (q47, .inl (g.2 1, 300, .inr (.inl f49))), (q34, .inr (7, [w35, .ref q45, w37, .ref q46, .ref q47, .ref q48, w41, w42, w43, w44])), (q22, .inr (8, [w23, w24, w25, w26, .int 0, .int 4, w29])), (q1, .inr (11, [.ref q15, w5, .ref q34, w7, w8, w9, w10, w11, .int 0, w13, w14])), (q19, .inl (g.2 3, 10, .inr (.inr (.inr (.inr f20))))), (q15, .inr (10, [.ref q19, .int 0, w18]))] := hD
  refine lv_iload_n hx hb dX9_noteOn_5 rfl (lv_at hl 2 rfl) ?_
  refine g0_v (rS (rest := []) hx hb hml hown hE hP hD (c77_X9_requireTime l g x3 h32 h33 H.size) (kS_X9_requireTime hE (e975 hE) rfl rfl ⟨(Nat.le_of_ble_eq_true rfl), (Nat.le_of_ble_eq_true rfl)⟩) [] rfl (by decide) rfl hl.1 rfl (lv_room (Nat.le_of_ble_eq_true rfl)) dX9_noteOn_6 ⟨(Nat.le_of_ble_eq_true rfl), (Nat.le_of_ble_eq_true rfl)⟩) hP hD hS hA (fun u9 H locs hP hS => ?_)
  refine lv_aload_n hx hb dX9_noteOn_9 rfl (lv_at hl 0 rfl) ?_
  refine g_r (wr := []) (rV (rest := []) hx hb hml hown hE hP hD 7 rfl rfl (c148_X9_upToDateScore l g q1 q15 q19 q22 q34 q48 q47 q51 q46 q45 w5 w7 w8 w9 w10 w11 w13 w14 w18 w35 w37 w41 w42 w43 w44 w23 w24 w25 w26 (.int 4) w29 f20 f49 f52 (hf21) H.size) (kV_X9_upToDateScore hE (e318 hE) rfl rfl ⟨(Nat.le_of_ble_eq_true rfl), (Nat.le_of_ble_eq_true rfl)⟩) [0, 1, 2, 3, 4, 6, 5, 8, 9, 7] rfl (by decide) rfl hl.1 rfl (lv_room (Nat.le_of_ble_eq_true rfl)) dX9_noteOn_10 ⟨(Nat.le_of_ble_eq_true rfl), (Nat.le_of_ble_eq_true rfl)⟩) hP hD hS hA [0, 1, 2, 3, 4, 6, 5, 8, 9, 7] [] rfl rfl (by decide) (by decide) (fun u3 H locs hP hD hS => ?_)
  have hP : va_P g.1 vwCl [(q1, .inr (11, [.ref q15, w5, .ref q34, w7, w8, w9, w10, w11, .int 1, w13, w14])), (q19, .inl (g.2 3, 10, .inr (.inr (.inr (.inr f20))))), (q15, .inr (10, [.ref q19, .int 0, w18])), (q22, .inr (8, [w23, w24, w25, w26, .int 0, .int 4, w29])), (q34, .inr (7, [w35, .ref q45, w37, .ref q46, .ref q47, .ref q48, .int 0, .int 0, .int 0, .int 0])), (q46, .inl (g.2 0, 8, .inl (fillF 8 (-1) f52))), (q45, .inl (g.2 0, 300, .inl (fillF 300 (-1) f52))), (q51, .inl (g.2 1, 300, .inr (.inl f49))), (q48, .inr (3, [.ref q51])), (q47, .inl (g.2 1, 300, .inr (.inl f49)))] H := hP
  have hD : va_D A [(q1, .inr (11, [.ref q15, w5, .ref q34, w7, w8, w9, w10, w11, .int 1, w13, w14])), (q19, .inl (g.2 3, 10, .inr (.inr (.inr (.inr f20))))), (q15, .inr (10, [.ref q19, .int 0, w18])), (q22, .inr (8, [w23, w24, w25, w26, .int 0, .int 4, w29])), (q34, .inr (7, [w35, .ref q45, w37, .ref q46, .ref q47, .ref q48, .int 0, .int 0, .int 0, .int 0])), (q46, .inl (g.2 0, 8, .inl (fillF 8 (-1) f52))), (q45, .inl (g.2 0, 300, .inl (fillF 300 (-1) f52))), (q51, .inl (g.2 1, 300, .inr (.inl f49))), (q48, .inr (3, [.ref q51])), (q47, .inl (g.2 1, 300, .inr (.inl f49)))] := hD
  refine lv_iload_n hx hb dX9_noteOn_13 rfl (lv_at hl 1 rfl) ?_
  refine lv_iload_n hx hb dX9_noteOn_14 rfl (lv_at hl 2 rfl) ?_
  refine g_i (wr := [(q1, .inr (11, [.ref q15, w5, .ref q34, w7, w8, w9, w10, w11, .int 1, w13, w14])), (q19, .inl (g.2 3, 10, .inr (.inr (.inr (.inr f20))))), (q15, .inr (10, [.ref q19, .int 0, w18])), (q22, .inr (8, [w23, w24, w25, w26, .int 0, .int 4, w29])), (q46, .inl (g.2 0, 8, .inl (fillF 8 (-1) f52))), (q45, .inl (g.2 0, 300, .inl (fillF 300 (-1) f52))), (q51, .inl (g.2 1, 300, .inr (.inl f49))), (q48, .inr (3, [.ref q51])), (q47, .inl (g.2 1, 300, .inr (.inl f49)))]) (rV (rest := []) hx hb hml hown hE hP hD 4 rfl rfl (c192_X5_noteWith l g q34 x2 x3 w35 (.ref q45) w37 (.ref q46) (.ref q47) (.ref q48) (.int 0) (.int 0) (.int 0) H.size) (kV_X5_noteWith hE (e1078 hE) rfl rfl ⟨(Nat.le_of_ble_eq_true rfl), (Nat.le_of_ble_eq_true rfl)⟩) [4] rfl (by decide) rfl hl.1 rfl (lv_room (Nat.le_of_ble_eq_true rfl)) dX9_noteOn_15 ⟨(Nat.le_of_ble_eq_true rfl), (Nat.le_of_ble_eq_true rfl)⟩) hP hD hS hA [4] [0, 1, 2, 3, 5, 6, 7, 8, 9] rfl rfl (by decide) (by decide) (fun u4 H locs hP hD hS => ?_)
  have hP : va_P g.1 vwCl [(q1, .inr (11, [.ref q15, w5, .ref q34, w7, w8, w9, w10, w11, .int 1, w13, w14])), (q19, .inl (g.2 3, 10, .inr (.inr (.inr (.inr f20))))), (q15, .inr (10, [.ref q19, .int 0, w18])), (q22, .inr (8, [w23, w24, w25, w26, .int 0, .int 4, w29])), (q46, .inl (g.2 0, 8, .inl (fillF 8 (-1) f52))), (q45, .inl (g.2 0, 300, .inl (fillF 300 (-1) f52))), (q51, .inl (g.2 1, 300, .inr (.inl f49))), (q48, .inr (3, [.ref q51])), (q47, .inl (g.2 1, 300, .inr (.inl f49))), (q34, .inr (7, [w35, .ref q45, w37, .ref q46, .ref q47, .ref q48, .int 0, .int 0, .int 0, .int 0]))] H := hP
  have hD : va_D A [(q1, .inr (11, [.ref q15, w5, .ref q34, w7, w8, w9, w10, w11, .int 1, w13, w14])), (q19, .inl (g.2 3, 10, .inr (.inr (.inr (.inr f20))))), (q15, .inr (10, [.ref q19, .int 0, w18])), (q22, .inr (8, [w23, w24, w25, w26, .int 0, .int 4, w29])), (q46, .inl (g.2 0, 8, .inl (fillF 8 (-1) f52))), (q45, .inl (g.2 0, 300, .inl (fillF 300 (-1) f52))), (q51, .inl (g.2 1, 300, .inr (.inl f49))), (q48, .inr (3, [.ref q51])), (q47, .inl (g.2 1, 300, .inr (.inl f49))), (q34, .inr (7, [w35, .ref q45, w37, .ref q46, .ref q47, .ref q48, .int 0, .int 0, .int 0, .int 0]))] := hD
  refine lv_istore_n (lv' := [(3, .int (-1)), (0, .ref q1), (1, .int x2), (2, .int x3)]) hx hb dX9_noteOn_18 rfl hl (by decide) rfl (fun ls hl => ?_)
  refine lv_iload_n hx hb dX9_noteOn_19 rfl (lv_at hl 0 rfl) ?_
  refine lv_iconst (v := (-1)) hx hb dX9_noteOn_20 (by decide) ?_
  refine lv_icmp_ne (tgt := 35) hx hb dX9_noteOn_21 (by decide) (fun h => absurd h (by decide)) (fun _ => ?_)
  exact x_throwNW (text := "the voice has no note that sounds then") hx hb hlx hown hE (e783 hE) (e23 hE) (by decide +kernel) hz (by rw [hml]; exact hl.1) dX9_noteOn_24 dX9_noteOn_27 dX9_noteOn_28 dX9_noteOn_31 dX9_noteOn_34 hex (Nat.le_of_ble_eq_true rfl) (Nat.le_of_ble_eq_true rfl) (Nat.le_of_ble_eq_true rfl) (Nat.le_of_ble_eq_true rfl) hlocks hP hD hS hAe hsz (Nat.le_of_ble_eq_true rfl) (Nat.le_of_ble_eq_true rfl) [0, 1, 2, 3, 4, 5, 6, 7, 8, 9] (by decide) rfl

set_option maxHeartbeats 4000000 in
set_option maxRecDepth 100000 in
theorem c194_L_noteOn (l : Launch) (g : gG) (hlx : l.stackTraces = false) (q1 q4 q16 q20 q23 q35 q46 q47 q48 q49 q52 : Nat) (x2 x3 : Int32) (w6 w8 w9 w10 w11 w12 w14 w15 w19 w24 w25 w26 w27 w30 w36 w38 w42 w43 w44 w45 : Value) (f21 : Nat → Option Nat) (f50 : Nat → Int64) (f53 : Nat → Int32) (hf22 : f21 0 = some q23) (h31 : (0 : Int32) ≤ x2) (h32 : x2 < 4) (h33 : (0 : Int32) ≤ x3) (h34 : x3 ≤ 40000000) (sz : Nat) : Met l yL_noteOn [Cond.codeWith yL_noteOn cL_noteOn 5 (some .int) [(0, 10, 13, 13), (0, 10, 17, 15), (0, 10, 21, 39)]] ({ frames := 7, cells := 1, slots := 6, locals := 123 } : Room) (va_Pc [.ref q1, .int x2, .int x3, .ref q4] (PZ g sz [(q46, .inl (g.2 0, 300, .inl f53)), (q47, .inl (g.2 0, 8, .inl f53)), (q52, .inl (g.2 1, 300, .inr (.inl f50))), (q49, .inr (3, [.ref q52])), (q48, .inl (g.2 1, 300, .inr (.inl f50))), (q35, .inr (7, [w36, .ref q46, w38, .ref q47, .ref q48, .ref q49, w42, w43, w44, w45])), (q23, .inr (8, [w24, w25, w26, w27, .int 0, .int 4, w30])), (q20, .inl (g.2 3, 10, .inr (.inr (.inr (.inr f21))))), (q16, .inr (10, [.ref q20, .int 0, w19])), (q1, .inr (11, [.ref q16, w6, .ref q35, w8, w9, w10, w11, w12, .int 0, w14, w15]))])) (QI g [(q46, .inl (g.2 0, 300, .inl f53)), (q47, .inl (g.2 0, 8, .inl f53)), (q52, .inl (g.2 1, 300, .inr (.inl f50))), (q49, .inr (3, [.ref q52])), (q48, .inl (g.2 1, 300, .inr (.inl f50))), (q35, .inr (7, [w36, .ref q46, w38, .ref q47, .ref q48, .ref q49, w42, w43, w44, w45])), (q23, .inr (8, [w24, w25, w26, w27, .int 0, .int 4, w30])), (q20, .inl (g.2 3, 10, .inr (.inr (.inr (.inr f21))))), (q16, .inr (10, [.ref q20, .int 0, w19])), (q1, .inr (11, [.ref q16, w6, .ref q35, w8, w9, w10, w11, w12, .int 0, w14, w15]))] sz 3 (fun _ => [])) 1 6 (va_A [(q46, .inl (g.2 0, 300, .inl f53)), (q47, .inl (g.2 0, 8, .inl f53)), (q52, .inl (g.2 1, 300, .inr (.inl f50))), (q49, .inr (3, [.ref q52])), (q48, .inl (g.2 1, 300, .inr (.inl f50))), (q35, .inr (7, [w36, .ref q46, w38, .ref q47, .ref q48, .ref q49, w42, w43, w44, w45])), (q23, .inr (8, [w24, w25, w26, w27, .int 0, .int 4, w30])), (q20, .inl (g.2 3, 10, .inr (.inr (.inr (.inr f21))))), (q16, .inr (10, [.ref q20, .int 0, w19])), (q1, .inr (11, [.ref q16, w6, .ref q35, w8, w9, w10, w11, w12, .int 0, w14, w15]))] sz) := by
  refine ofH (by decide) (Nat.le_of_ble_eq_true rfl) rfl ?_
  intro p e s m args below meth c A ls hAe hsz hx hb hml hr hlocks hin hown hE hP hD hA hS hl htb hz
  have hown : s.vm.findClass RL = some m.cls := hown
  refine lv_aload_n hx hb dL_noteOn_0 rfl (lv_at hl 3 rfl) ?_
  refine lv_iconst (v := 0) hx hb dL_noteOn_1 (by decide) ?_
  refine lv_aload_n hx hb dL_noteOn_2 rfl (lv_at hl 0 rfl) ?_
  refine lv_iload_n hx hb dL_noteOn_3 rfl (lv_at hl 1 rfl) ?_
  refine lv_iload_n hx hb dL_noteOn_4 rfl (lv_at hl 2 rfl) ?_
  refine gx_i (wr := []) (rVx (rest := [.int 0, .ref q4]) hx hb hml hown hE hP hD hS hA hz 9 rfl rfl (c193_X9_noteOn l g hlx q1 q16 q20 q23 q35 q46 q47 q48 q49 q52 x2 x3 w6 w8 w9 w10 w11 w12 w14 w15 w19 w24 w25 w26 w27 w30 w36 w38 w42 w43 w44 w45 f21 f50 f53 (hf22) h31 h32 h33 h34 s.heap.size) (kV_X9_noteOn hE (e1070 hE) rfl rfl ⟨(Nat.le_of_ble_eq_true rfl), (Nat.le_of_ble_eq_true rfl)⟩) [0, 1, 2, 3, 4, 5, 6, 7, 8, 9] rfl (by decide) rfl hl.1 rfl (lv_room (Nat.le_of_ble_eq_true rfl)) dL_noteOn_5 ⟨(Nat.le_of_ble_eq_true rfl), (Nat.le_of_ble_eq_true rfl)⟩) hP hD hS hA [0, 1, 2, 3, 4, 5, 6, 7, 8, 9] [] rfl rfl (by decide) (by decide) (fun ce9 q9 H locs hP hD hS hq1 hq2 hq3 => ?_)
  have hP : va_P g.1 vwCl [(q1, .inr (11, [.ref q16, w6, .ref q35, w8, w9, w10, w11, w12, .int 1, w14, w15])), (q20, .inl (g.2 3, 10, .inr (.inr (.inr (.inr f21))))), (q16, .inr (10, [.ref q20, .int 0, w19])), (q23, .inr (8, [w24, w25, w26, w27, .int 0, .int 4, w30])), (q47, .inl (g.2 0, 8, .inl (fillF 8 (-1) f53))), (q46, .inl (g.2 0, 300, .inl (fillF 300 (-1) f53))), (q52, .inl (g.2 1, 300, .inr (.inl f50))), (q49, .inr (3, [.ref q52])), (q48, .inl (g.2 1, 300, .inr (.inl f50))), (q35, .inr (7, [w36, .ref q46, w38, .ref q47, .ref q48, .ref q49, .int 0, .int 0, .int 0, .int 0]))] H := hP
  have hD : va_D A [(q1, .inr (11, [.ref q16, w6, .ref q35, w8, w9, w10, w11, w12, .int 1, w14, w15])), (q20, .inl (g.2 3, 10, .inr (.inr (.inr (.inr f21))))), (q16, .inr (10, [.ref q20, .int 0, w19])), (q23, .inr (8, [w24, w25, w26, w27, .int 0, .int 4, w30])), (q47, .inl (g.2 0, 8, .inl (fillF 8 (-1) f53))), (q46, .inl (g.2 0, 300, .inl (fillF 300 (-1) f53))), (q52, .inl (g.2 1, 300, .inr (.inl f50))), (q49, .inr (3, [.ref q52])), (q48, .inl (g.2 1, 300, .inr (.inl f50))), (q35, .inr (7, [w36, .ref q46, w38, .ref q47, .ref q48, .ref q49, .int 0, .int 0, .int 0, .int 0]))] := hD
  refine x_catch (name := "java/util/NoSuchElementException") (hh := [(0, 10, 13, 13), (0, 10, 17, 15), (0, 10, 21, 39)]) (tgt := 21) hown htb [⟨0, 10, 13, 13⟩, ⟨0, 10, 17, 15⟩] ⟨0, 10, 21, 39⟩ [] rfl (fun z hz => by
    rcases List.mem_cons.mp hz with rfl | hz
    · exact Or.inr ⟨by decide, "java/lang/IndexOutOfBoundsException", e532 hE, hE.2.2.2.2.2 ("java/util/NoSuchElementException", "java/lang/IndexOutOfBoundsException") (by decide +kernel)⟩
    rcases List.mem_cons.mp hz with rfl | hz
    · exact Or.inr ⟨by decide, "java/lang/IllegalArgumentException", e611 hE, hE.2.2.2.2.2 ("java/util/NoSuchElementException", "java/lang/IllegalArgumentException") (by decide +kernel)⟩
    exact nomatch hz) rfl (by decide) (e777 hE) (e785 hE) hq1 hq2 hq3 rfl ?_
  refine lv_astore (lv' := [(4, .ref q9), (0, .ref q1), (1, .int x2), (2, .int x3), (3, .ref q4)]) hx hb dL_noteOn_21 hl (by decide) rfl (fun ls hl => ?_)
  refine lv_iconst (v := 3) hx hb dL_noteOn_23 (by decide) ?_
  exact x_zret hx hb hr rfl rfl hlocks hP hD hS hAe hsz (Nat.le_of_ble_eq_true rfl) (Nat.le_of_ble_eq_true rfl) (fun _ => 0) [] (by decide) rfl dL_noteOn_24

set_option maxHeartbeats 4000000 in
set_option maxRecDepth 100000 in
theorem c195_X10_refuse (l : Launch) (g : gG) (q1 : Nat) (w2 w3 w4 w5 w6 w7 w8 w9 w10 w11 w12 w13 w14 w15 w16 w17 w18 w19 w20 w21 w22 w23 w24 w25 w26 w27 w28 w29 w30 w31 w32 w33 w34 w35 w36 w37 w38 : Value) (sz : Nat) : Met l yX10_refuse [Cond.code yX10_refuse cX10_refuse 2 (some .int)] ({ frames := 0, cells := 0, slots := 0, locals := 0 } : Room) (va_Pc [.ref q1, .int 3] (PX g sz [(q1, .inr (12, [w2, w3, w4, w5, w6, w7, w8, w9, w10, w11, w12, w13, w14, w15, w16, w17, w18, w19, w20, w21, w22, w23, w24, w25, w26, w27, w28, w29, w30, w31, w32, w33, w34, w35, w36, w37, w38]))])) (QI g [(q1, .inr (12, [w2, w3, w4, w5, w6, w7, w8, w9, w10, w11, w12, w13, w14, w15, w16, w17, w18, w19, w20, w21, w22, w23, w24, w25, w26, w27, w28, w29, w30, w31, w32, w33, w34, w35, w36, w37, w38]))] sz 0 (fun _ => [(q1, .inr (12, [w2, w3, w4, w5, w6, w7, .int 3, w9, w10, w11, w12, w13, w14, w15, w16, w17, w18, w19, w20, w21, w22, w23, w24, w25, w26, w27, w28, w29, w30, w31, w32, w33, w34, w35, w36, w37, w38]))])) 0 0 (va_A [(q1, .inr (12, [w2, w3, w4, w5, w6, w7, w8, w9, w10, w11, w12, w13, w14, w15, w16, w17, w18, w19, w20, w21, w22, w23, w24, w25, w26, w27, w28, w29, w30, w31, w32, w33, w34, w35, w36, w37, w38]))] sz) := by
  refine ofN (by decide) (Nat.le_of_ble_eq_true rfl) rfl ?_
  intro p e s m args below meth c A ls hAe hsz hx hb hml hr hlocks hin hown hE hP hD hA hS hl
  have hown : s.vm.findClass RX10 = some m.cls := hown
  refine lv_aload_n hx hb dX10_refuse_0 rfl (lv_at hl 0 rfl) ?_
  refine lv_iload_n hx hb dX10_refuse_1 rfl (lv_at hl 1 rfl) ?_
  refine pf_RX10_86 (ws' := [(q1, .inr (12, [w2, w3, w4, w5, w6, w7, .int 3, w9, w10, w11, w12, w13, w14, w15, w16, w17, w18, w19, w20, w21, w22, w23, w24, w25, w26, w27, w28, w29, w30, w31, w32, w33, w34, w35, w36, w37, w38]))]) hx hb hown hE hP hD hS 0 rfl rfl rfl (Nat.le_of_ble_eq_true rfl) dX10_refuse_2 rfl (fun H locs hP hD hS => ?_)
  refine lv_iconst (v := 0) hx hb dX10_refuse_5 (by decide) ?_
  exact x_zret hx hb hr rfl rfl hlocks hP hD hS hAe hsz (Nat.le_of_ble_eq_true rfl) (Nat.le_of_ble_eq_true rfl) (fun _ => 0) [0] (by decide) rfl dX10_refuse_6

set_option maxHeartbeats 4000000 in
set_option maxRecDepth 100000 in
theorem c196_X10_noteOn (l : Launch) (g : gG) (q1 q41 q48 q49 q50 : Nat) (x2 x3 : Int32) (w5 w6 w7 w8 w9 w10 w13 w14 w15 w16 w17 w18 w19 w20 w21 w22 w23 w24 w25 w26 w27 w28 w30 w31 w32 w33 w34 w35 w36 w37 w38 w39 w40 : Value) (f42 : Nat → Int32) (f60 : Nat → Int32) (hf43 : f42 495 = 4) (hf51 : f42 0 = 0) (hf52 : f42 49 = 0) (hf53 : f42 98 = 0) (hf54 : f42 147 = 0) (hf55 : f42 196 = 0) (hf56 : f42 245 = 0) (hf57 : f42 294 = 0) (hf58 : f42 343 = 0) (hf59 : f42 392 = 0) (hf61 : f60 0 = 0) (hf62 : f60 1 = 0) (hf63 : f60 2 = 0) (hf64 : f60 3 = 0) (hf65 : f60 4 = 0) (hf66 : f60 5 = 0) (hf67 : f60 6 = 0) (hf68 : f60 7 = 0) (h44 : (0 : Int32) ≤ x2) (h45 : x2 ≤ 3) (h46 : (0 : Int32) ≤ x3) (h47 : x3 ≤ 40000000) (sz : Nat) : Met l yX10_noteOn [Cond.code yX10_noteOn cX10_noteOn 4 (some .int)] ({ frames := 4, cells := 0, slots := 0, locals := 89 } : Room) (va_Pc [.ref q1, .int x2, .int x3] (PX g sz [(q50, .inl (g.2 0, 8, .inl f60)), (q49, .inl (g.2 0, 8, .inl f60)), (q48, .inl (g.2 0, 8, .inl f60)), (q41, .inl (g.2 0, 497, .inl f42)), (q1, .inr (12, [.ref q41, w5, w6, w7, w8, w9, w10, .ref q48, .ref q49, w13, w14, w15, w16, w17, w18, w19, w20, w21, w22, w23, w24, w25, w26, w27, w28, .ref q50, w30, w31, w32, w33, w34, w35, w36, w37, w38, w39, w40]))])) (QI g [(q50, .inl (g.2 0, 8, .inl f60)), (q49, .inl (g.2 0, 8, .inl f60)), (q48, .inl (g.2 0, 8, .inl f60)), (q41, .inl (g.2 0, 497, .inl f42)), (q1, .inr (12, [.ref q41, w5, w6, w7, w8, w9, w10, .ref q48, .ref q49, w13, w14, w15, w16, w17, w18, w19, w20, w21, w22, w23, w24, w25, w26, w27, w28, .ref q50, w30, w31, w32, w33, w34, w35, w36, w37, w38, w39, w40]))] sz 0 (fun _ => [(q1, .inr (12, [.ref q41, w5, w6, w7, w8, w9, .int 3, .ref q48, .ref q49, w13, w14, w15, w16, w17, .int 0, w19, w20, w21, w22, w23, w24, w25, w26, w27, w28, .ref q50, w30, w31, w32, w33, w34, w35, w36, w37, w38, w39, w40]))])) 0 0 (va_A [(q50, .inl (g.2 0, 8, .inl f60)), (q49, .inl (g.2 0, 8, .inl f60)), (q48, .inl (g.2 0, 8, .inl f60)), (q41, .inl (g.2 0, 497, .inl f42)), (q1, .inr (12, [.ref q41, w5, w6, w7, w8, w9, w10, .ref q48, .ref q49, w13, w14, w15, w16, w17, w18, w19, w20, w21, w22, w23, w24, w25, w26, w27, w28, .ref q50, w30, w31, w32, w33, w34, w35, w36, w37, w38, w39, w40]))] sz) := by
  refine ofN (by decide) (Nat.le_of_ble_eq_true rfl) rfl ?_
  intro p e s m args below meth c A ls hAe hsz hx hb hml hr hlocks hin hown hE hP hD hA hS hl
  have hown : s.vm.findClass RX10 = some m.cls := hown
  refine lv_aload_n hx hb dX10_noteOn_0 rfl (lv_at hl 0 rfl) ?_
  refine lv_aload_n hx hb dX10_noteOn_1 rfl (lv_at hl 0 rfl) ?_
  refine lv_iload_n hx hb dX10_noteOn_2 rfl (lv_at hl 1 rfl) ?_
  refine g_i (wr := [(q50, .inl (g.2 0, 8, .inl f60)), (q49, .inl (g.2 0, 8, .inl f60)), (q48, .inl (g.2 0, 8, .inl f60))]) (rV (rest := [.ref q1]) hx hb hml hown hE hP hD 4 rfl rfl (c190_X10_isVoice l g q1 q41 x2 w5 w6 w7 w8 w9 w10 (.ref q48) (.ref q49) w13 w14 w15 w16 w17 w18 w19 w20 w21 w22 w23 w24 w25 w26 w27 w28 (.ref q50) w30 w31 w32 w33 w34 w35 w36 w37 w38 w39 w40 f42 (hf43) h44 h45 s.heap.size) (kV_X10_isVoice hE (e1684 hE) rfl rfl ⟨(Nat.le_of_ble_eq_true rfl), (Nat.le_of_ble_eq_true rfl)⟩) [3, 4] rfl (by decide) rfl hl.1 rfl (lv_room (Nat.le_of_ble_eq_true rfl)) dX10_noteOn_3 ⟨(Nat.le_of_ble_eq_true rfl), (Nat.le_of_ble_eq_true rfl)⟩) hP hD hS hA [3, 4] [0, 1, 2] rfl rfl (by decide) (by decide) (fun u1 H locs hP hD hS => ?_)
  have hP : va_P g.1 vwCl [(q50, .inl (g.2 0, 8, .inl f60)), (q49, .inl (g.2 0, 8, .inl f60)), (q48, .inl (g.2 0, 8, .inl f60)), (q41, .inl (g.2 0, 497, .inl f42)), (q1, .inr (12, [.ref q41, w5, w6, w7, w8, w9, w10, .ref q48, .ref q49, w13, w14, w15, w16, w17, w18, w19, w20, w21, w22, w23, w24, w25, w26, w27, w28, .ref q50, w30, w31, w32, w33, w34, w35, w36, w37, w38, w39, w40]))] H := hP
  have hD : va_D A [(q50, .inl (g.2 0, 8, .inl f60)), (q49, .inl (g.2 0, 8, .inl f60)), (q48, .inl (g.2 0, 8, .inl f60)), (q41, .inl (g.2 0, 497, .inl f42)), (q1, .inr (12, [.ref q41, w5, w6, w7, w8, w9, w10, .ref q48, .ref q49, w13, w14, w15, w16, w17, w18, w19, w20, w21, w22, w23, w24, w25, w26, w27, w28, .ref q50, w30, w31, w32, w33, w34, w35, w36, w37, w38, w39, w40]))] := hD
  refine lv_if_ne (tgt := 13) hx hb dX10_noteOn_6 (by decide) (fun _ => ?_) (fun h => absurd (by decide) h)
  refine lv_iload_n hx hb dX10_noteOn_13 rfl (lv_at hl 2 rfl) ?_
  refine lv_iconst (v := 0) hx hb dX10_noteOn_14 (by decide) ?_
  refine lv_ldc (v := 40000000) hx hb hown (e1640 hE) dX10_noteOn_15 ?_
  refine g0_i (rS (rest := [.ref q1]) hx hb hml hown hE hP hD (c85_X10_in l g x3 h46 h47 H.size) (kS_X10_in hE (e1431 hE) rfl rfl ⟨(Nat.le_of_ble_eq_true rfl), (Nat.le_of_ble_eq_true rfl)⟩) [] rfl (by decide) rfl hl.1 rfl (lv_room (Nat.le_of_ble_eq_true rfl)) dX10_noteOn_17 ⟨(Nat.le_of_ble_eq_true rfl), (Nat.le_of_ble_eq_true rfl)⟩) hP hD hS hA (fun u9 H locs hP hS => ?_)
  refine lv_if_ne (tgt := 27) hx hb dX10_noteOn_20 (by decide) (fun _ => ?_) (fun h => absurd (by decide) h)
  refine lv_iconst (v := 0) hx hb dX10_noteOn_27 (by decide) ?_
  refine pf_RX10_86 (ws' := [(q50, .inl (g.2 0, 8, .inl f60)), (q49, .inl (g.2 0, 8, .inl f60)), (q48, .inl (g.2 0, 8, .inl f60)), (q41, .inl (g.2 0, 497, .inl f42)), (q1, .inr (12, [.ref q41, w5, w6, w7, w8, w9, .int 0, .ref q48, .ref q49, w13, w14, w15, w16, w17, w18, w19, w20, w21, w22, w23, w24, w25, w26, w27, w28, .ref q50, w30, w31, w32, w33, w34, w35, w36, w37, w38, w39, w40]))]) hx hb hown hE hP hD hS 4 rfl rfl rfl (Nat.le_of_ble_eq_true rfl) dX10_noteOn_28 rfl (fun H locs hP hD hS => ?_)
  refine lv_aload_n hx hb dX10_noteOn_31 rfl (lv_at hl 0 rfl) ?_
  refine gf_RX10_86 hx hb hown hE hP 4 rfl rfl dX10_noteOn_32 ?_
  refine lv_if_le (tgt := 40) hx hb dX10_noteOn_35 (by decide) (fun _ => ?_) (fun h => absurd (by decide) h)
  refine lv_aload_n hx hb dX10_noteOn_40 rfl (lv_at hl 0 rfl) ?_
  refine g_v (wr := []) (rV (rest := []) hx hb hml hown hE hP hD 4 rfl rfl (c173_X10_layNotes l g q1 q41 q48 q49 q50 w5 w6 w7 w8 w9 (.int 0) w13 w14 w15 w16 w17 w18 w19 w20 w21 w22 w23 w24 w25 w26 w27 w28 w30 w31 w32 w33 w34 w35 w36 w37 w38 w39 w40 f42 f60 (hf51) (hf61) (hf52) (hf62) (hf53) (hf63) (hf54) (hf64) (hf55) (hf65) (hf56) (hf66) (hf57) (hf67) (hf58) (hf68) (hf59) H.size) (kV_X10_layNotes hE (e1543 hE) rfl rfl ⟨(Nat.le_of_ble_eq_true rfl), (Nat.le_of_ble_eq_true rfl)⟩) [0, 1, 2, 3, 4] rfl (by decide) rfl hl.1 rfl (lv_room (Nat.le_of_ble_eq_true rfl)) dX10_noteOn_41 ⟨(Nat.le_of_ble_eq_true rfl), (Nat.le_of_ble_eq_true rfl)⟩) hP hD hS hA [0, 1, 2, 3, 4] [] rfl rfl (by decide) (by decide) (fun u3 H locs hP hD hS => ?_)
  have hP : va_P g.1 vwCl [(q49, .inl (g.2 0, 8, .inl f60)), (q48, .inl (g.2 0, 8, .inl f60)), (q41, .inl (g.2 0, 497, .inl f42)), (q50, .inl (g.2 0, 8, .inl (upd (upd (upd (upd (upd (upd (upd (upd f60 0 (-1)) 1 (-1)) 2 (-1)) 3 (-1)) 4 (-1)) 5 (-1)) 6 (-1)) 7 (-1)))), (q1, .inr (12, [.ref q41, w5, w6, w7, w8, w9, .int 0, .ref q48, .ref q49, w13, w14, w15, w16, w17, .int 0, w19, w20, w21, w22, w23, w24, w25, w26, w27, w28, .ref q50, w30, w31, w32, w33, w34, w35, w36, w37, w38, w39, w40]))] H := hP
  have hD : va_D A [(q49, .inl (g.2 0, 8, .inl f60)), (q48, .inl (g.2 0, 8, .inl f60)), (q41, .inl (g.2 0, 497, .inl f42)), (q50, .inl (g.2 0, 8, .inl (upd (upd (upd (upd (upd (upd (upd (upd f60 0 (-1)) 1 (-1)) 2 (-1)) 3 (-1)) 4 (-1)) 5 (-1)) 6 (-1)) 7 (-1)))), (q1, .inr (12, [.ref q41, w5, w6, w7, w8, w9, .int 0, .ref q48, .ref q49, w13, w14, w15, w16, w17, .int 0, w19, w20, w21, w22, w23, w24, w25, w26, w27, w28, .ref q50, w30, w31, w32, w33, w34, w35, w36, w37, w38, w39, w40]))] := hD
  refine lv_iconst (v := 0) hx hb dX10_noteOn_44 (by decide) ?_
  refine lv_istore_n (lv' := [(3, .int 0), (0, .ref q1), (1, .int x2), (2, .int x3)]) hx hb dX10_noteOn_45 rfl hl (by decide) rfl (fun ls hl => ?_)
  refine lv_iload_n hx hb dX10_noteOn_46 rfl (lv_at hl 0 rfl) ?_
  refine lv_aload_n hx hb dX10_noteOn_47 rfl (lv_at hl 1 rfl) ?_
  refine gf_RX10_176 hx hb hown hE hP 4 rfl rfl dX10_noteOn_48 ?_
  refine lv_icmp_ge (tgt := 81) hx hb dX10_noteOn_51 (by decide) (fun _ => ?_) (fun h => absurd (by decide) h)
  refine lv_aload_n hx hb dX10_noteOn_81 rfl (lv_at hl 1 rfl) ?_
  refine lv_iconst (v := 3) hx hb dX10_noteOn_82 (by decide) ?_
  refine g_i (wr := [(q49, .inl (g.2 0, 8, .inl f60)), (q48, .inl (g.2 0, 8, .inl f60)), (q41, .inl (g.2 0, 497, .inl f42)), (q50, .inl (g.2 0, 8, .inl (upd (upd (upd (upd (upd (upd (upd (upd f60 0 (-1)) 1 (-1)) 2 (-1)) 3 (-1)) 4 (-1)) 5 (-1)) 6 (-1)) 7 (-1))))]) (rV (rest := []) hx hb hml hown hE hP hD 4 rfl rfl (c195_X10_refuse l g q1 (.ref q41) w5 w6 w7 w8 w9 (.int 0) (.ref q48) (.ref q49) w13 w14 w15 w16 w17 (.int 0) w19 w20 w21 w22 w23 w24 w25 w26 w27 w28 (.ref q50) w30 w31 w32 w33 w34 w35 w36 w37 w38 w39 w40 H.size) (kV_X10_refuse hE (e1474 hE) rfl rfl ⟨(Nat.le_of_ble_eq_true rfl), (Nat.le_of_ble_eq_true rfl)⟩) [4] rfl (by decide) rfl hl.1 rfl (lv_room (Nat.le_of_ble_eq_true rfl)) dX10_noteOn_83 ⟨(Nat.le_of_ble_eq_true rfl), (Nat.le_of_ble_eq_true rfl)⟩) hP hD hS hA [4] [0, 1, 2, 3] rfl rfl (by decide) (by decide) (fun u4 H locs hP hD hS => ?_)
  have hP : va_P g.1 vwCl [(q49, .inl (g.2 0, 8, .inl f60)), (q48, .inl (g.2 0, 8, .inl f60)), (q41, .inl (g.2 0, 497, .inl f42)), (q50, .inl (g.2 0, 8, .inl (upd (upd (upd (upd (upd (upd (upd (upd f60 0 (-1)) 1 (-1)) 2 (-1)) 3 (-1)) 4 (-1)) 5 (-1)) 6 (-1)) 7 (-1)))), (q1, .inr (12, [.ref q41, w5, w6, w7, w8, w9, .int 3, .ref q48, .ref q49, w13, w14, w15, w16, w17, .int 0, w19, w20, w21, w22, w23, w24, w25, w26, w27, w28, .ref q50, w30, w31, w32, w33, w34, w35, w36, w37, w38, w39, w40]))] H := hP
  have hD : va_D A [(q49, .inl (g.2 0, 8, .inl f60)), (q48, .inl (g.2 0, 8, .inl f60)), (q41, .inl (g.2 0, 497, .inl f42)), (q50, .inl (g.2 0, 8, .inl (upd (upd (upd (upd (upd (upd (upd (upd f60 0 (-1)) 1 (-1)) 2 (-1)) 3 (-1)) 4 (-1)) 5 (-1)) 6 (-1)) 7 (-1)))), (q1, .inr (12, [.ref q41, w5, w6, w7, w8, w9, .int 3, .ref q48, .ref q49, w13, w14, w15, w16, w17, .int 0, w19, w20, w21, w22, w23, w24, w25, w26, w27, w28, .ref q50, w30, w31, w32, w33, w34, w35, w36, w37, w38, w39, w40]))] := hD
  exact x_zret hx hb hr rfl rfl hlocks hP hD hS hAe hsz (Nat.le_of_ble_eq_true rfl) (Nat.le_of_ble_eq_true rfl) (fun _ => 0) [4] (by decide) rfl dX10_noteOn_86

set_option maxHeartbeats 4000000 in
set_option maxRecDepth 100000 in
theorem c197_X9_noteOn (l : Launch) (g : gG) (hlx : l.stackTraces = false) (q1 q15 q19 q22 : Nat) (x2 x3 : Int32) (w5 w6 w7 w8 w9 w10 w11 w12 w13 w14 w18 w23 w24 w25 w26 w27 w29 : Value) (f20 : Nat → Option Nat) (hf21 : f20 0 = some q22) (h30 : (0 : Int32) ≤ x2) (h31 : x2 < 4) (h32 : (0 : Int32) ≤ x3) (h33 : (40000000 : Int32) < x3) (sz : Nat) : vx_Met l yX9_noteOn [Cond.code yX9_noteOn cX9_noteOn 4 (some .int)] ({ frames := 8, cells := 1, slots := 6, locals := 142 } : Room) (va_Pc [.ref q1, .int x2, .int x3] (PZ g sz [(q22, .inr (8, [w23, w24, w25, w26, w27, .int 4, w29])), (q19, .inl (g.2 3, 10, .inr (.inr (.inr (.inr f20))))), (q15, .inr (10, [.ref q19, .int 0, w18])), (q1, .inr (11, [.ref q15, w5, w6, w7, w8, w9, w10, w11, w12, w13, w14]))])) NI (XW g [(q22, .inr (8, [w23, w24, w25, w26, w27, .int 4, w29])), (q19, .inl (g.2 3, 10, .inr (.inr (.inr (.inr f20))))), (q15, .inr (10, [.ref q19, .int 0, w18])), (q1, .inr (11, [.ref q15, w5, w6, w7, w8, w9, w10, w11, w12, w13, w14]))] sz "java/lang/IllegalArgumentException" [(q22, .inr (8, [w23, w24, w25, w26, w27, .int 4, w29])), (q1, .inr (11, [.ref q15, w5, w6, w7, w8, w9, w10, w11, w12, w13, w14])), (q19, .inl (g.2 3, 10, .inr (.inr (.inr (.inr f20))))), (q15, .inr (10, [.ref q19, .int 0, w18]))]) 1 6 (va_A [(q22, .inr (8, [w23, w24, w25, w26, w27, .int 4, w29])), (q19, .inl (g.2 3, 10, .inr (.inr (.inr (.inr f20))))), (q15, .inr (10, [.ref q19, .int 0, w18])), (q1, .inr (11, [.ref q15, w5, w6, w7, w8, w9, w10, w11, w12, w13, w14]))] sz) := by
  refine ofX (by decide) (Nat.le_of_ble_eq_true rfl) rfl ?_
  intro p e s m args below meth c A ls hAe hsz hx hb hml hr hlocks hin hown hE hP hD hA hS hl hex hz
  have hown : s.vm.findClass RX9 = some m.cls := hown
  refine lv_aload_n hx hb dX9_noteOn_0 rfl (lv_at hl 0 rfl) ?_
  refine lv_iload_n hx hb dX9_noteOn_1 rfl (lv_at hl 1 rfl) ?_
  refine g_v (wr := []) (rV (rest := []) hx hb hml hown hE hP hD 3 rfl rfl (c186_X9_requireVoice l g q1 q15 q19 q22 x2 w5 w6 w7 w8 w9 w10 w11 w12 w13 w14 w18 w23 w24 w25 w26 w27 w29 f20 (hf21) h30 h31 s.heap.size) (kV_X9_requireVoice hE (e1074 hE) rfl rfl ⟨(Nat.le_of_ble_eq_true rfl), (Nat.le_of_ble_eq_true rfl)⟩) [0, 1, 2, 3] rfl (by decide) rfl hl.1 rfl (lv_room (Nat.le_of_ble_eq_true rfl)) dX9_noteOn_2 ⟨(Nat.le_of_ble_eq_true rfl), (Nat.le_of_ble_eq_true rfl)⟩) hP hD hS hA [0, 1, 2, 3] [] rfl rfl (by decide) (by decide) (fun u1 H locs hP hD hS => ?_)
  have hP : va_P g.1 vwCl [(q22, .inr (8, [w23, w24, w25, w26, w27, .int 4, w29])), (q1, .inr (11, [.ref q15, w5, w6, w7, w8, w9, w10, w11, w12, w13, w14])), (q19, .inl (g.2 3, 10, .inr (.inr (.inr (.inr f20))))), (q15, .inr (10, [.ref q19, .int 0, w18]))] H := hP
  have hD : va_D A [(q22, .inr (8, [w23, w24, w25, w26, w27, .int 4, w29])), (q1, .inr (11, [.ref q15, w5, w6, w7, w8, w9, w10, w11, w12, w13, w14])), (q19, .inl (g.2 3, 10, .inr (.inr (.inr (.inr f20))))), (q15, .inr (10, [.ref q19, .int 0, w18]))] := hD
  refine lv_iload_n hx hb dX9_noteOn_5 rfl (lv_at hl 2 rfl) ?_
  refine gx_v (wr := [(q22, .inr (8, [w23, w24, w25, w26, w27, .int 4, w29])), (q1, .inr (11, [.ref q15, w5, w6, w7, w8, w9, w10, w11, w12, w13, w14])), (q19, .inl (g.2 3, 10, .inr (.inr (.inr (.inr f20))))), (q15, .inr (10, [.ref q19, .int 0, w18]))]) (rSx (rest := []) hx hb hml hown hE hP hD hS hA hz (c93_X9_requireTime l g hlx x3 h32 h33 H.size) (kS_X9_requireTime hE (e975 hE) rfl rfl ⟨(Nat.le_of_ble_eq_true rfl), (Nat.le_of_ble_eq_true rfl)⟩) [] rfl (by decide) rfl hl.1 rfl (lv_room (Nat.le_of_ble_eq_true rfl)) dX9_noteOn_6 ⟨(Nat.le_of_ble_eq_true rfl), (Nat.le_of_ble_eq_true rfl)⟩) hP hD hS hA [] [0, 1, 2, 3] rfl rfl (by decide) (by decide) (fun ce9 q9 H locs hP hD hS hq1 hq2 hq3 => ?_)
  exact x_out hex hlocks hq1 hq2 hq3 hP hD hS hAe hsz (Nat.le_of_ble_eq_true rfl) (Nat.le_of_ble_eq_true rfl) [0, 1, 2, 3] (by decide) rfl

set_option maxHeartbeats 4000000 in
set_option maxRecDepth 100000 in
theorem c198_L_noteOn (l : Launch) (g : gG) (hlx : l.stackTraces = false) (q1 q4 q16 q20 q23 q34 q45 q46 q47 q48 q51 : Nat) (x2 x3 : Int32) (w6 w8 w9 w10 w11 w12 w14 w15 w19 w24 w25 w26 w27 w30 w35 w37 w41 w42 w43 w44 : Value) (f21 : Nat → Option Nat) (f49 : Nat → Int64) (f52 : Nat → Int32) (hf22 : f21 0 = some q23) (h31 : (0 : Int32) ≤ x2) (h32 : x2 < 4) (h33 : (0 : Int32) ≤ x3) (h53 : (40000000 : Int32) < x3) (sz : Nat) : Met l yL_noteOn [Cond.codeWith yL_noteOn cL_noteOn 5 (some .int) [(0, 10, 13, 13), (0, 10, 17, 15), (0, 10, 21, 39)]] ({ frames := 9, cells := 1, slots := 6, locals := 165 } : Room) (va_Pc [.ref q1, .int x2, .int x3, .ref q4] (PZ g sz [(q45, .inl (g.2 0, 300, .inl f52)), (q46, .inl (g.2 0, 8, .inl f52)), (q51, .inl (g.2 1, 300, .inr (.inl f49))), (q48, .inr (3, [.ref q51])), (q47, .inl (g.2 1, 300, .inr (.inl f49))), (q34, .inr (7, [w35, .ref q45, w37, .ref q46, .ref q47, .ref q48, w41, w42, w43, w44])), (q23, .inr (8, [w24, w25, w26, w27, .int 0, .int 4, w30])), (q20, .inl (g.2 3, 10, .inr (.inr (.inr (.inr f21))))), (q16, .inr (10, [.ref q20, .int 0, w19])), (q1, .inr (11, [.ref q16, w6, .ref q34, w8, w9, w10, w11, w12, .int 0, w14, w15]))])) (QI g [(q45, .inl (g.2 0, 300, .inl f52)), (q46, .inl (g.2 0, 8, .inl f52)), (q51, .inl (g.2 1, 300, .inr (.inl f49))), (q48, .inr (3, [.ref q51])), (q47, .inl (g.2 1, 300, .inr (.inl f49))), (q34, .inr (7, [w35, .ref q45, w37, .ref q46, .ref q47, .ref q48, w41, w42, w43, w44])), (q23, .inr (8, [w24, w25, w26, w27, .int 0, .int 4, w30])), (q20, .inl (g.2 3, 10, .inr (.inr (.inr (.inr f21))))), (q16, .inr (10, [.ref q20, .int 0, w19])), (q1, .inr (11, [.ref q16, w6, .ref q34, w8, w9, w10, w11, w12, .int 0, w14, w15]))] sz 2 (fun _ => [])) 1 6 (va_A [(q45, .inl (g.2 0, 300, .inl f52)), (q46, .inl (g.2 0, 8, .inl f52)), (q51, .inl (g.2 1, 300, .inr (.inl f49))), (q48, .inr (3, [.ref q51])), (q47, .inl (g.2 1, 300, .inr (.inl f49))), (q34, .inr (7, [w35, .ref q45, w37, .ref q46, .ref q47, .ref q48, w41, w42, w43, w44])), (q23, .inr (8, [w24, w25, w26, w27, .int 0, .int 4, w30])), (q20, .inl (g.2 3, 10, .inr (.inr (.inr (.inr f21))))), (q16, .inr (10, [.ref q20, .int 0, w19])), (q1, .inr (11, [.ref q16, w6, .ref q34, w8, w9, w10, w11, w12, .int 0, w14, w15]))] sz) := by
  refine ofH (by decide) (Nat.le_of_ble_eq_true rfl) rfl ?_
  intro p e s m args below meth c A ls hAe hsz hx hb hml hr hlocks hin hown hE hP hD hA hS hl htb hz
  have hown : s.vm.findClass RL = some m.cls := hown
  refine lv_aload_n hx hb dL_noteOn_0 rfl (lv_at hl 3 rfl) ?_
  refine lv_iconst (v := 0) hx hb dL_noteOn_1 (by decide) ?_
  refine lv_aload_n hx hb dL_noteOn_2 rfl (lv_at hl 0 rfl) ?_
  refine lv_iload_n hx hb dL_noteOn_3 rfl (lv_at hl 1 rfl) ?_
  refine lv_iload_n hx hb dL_noteOn_4 rfl (lv_at hl 2 rfl) ?_
  refine gx_i (wr := [(q45, .inl (g.2 0, 300, .inl f52)), (q46, .inl (g.2 0, 8, .inl f52)), (q51, .inl (g.2 1, 300, .inr (.inl f49))), (q48, .inr (3, [.ref q51])), (q47, .inl (g.2 1, 300, .inr (.inl f49))), (q34, .inr (7, [w35, .ref q45, w37, .ref q46, .ref q47, .ref q48, w41, w42, w43, w44]))]) (rVx (rest := [.int 0, .ref q4]) hx hb hml hown hE hP hD hS hA hz 9 rfl rfl (c197_X9_noteOn l g hlx q1 q16 q20 q23 x2 x3 w6 (.ref q34) w8 w9 w10 w11 w12 (.int 0) w14 w15 w19 w24 w25 w26 w27 (.int 0) w30 f21 (hf22) h31 h32 h33 h53 s.heap.size) (kV_X9_noteOn hE (e1070 hE) rfl rfl ⟨(Nat.le_of_ble_eq_true rfl), (Nat.le_of_ble_eq_true rfl)⟩) [6, 7, 8, 9] rfl (by decide) rfl hl.1 rfl (lv_room (Nat.le_of_ble_eq_true rfl)) dL_noteOn_5 ⟨(Nat.le_of_ble_eq_true rfl), (Nat.le_of_ble_eq_true rfl)⟩) hP hD hS hA [6, 7, 8, 9] [0, 1, 2, 3, 4, 5] rfl rfl (by decide) (by decide) (fun ce9 q9 H locs hP hD hS hq1 hq2 hq3 => ?_)
  have hP : va_P g.1 vwCl [(q45, .inl (g.2 0, 300, .inl f52)), (q46, .inl (g.2 0, 8, .inl f52)), (q51, .inl (g.2 1, 300, .inr (.inl f49))), (q48, .inr (3, [.ref q51])), (q47, .inl (g.2 1, 300, .inr (.inl f49))), (q34, .inr (7, [w35, .ref q45, w37, .ref q46, .ref q47, .ref q48, w41, w42, w43, w44])), (q23, .inr (8, [w24, w25, w26, w27, .int 0, .int 4, w30])), (q1, .inr (11, [.ref q16, w6, .ref q34, w8, w9, w10, w11, w12, .int 0, w14, w15])), (q20, .inl (g.2 3, 10, .inr (.inr (.inr (.inr f21))))), (q16, .inr (10, [.ref q20, .int 0, w19]))] H := hP
  have hD : va_D A [(q45, .inl (g.2 0, 300, .inl f52)), (q46, .inl (g.2 0, 8, .inl f52)), (q51, .inl (g.2 1, 300, .inr (.inl f49))), (q48, .inr (3, [.ref q51])), (q47, .inl (g.2 1, 300, .inr (.inl f49))), (q34, .inr (7, [w35, .ref q45, w37, .ref q46, .ref q47, .ref q48, w41, w42, w43, w44])), (q23, .inr (8, [w24, w25, w26, w27, .int 0, .int 4, w30])), (q1, .inr (11, [.ref q16, w6, .ref q34, w8, w9, w10, w11, w12, .int 0, w14, w15])), (q20, .inl (g.2 3, 10, .inr (.inr (.inr (.inr f21))))), (q16, .inr (10, [.ref q20, .int 0, w19]))] := hD
  refine x_catch (name := "java/lang/IllegalArgumentException") (hh := [(0, 10, 13, 13), (0, 10, 17, 15), (0, 10, 21, 39)]) (tgt := 17) hown htb [⟨0, 10, 13, 13⟩] ⟨0, 10, 17, 15⟩ [⟨0, 10, 21, 39⟩] rfl (fun z hz => by
    rcases List.mem_cons.mp hz with rfl | hz
    · exact Or.inr ⟨by decide, "java/lang/IndexOutOfBoundsException", e532 hE, hE.2.2.2.2.2 ("java/lang/IllegalArgumentException", "java/lang/IndexOutOfBoundsException") (by decide +kernel)⟩
    exact nomatch hz) rfl (by decide) (e611 hE) (e641 hE) hq1 hq2 hq3 rfl ?_
  refine lv_astore (lv' := [(4, .ref q9), (0, .ref q1), (1, .int x2), (2, .int x3), (3, .ref q4)]) hx hb dL_noteOn_17 hl (by decide) rfl (fun ls hl => ?_)
  refine lv_iconst (v := 2) hx hb dL_noteOn_19 (by decide) ?_
  exact x_zret hx hb hr rfl rfl hlocks hP hD hS hAe hsz (Nat.le_of_ble_eq_true rfl) (Nat.le_of_ble_eq_true rfl) (fun _ => 0) [] (by decide) rfl dL_noteOn_20

set_option maxHeartbeats 4000000 in
set_option maxRecDepth 100000 in
theorem c199_X10_noteOn (l : Launch) (g : gG) (q1 q41 : Nat) (x2 x3 : Int32) (w5 w6 w7 w8 w9 w10 w11 w12 w13 w14 w15 w16 w17 w18 w19 w20 w21 w22 w23 w24 w25 w26 w27 w28 w29 w30 w31 w32 w33 w34 w35 w36 w37 w38 w39 w40 : Value) (f42 : Nat → Int32) (hf43 : f42 495 = 4) (h44 : (0 : Int32) ≤ x2) (h45 : x2 ≤ 3) (h46 : (0 : Int32) ≤ x3) (h47 : (40000000 : Int32) < x3) (sz : Nat) : Met l yX10_noteOn [Cond.code yX10_noteOn cX10_noteOn 4 (some .int)] ({ frames := 2, cells := 0, slots := 0, locals := 43 } : Room) (va_Pc [.ref q1, .int x2, .int x3] (PX g sz [(q41, .inl (g.2 0, 497, .inl f42)), (q1, .inr (12, [.ref q41, w5, w6, w7, w8, w9, w10, w11, w12, w13, w14, w15, w16, w17, w18, w19, w20, w21, w22, w23, w24, w25, w26, w27, w28, w29, w30, w31, w32, w33, w34, w35, w36, w37, w38, w39, w40]))])) (QI g [(q41, .inl (g.2 0, 497, .inl f42)), (q1, .inr (12, [.ref q41, w5, w6, w7, w8, w9, w10, w11, w12, w13, w14, w15, w16, w17, w18, w19, w20, w21, w22, w23, w24, w25, w26, w27, w28, w29, w30, w31, w32, w33, w34, w35, w36, w37, w38, w39, w40]))] sz 0 (fun _ => [(q1, .inr (12, [.ref q41, w5, w6, w7, w8, w9, .int 2, w11, w12, w13, w14, w15, w16, w17, w18, w19, w20, w21, w22, w23, w24, w25, w26, w27, w28, w29, w30, w31, w32, w33, w34, w35, w36, w37, w38, w39, w40]))])) 0 0 (va_A [(q41, .inl (g.2 0, 497, .inl f42)), (q1, .inr (12, [.ref q41, w5, w6, w7, w8, w9, w10, w11, w12, w13, w14, w15, w16, w17, w18, w19, w20, w21, w22, w23, w24, w25, w26, w27, w28, w29, w30, w31, w32, w33, w34, w35, w36, w37, w38, w39, w40]))] sz) := by
  refine ofN (by decide) (Nat.le_of_ble_eq_true rfl) rfl ?_
  intro p e s m args below meth c A ls hAe hsz hx hb hml hr hlocks hin hown hE hP hD hA hS hl
  have hown : s.vm.findClass RX10 = some m.cls := hown
  refine lv_aload_n hx hb dX10_noteOn_0 rfl (lv_at hl 0 rfl) ?_
  refine lv_aload_n hx hb dX10_noteOn_1 rfl (lv_at hl 0 rfl) ?_
  refine lv_iload_n hx hb dX10_noteOn_2 rfl (lv_at hl 1 rfl) ?_
  refine g_i (wr := []) (rV (rest := [.ref q1]) hx hb hml hown hE hP hD 1 rfl rfl (c190_X10_isVoice l g q1 q41 x2 w5 w6 w7 w8 w9 w10 w11 w12 w13 w14 w15 w16 w17 w18 w19 w20 w21 w22 w23 w24 w25 w26 w27 w28 w29 w30 w31 w32 w33 w34 w35 w36 w37 w38 w39 w40 f42 (hf43) h44 h45 s.heap.size) (kV_X10_isVoice hE (e1684 hE) rfl rfl ⟨(Nat.le_of_ble_eq_true rfl), (Nat.le_of_ble_eq_true rfl)⟩) [0, 1] rfl (by decide) rfl hl.1 rfl (lv_room (Nat.le_of_ble_eq_true rfl)) dX10_noteOn_3 ⟨(Nat.le_of_ble_eq_true rfl), (Nat.le_of_ble_eq_true rfl)⟩) hP hD hS hA [0, 1] [] rfl rfl (by decide) (by decide) (fun u1 H locs hP hD hS => ?_)
  have hP : va_P g.1 vwCl [(q41, .inl (g.2 0, 497, .inl f42)), (q1, .inr (12, [.ref q41, w5, w6, w7, w8, w9, w10, w11, w12, w13, w14, w15, w16, w17, w18, w19, w20, w21, w22, w23, w24, w25, w26, w27, w28, w29, w30, w31, w32, w33, w34, w35, w36, w37, w38, w39, w40]))] H := hP
  have hD : va_D A [(q41, .inl (g.2 0, 497, .inl f42)), (q1, .inr (12, [.ref q41, w5, w6, w7, w8, w9, w10, w11, w12, w13, w14, w15, w16, w17, w18, w19, w20, w21, w22, w23, w24, w25, w26, w27, w28, w29, w30, w31, w32, w33, w34, w35, w36, w37, w38, w39, w40]))] := hD
  refine lv_if_ne (tgt := 13) hx hb dX10_noteOn_6 (by decide) (fun _ => ?_) (fun h => absurd (by decide) h)
  refine lv_iload_n hx hb dX10_noteOn_13 rfl (lv_at hl 2 rfl) ?_
  refine lv_iconst (v := 0) hx hb dX10_noteOn_14 (by decide) ?_
  refine lv_ldc (v := 40000000) hx hb hown (e1640 hE) dX10_noteOn_15 ?_
  refine g0_i (rS (rest := [.ref q1]) hx hb hml hown hE hP hD (c96_X10_in l g x3 h46 h47 H.size) (kS_X10_in hE (e1431 hE) rfl rfl ⟨(Nat.le_of_ble_eq_true rfl), (Nat.le_of_ble_eq_true rfl)⟩) [] rfl (by decide) rfl hl.1 rfl (lv_room (Nat.le_of_ble_eq_true rfl)) dX10_noteOn_17 ⟨(Nat.le_of_ble_eq_true rfl), (Nat.le_of_ble_eq_true rfl)⟩) hP hD hS hA (fun u9 H locs hP hS => ?_)
  refine lv_if_ne (tgt := 27) hx hb dX10_noteOn_20 (by decide) (fun h => absurd h (by decide)) (fun _ => ?_)
  refine lv_iconst (v := 2) hx hb dX10_noteOn_23 (by decide) ?_
  refine lv_goto (tgt := 28) hx hb dX10_noteOn_24 (by decide) ?_
  refine pf_RX10_86 (ws' := [(q41, .inl (g.2 0, 497, .inl f42)), (q1, .inr (12, [.ref q41, w5, w6, w7, w8, w9, .int 2, w11, w12, w13, w14, w15, w16, w17, w18, w19, w20, w21, w22, w23, w24, w25, w26, w27, w28, w29, w30, w31, w32, w33, w34, w35, w36, w37, w38, w39, w40]))]) hx hb hown hE hP hD hS 1 rfl rfl rfl (Nat.le_of_ble_eq_true rfl) dX10_noteOn_28 rfl (fun H locs hP hD hS => ?_)
  refine lv_aload_n hx hb dX10_noteOn_31 rfl (lv_at hl 0 rfl) ?_
  refine gf_RX10_86 hx hb hown hE hP 1 rfl rfl dX10_noteOn_32 ?_
  refine lv_if_le (tgt := 40) hx hb dX10_noteOn_35 (by decide) (fun h => absurd h (by decide)) (fun _ => ?_)
  refine lv_iconst (v := 0) hx hb dX10_noteOn_38 (by decide) ?_
  exact x_zret hx hb hr rfl rfl hlocks hP hD hS hAe hsz (Nat.le_of_ble_eq_true rfl) (Nat.le_of_ble_eq_true rfl) (fun _ => 0) [1] (by decide) rfl dX10_noteOn_39

set_option maxHeartbeats 4000000 in
set_option maxRecDepth 100000 in
theorem c200_X9_requireIndex (l : Launch) (g : gG) (hlx : l.stackTraces = false) (x1 : Int32) (h2 : (0 : Int32) ≤ x1) (h3 : (4 : Int32) ≤ x1) (sz : Nat) : vx_Met l yX9_requireIndex [Cond.code yX9_requireIndex cX9_requireIndex 2 none] ({ frames := 6, cells := 1, slots := 6, locals := 100 } : Room) (va_Pc [.int x1, .int 4] (PZ g sz [])) NV (XW g [] sz "java/lang/IndexOutOfBoundsException" []) 1 6 (va_A [] sz) := by
  refine ofX (by decide) (Nat.le_of_ble_eq_true rfl) rfl ?_
  intro p e s m args below meth c A ls hAe hsz hx hb hml hr hlocks hin hown hE hP hD hA hS hl hex hz
  have hown : s.vm.findClass RX9 = some m.cls := hown
  refine lv_iload_n hx hb dX9_requireIndex_0 rfl (lv_at hl 0 rfl) ?_
  refine lv_if_lt (tgt := 9) hx hb dX9_requireIndex_1 (by decide) (fun h => absurd h (i_nlt h2)) (fun _ => ?_)
  refine lv_iload_n hx hb dX9_requireIndex_4 rfl (lv_at hl 0 rfl) ?_
  refine lv_iload_n hx hb dX9_requireIndex_5 rfl (lv_at hl 1 rfl) ?_
  refine lv_icmp_lt (tgt := 20) hx hb dX9_requireIndex_6 (by decide) (fun h => absurd h (i_nlt h3)) (fun _ => ?_)
  exact x_throwW (text := "no such number") (names := ["java/lang/RuntimeException", "java/lang/Exception"]) hx hb hlx hown hE (by decide) (by decide) (e623 hE) (e17 hE) (by decide +kernel) (th_324 hE) tg_324_320 hz (by rw [hml]; exact hl.1) dX9_requireIndex_9 dX9_requireIndex_12 dX9_requireIndex_13 dX9_requireIndex_16 dX9_requireIndex_19 hex (Nat.le_of_ble_eq_true rfl) (Nat.le_of_ble_eq_true rfl) (Nat.le_of_ble_eq_true rfl) (Nat.le_of_ble_eq_true rfl) hlocks hP hD hS hAe hsz (Nat.le_of_ble_eq_true rfl) (Nat.le_of_ble_eq_true rfl) [] (by decide) rfl

set_option maxHeartbeats 4000000 in
set_option maxRecDepth 100000 in
theorem c201_X9_requireVoice (l : Launch) (g : gG) (hlx : l.stackTraces = false) (q1 q14 q18 q21 : Nat) (x2 : Int32) (w4 w5 w6 w7 w8 w9 w10 w11 w12 w13 w17 w22 w23 w24 w25 w26 w28 : Value) (f19 : Nat → Option Nat) (hf20 : f19 0 = some q21) (h29 : (0 : Int32) ≤ x2) (h30 : (4 : Int32) ≤ x2) (sz : Nat) : vx_Met l yX9_requireVoice [Cond.code yX9_requireVoice cX9_requireVoice 2 none] ({ frames := 7, cells := 1, slots := 6, locals := 121 } : Room) (va_Pc [.ref q1, .int x2] (PZ g sz [(q21, .inr (8, [w22, w23, w24, w25, w26, .int 4, w28])), (q18, .inl (g.2 3, 10, .inr (.inr (.inr (.inr f19))))), (q14, .inr (10, [.ref q18, .int 0, w17])), (q1, .inr (11, [.ref q14, w4, w5, w6, w7, w8, w9, w10, w11, w12, w13]))])) NV (XW g [(q21, .inr (8, [w22, w23, w24, w25, w26, .int 4, w28])), (q18, .inl (g.2 3, 10, .inr (.inr (.inr (.inr f19))))), (q14, .inr (10, [.ref q18, .int 0, w17])), (q1, .inr (11, [.ref q14, w4, w5, w6, w7, w8, w9, w10, w11, w12, w13]))] sz "java/lang/IndexOutOfBoundsException" [(q21, .inr (8, [w22, w23, w24, w25, w26, .int 4, w28])), (q1, .inr (11, [.ref q14, w4, w5, w6, w7, w8, w9, w10, w11, w12, w13])), (q18, .inl (g.2 3, 10, .inr (.inr (.inr (.inr f19))))), (q14, .inr (10, [.ref q18, .int 0, w17]))]) 1 6 (va_A [(q21, .inr (8, [w22, w23, w24, w25, w26, .int 4, w28])), (q18, .inl (g.2 3, 10, .inr (.inr (.inr (.inr f19))))), (q14, .inr (10, [.ref q18, .int 0, w17])), (q1, .inr (11, [.ref q14, w4, w5, w6, w7, w8, w9, w10, w11, w12, w13]))] sz) := by
  refine ofX (by decide) (Nat.le_of_ble_eq_true rfl) rfl ?_
  intro p e s m args below meth c A ls hAe hsz hx hb hml hr hlocks hin hown hE hP hD hA hS hl hex hz
  have hown : s.vm.findClass RX9 = some m.cls := hown
  refine lv_iload_n hx hb dX9_requireVoice_0 rfl (lv_at hl 1 rfl) ?_
  refine lv_aload_n hx hb dX9_requireVoice_1 rfl (lv_at hl 0 rfl) ?_
  refine gf_RX9_12 hx hb hown hE hP 3 rfl rfl dX9_requireVoice_2 ?_
  refine g_r (wr := [(q21, .inr (8, [w22, w23, w24, w25, w26, .int 4, w28])), (q1, .inr (11, [.ref q14, w4, w5, w6, w7, w8, w9, w10, w11, w12, w13]))]) (rV (rest := [.int x2]) hx hb hml hown hE hP hD 2 rfl rfl (c79_X8_current l g q14 q18 q21 w17 f19 (hf20) s.heap.size) (kV_X8_current hE (e290 hE) rfl rfl ⟨(Nat.le_of_ble_eq_true rfl), (Nat.le_of_ble_eq_true rfl)⟩) [1, 2] rfl (by decide) rfl hl.1 rfl (lv_room (Nat.le_of_ble_eq_true rfl)) dX9_requireVoice_5 ⟨(Nat.le_of_ble_eq_true rfl), (Nat.le_of_ble_eq_true rfl)⟩) hP hD hS hA [1, 2] [0, 3] rfl rfl (by decide) (by decide) (fun u1 H locs hP hD hS => ?_)
  have hP : va_P g.1 vwCl [(q21, .inr (8, [w22, w23, w24, w25, w26, .int 4, w28])), (q1, .inr (11, [.ref q14, w4, w5, w6, w7, w8, w9, w10, w11, w12, w13])), (q18, .inl (g.2 3, 10, .inr (.inr (.inr (.inr f19))))), (q14, .inr (10, [.ref q18, .int 0, w17]))] H := hP
  have hD : va_D A [(q21, .inr (8, [w22, w23, w24, w25, w26, .int 4, w28])), (q1, .inr (11, [.ref q14, w4, w5, w6, w7, w8, w9, w10, w11, w12, w13])), (q18, .inl (g.2 3, 10, .inr (.inr (.inr (.inr f19))))), (q14, .inr (10, [.ref q18, .int 0, w17]))] := hD
  refine gf_RX9_190 hx hb hown hE hP 0 rfl rfl dX9_requireVoice_8 ?_
  refine gx_v (wr := [(q21, .inr (8, [w22, w23, w24, w25, w26, .int 4, w28])), (q1, .inr (11, [.ref q14, w4, w5, w6, w7, w8, w9, w10, w11, w12, w13])), (q18, .inl (g.2 3, 10, .inr (.inr (.inr (.inr f19))))), (q14, .inr (10, [.ref q18, .int 0, w17]))]) (rSx (rest := []) hx hb hml hown hE hP hD hS hA hz (c200_X9_requireIndex l g hlx x2 h29 h30 H.size) (kS_X9_requireIndex hE (e620 hE) rfl rfl ⟨(Nat.le_of_ble_eq_true rfl), (Nat.le_of_ble_eq_true rfl)⟩) [] rfl (by decide) rfl hl.1 rfl (lv_room (Nat.le_of_ble_eq_true rfl)) dX9_requireVoice_11 ⟨(Nat.le_of_ble_eq_true rfl), (Nat.le_of_ble_eq_true rfl)⟩) hP hD hS hA [] [0, 1, 2, 3] rfl rfl (by decide) (by decide) (fun ce9 q9 H locs hP hD hS hq1 hq2 hq3 => ?_)
  exact x_out hex hlocks hq1 hq2 hq3 hP hD hS hAe hsz (Nat.le_of_ble_eq_true rfl) (Nat.le_of_ble_eq_true rfl) [0, 1, 2, 3] (by decide) rfl

set_option maxHeartbeats 4000000 in
set_option maxRecDepth 100000 in
theorem c202_X9_noteOn (l : Launch) (g : gG) (hlx : l.stackTraces = false) (q1 q15 q19 q22 : Nat) (x2 x3 : Int32) (w5 w6 w7 w8 w9 w10 w11 w12 w13 w14 w18 w23 w24 w25 w26 w27 w29 : Value) (f20 : Nat → Option Nat) (hf21 : f20 0 = some q22) (h30 : (0 : Int32) ≤ x2) (h31 : (4 : Int32) ≤ x2) (sz : Nat) : vx_Met l yX9_noteOn [Cond.code yX9_noteOn cX9_noteOn 4 (some .int)] ({ frames := 8, cells := 1, slots := 6, locals := 142 } : Room) (va_Pc [.ref q1, .int x2, .int x3] (PZ g sz [(q22, .inr (8, [w23, w24, w25, w26, w27, .int 4, w29])), (q19, .inl (g.2 3, 10, .inr (.inr (.inr (.inr f20))))), (q15, .inr (10, [.ref q19, .int 0, w18])), (q1, .inr (11, [.ref q15, w5, w6, w7, w8, w9, w10, w11, w12, w13, w14]))])) NI (XW g [(q22, .inr (8, [w23, w24, w25, w26, w27, .int 4, w29])), (q19, .inl (g.2 3, 10, .inr (.inr (.inr (.inr f20))))), (q15, .inr (10, [.ref q19, .int 0, w18])), (q1, .inr (11, [.ref q15, w5, w6, w7, w8, w9, w10, w11, w12, w13, w14]))] sz "java/lang/IndexOutOfBoundsException" [(q22, .inr (8, [w23, w24, w25, w26, w27, .int 4, w29])), (q1, .inr (11, [.ref q15, w5, w6, w7, w8, w9, w10, w11, w12, w13, w14])), (q19, .inl (g.2 3, 10, .inr (.inr (.inr (.inr f20))))), (q15, .inr (10, [.ref q19, .int 0, w18]))]) 1 6 (va_A [(q22, .inr (8, [w23, w24, w25, w26, w27, .int 4, w29])), (q19, .inl (g.2 3, 10, .inr (.inr (.inr (.inr f20))))), (q15, .inr (10, [.ref q19, .int 0, w18])), (q1, .inr (11, [.ref q15, w5, w6, w7, w8, w9, w10, w11, w12, w13, w14]))] sz) := by
  refine ofX (by decide) (Nat.le_of_ble_eq_true rfl) rfl ?_
  intro p e s m args below meth c A ls hAe hsz hx hb hml hr hlocks hin hown hE hP hD hA hS hl hex hz
  have hown : s.vm.findClass RX9 = some m.cls := hown
  refine lv_aload_n hx hb dX9_noteOn_0 rfl (lv_at hl 0 rfl) ?_
  refine lv_iload_n hx hb dX9_noteOn_1 rfl (lv_at hl 1 rfl) ?_
  refine gx_v (wr := []) (rVx (rest := []) hx hb hml hown hE hP hD hS hA hz 3 rfl rfl (c201_X9_requireVoice l g hlx q1 q15 q19 q22 x2 w5 w6 w7 w8 w9 w10 w11 w12 w13 w14 w18 w23 w24 w25 w26 w27 w29 f20 (hf21) h30 h31 s.heap.size) (kV_X9_requireVoice hE (e1074 hE) rfl rfl ⟨(Nat.le_of_ble_eq_true rfl), (Nat.le_of_ble_eq_true rfl)⟩) [0, 1, 2, 3] rfl (by decide) rfl hl.1 rfl (lv_room (Nat.le_of_ble_eq_true rfl)) dX9_noteOn_2 ⟨(Nat.le_of_ble_eq_true rfl), (Nat.le_of_ble_eq_true rfl)⟩) hP hD hS hA [0, 1, 2, 3] [] rfl rfl (by decide) (by decide) (fun ce9 q9 H locs hP hD hS hq1 hq2 hq3 => ?_)
  exact x_out hex hlocks hq1 hq2 hq3 hP hD hS hAe hsz (Nat.le_of_ble_eq_true rfl) (Nat.le_of_ble_eq_true rfl) [0, 1, 2, 3] (by decide) rfl

set_option maxHeartbeats 4000000 in
set_option maxRecDepth 100000 in
theorem c203_L_noteOn (l : Launch) (g : gG) (hlx : l.stackTraces = false) (q1 q4 q16 q20 q23 q33 q44 q45 q46 q47 q50 : Nat) (x2 x3 : Int32) (w6 w8 w9 w10 w11 w12 w14 w15 w19 w24 w25 w26 w27 w30 w34 w36 w40 w41 w42 w43 : Value) (f21 : Nat → Option Nat) (f48 : Nat → Int64) (f51 : Nat → Int32) (hf22 : f21 0 = some q23) (h31 : (0 : Int32) ≤ x2) (h32 : (4 : Int32) ≤ x2) (sz : Nat) : Met l yL_noteOn [Cond.codeWith yL_noteOn cL_noteOn 5 (some .int) [(0, 10, 13, 13), (0, 10, 17, 15), (0, 10, 21, 39)]] ({ frames := 9, cells := 1, slots := 6, locals := 165 } : Room) (va_Pc [.ref q1, .int x2, .int x3, .ref q4] (PZ g sz [(q44, .inl (g.2 0, 300, .inl f51)), (q45, .inl (g.2 0, 8, .inl f51)), (q50, .inl (g.2 1, 300, .inr (.inl f48))), (q47, .inr (3, [.ref q50])), (q46, .inl (g.2 1, 300, .inr (.inl f48))), (q33, .inr (7, [w34, .ref q44, w36, .ref q45, .ref q46, .ref q47, w40, w41, w42, w43])), (q23, .inr (8, [w24, w25, w26, w27, .int 0, .int 4, w30])), (q20, .inl (g.2 3, 10, .inr (.inr (.inr (.inr f21))))), (q16, .inr (10, [.ref q20, .int 0, w19])), (q1, .inr (11, [.ref q16, w6, .ref q33, w8, w9, w10, w11, w12, .int 0, w14, w15]))])) (QI g [(q44, .inl (g.2 0, 300, .inl f51)), (q45, .inl (g.2 0, 8, .inl f51)), (q50, .inl (g.2 1, 300, .inr (.inl f48))), (q47, .inr (3, [.ref q50])), (q46, .inl (g.2 1, 300, .inr (.inl f48))), (q33, .inr (7, [w34, .ref q44, w36, .ref q45, .ref q46, .ref q47, w40, w41, w42, w43])), (q23, .inr (8, [w24, w25, w26, w27, .int 0, .int 4, w30])), (q20, .inl (g.2 3, 10, .inr (.inr (.inr (.inr f21))))), (q16, .inr (10, [.ref q20, .int 0, w19])), (q1, .inr (11, [.ref q16, w6, .ref q33, w8, w9, w10, w11, w12, .int 0, w14, w15]))] sz 1 (fun _ => [])) 1 6 (va_A [(q44, .inl (g.2 0, 300, .inl f51)), (q45, .inl (g.2 0, 8, .inl f51)), (q50, .inl (g.2 1, 300, .inr (.inl f48))), (q47, .inr (3, [.ref q50])), (q46, .inl (g.2 1, 300, .inr (.inl f48))), (q33, .inr (7, [w34, .ref q44, w36, .ref q45, .ref q46, .ref q47, w40, w41, w42, w43])), (q23, .inr (8, [w24, w25, w26, w27, .int 0, .int 4, w30])), (q20, .inl (g.2 3, 10, .inr (.inr (.inr (.inr f21))))), (q16, .inr (10, [.ref q20, .int 0, w19])), (q1, .inr (11, [.ref q16, w6, .ref q33, w8, w9, w10, w11, w12, .int 0, w14, w15]))] sz) := by
  refine ofH (by decide) (Nat.le_of_ble_eq_true rfl) rfl ?_
  intro p e s m args below meth c A ls hAe hsz hx hb hml hr hlocks hin hown hE hP hD hA hS hl htb hz
  have hown : s.vm.findClass RL = some m.cls := hown
  refine lv_aload_n hx hb dL_noteOn_0 rfl (lv_at hl 3 rfl) ?_
  refine lv_iconst (v := 0) hx hb dL_noteOn_1 (by decide) ?_
  refine lv_aload_n hx hb dL_noteOn_2 rfl (lv_at hl 0 rfl) ?_
  refine lv_iload_n hx hb dL_noteOn_3 rfl (lv_at hl 1 rfl) ?_
  refine lv_iload_n hx hb dL_noteOn_4 rfl (lv_at hl 2 rfl) ?_
  refine gx_i (wr := [(q44, .inl (g.2 0, 300, .inl f51)), (q45, .inl (g.2 0, 8, .inl f51)), (q50, .inl (g.2 1, 300, .inr (.inl f48))), (q47, .inr (3, [.ref q50])), (q46, .inl (g.2 1, 300, .inr (.inl f48))), (q33, .inr (7, [w34, .ref q44, w36, .ref q45, .ref q46, .ref q47, w40, w41, w42, w43]))]) (rVx (rest := [.int 0, .ref q4]) hx hb hml hown hE hP hD hS hA hz 9 rfl rfl (c202_X9_noteOn l g hlx q1 q16 q20 q23 x2 x3 w6 (.ref q33) w8 w9 w10 w11 w12 (.int 0) w14 w15 w19 w24 w25 w26 w27 (.int 0) w30 f21 (hf22) h31 h32 s.heap.size) (kV_X9_noteOn hE (e1070 hE) rfl rfl ⟨(Nat.le_of_ble_eq_true rfl), (Nat.le_of_ble_eq_true rfl)⟩) [6, 7, 8, 9] rfl (by decide) rfl hl.1 rfl (lv_room (Nat.le_of_ble_eq_true rfl)) dL_noteOn_5 ⟨(Nat.le_of_ble_eq_true rfl), (Nat.le_of_ble_eq_true rfl)⟩) hP hD hS hA [6, 7, 8, 9] [0, 1, 2, 3, 4, 5] rfl rfl (by decide) (by decide) (fun ce9 q9 H locs hP hD hS hq1 hq2 hq3 => ?_)
  have hP : va_P g.1 vwCl [(q44, .inl (g.2 0, 300, .inl f51)), (q45, .inl (g.2 0, 8, .inl f51)), (q50, .inl (g.2 1, 300, .inr (.inl f48))), (q47, .inr (3, [.ref q50])), (q46, .inl (g.2 1, 300, .inr (.inl f48))), (q33, .inr (7, [w34, .ref q44, w36, .ref q45, .ref q46, .ref q47, w40, w41, w42, w43])), (q23, .inr (8, [w24, w25, w26, w27, .int 0, .int 4, w30])), (q1, .inr (11, [.ref q16, w6, .ref q33, w8, w9, w10, w11, w12, .int 0, w14, w15])), (q20, .inl (g.2 3, 10, .inr (.inr (.inr (.inr f21))))), (q16, .inr (10, [.ref q20, .int 0, w19]))] H := hP
  have hD : va_D A [(q44, .inl (g.2 0, 300, .inl f51)), (q45, .inl (g.2 0, 8, .inl f51)), (q50, .inl (g.2 1, 300, .inr (.inl f48))), (q47, .inr (3, [.ref q50])), (q46, .inl (g.2 1, 300, .inr (.inl f48))), (q33, .inr (7, [w34, .ref q44, w36, .ref q45, .ref q46, .ref q47, w40, w41, w42, w43])), (q23, .inr (8, [w24, w25, w26, w27, .int 0, .int 4, w30])), (q1, .inr (11, [.ref q16, w6, .ref q33, w8, w9, w10, w11, w12, .int 0, w14, w15])), (q20, .inl (g.2 3, 10, .inr (.inr (.inr (.inr f21))))), (q16, .inr (10, [.ref q20, .int 0, w19]))] := hD
  refine x_catch (name := "java/lang/IndexOutOfBoundsException") (hh := [(0, 10, 13, 13), (0, 10, 17, 15), (0, 10, 21, 39)]) (tgt := 13) hown htb [] ⟨0, 10, 13, 13⟩ [⟨0, 10, 17, 15⟩, ⟨0, 10, 21, 39⟩] rfl (fun _ h => nomatch h) rfl (by decide) (e532 hE) (e625 hE) hq1 hq2 hq3 rfl ?_
  refine lv_astore (lv' := [(4, .ref q9), (0, .ref q1), (1, .int x2), (2, .int x3), (3, .ref q4)]) hx hb dL_noteOn_13 hl (by decide) rfl (fun ls hl => ?_)
  refine lv_iconst (v := 1) hx hb dL_noteOn_15 (by decide) ?_
  exact x_zret hx hb hr rfl rfl hlocks hP hD hS hAe hsz (Nat.le_of_ble_eq_true rfl) (Nat.le_of_ble_eq_true rfl) (fun _ => 0) [] (by decide) rfl dL_noteOn_16

set_option maxHeartbeats 4000000 in
set_option maxRecDepth 100000 in
theorem c204_X10_in (l : Launch) (g : gG) (x1 : Int32) (h2 : (0 : Int32) ≤ x1) (h3 : (3 : Int32) < x1) (sz : Nat) : Met l yX10_in [Cond.code yX10_in cX10_in 3 (some .boolean)] ({ frames := 0, cells := 0, slots := 0, locals := 0 } : Room) (va_Pc [.int x1, .int 0, .int 3] (PX g sz [])) (QI g [] sz 0 (fun _ => [])) 0 0 (va_A [] sz) := by
  refine ofN (by decide) (Nat.le_of_ble_eq_true rfl) rfl ?_
  intro p e s m args below meth c A ls hAe hsz hx hb hml hr hlocks hin hown hE hP hD hA hS hl
  have hown : s.vm.findClass RX10 = some m.cls := hown
  refine lv_iload_n hx hb dX10_in_0 rfl (lv_at hl 0 rfl) ?_
  refine lv_iload_n hx hb dX10_in_1 rfl (lv_at hl 1 rfl) ?_
  refine lv_icmp_lt (tgt := 14) hx hb dX10_in_2 (by decide) (fun h => absurd h (i_nlt h2)) (fun _ => ?_)
  refine lv_iload_n hx hb dX10_in_5 rfl (lv_at hl 0 rfl) ?_
  refine lv_iload_n hx hb dX10_in_6 rfl (lv_at hl 2 rfl) ?_
  refine lv_icmp_gt (tgt := 14) hx hb dX10_in_7 (by decide) (fun _ => ?_) (fun h => absurd h3 h)
  refine lv_iconst (v := 0) hx hb dX10_in_14 (by decide) ?_
  exact x_zret hx hb hr rfl rfl hlocks hP hD hS hAe hsz (Nat.le_of_ble_eq_true rfl) (Nat.le_of_ble_eq_true rfl) (fun _ => 0) [] (by decide) rfl dX10_in_15

set_option maxHeartbeats 4000000 in
set_option maxRecDepth 100000 in
theorem c205_X10_isVoice (l : Launch) (g : gG) (q1 q40 : Nat) (x2 : Int32) (w4 w5 w6 w7 w8 w9 w10 w11 w12 w13 w14 w15 w16 w17 w18 w19 w20 w21 w22 w23 w24 w25 w26 w27 w28 w29 w30 w31 w32 w33 w34 w35 w36 w37 w38 w39 : Value) (f41 : Nat → Int32) (hf42 : f41 495 = 4) (h43 : (0 : Int32) ≤ x2) (h44 : (3 : Int32) < x2) (sz : Nat) : Met l yX10_isVoice [Cond.code yX10_isVoice cX10_isVoice 2 (some .boolean)] ({ frames := 1, cells := 0, slots := 0, locals := 22 } : Room) (va_Pc [.ref q1, .int x2] (PX g sz [(q40, .inl (g.2 0, 497, .inl f41)), (q1, .inr (12, [.ref q40, w4, w5, w6, w7, w8, w9, w10, w11, w12, w13, w14, w15, w16, w17, w18, w19, w20, w21, w22, w23, w24, w25, w26, w27, w28, w29, w30, w31, w32, w33, w34, w35, w36, w37, w38, w39]))])) (QI g [(q40, .inl (g.2 0, 497, .inl f41)), (q1, .inr (12, [.ref q40, w4, w5, w6, w7, w8, w9, w10, w11, w12, w13, w14, w15, w16, w17, w18, w19, w20, w21, w22, w23, w24, w25, w26, w27, w28, w29, w30, w31, w32, w33, w34, w35, w36, w37, w38, w39]))] sz 0 (fun _ => [(q40, .inl (g.2 0, 497, .inl f41)), (q1, .inr (12, [.ref q40, w4, w5, w6, w7, w8, w9, w10, w11, w12, w13, w14, w15, w16, w17, w18, w19, w20, w21, w22, w23, w24, w25, w26, w27, w28, w29, w30, w31, w32, w33, w34, w35, w36, w37, w38, w39]))])) 0 0 (va_A [(q40, .inl (g.2 0, 497, .inl f41)), (q1, .inr (12, [.ref q40, w4, w5, w6, w7, w8, w9, w10, w11, w12, w13, w14, w15, w16, w17, w18, w19, w20, w21, w22, w23, w24, w25, w26, w27, w28, w29, w30, w31, w32, w33, w34, w35, w36, w37, w38, w39]))] sz) := by
  refine ofN (by decide) (Nat.le_of_ble_eq_true rfl) rfl ?_
  intro p e s m args below meth c A ls hAe hsz hx hb hml hr hlocks hin hown hE hP hD hA hS hl
  have hown : s.vm.findClass RX10 = some m.cls := hown
  refine lv_iload_n hx hb dX10_isVoice_0 rfl (lv_at hl 1 rfl) ?_
  refine lv_iconst (v := 0) hx hb dX10_isVoice_1 (by decide) ?_
  refine lv_aload_n hx hb dX10_isVoice_2 rfl (lv_at hl 0 rfl) ?_
  refine gf_RX10_9 hx hb hown hE hP 1 rfl rfl dX10_isVoice_3 ?_
  refine lv_sipush (v := 495) hx hb dX10_isVoice_6 (by decide) ?_
  refine x_iald (v := 4) hx hb hE hP 0 rfl 495 (x_in (by decide)) (by decide) hf42 dX10_isVoice_9 ?_
  refine lv_iconst (v := 1) hx hb dX10_isVoice_10 (by decide) ?_
  refine x_isub (v := 3) hx hb dX10_isVoice_11 (by decide) ?_
  refine g0_i (rS (rest := []) hx hb hml hown hE hP hD (c204_X10_in l g x2 h43 h44 s.heap.size) (kS_X10_in hE (e1431 hE) rfl rfl ⟨(Nat.le_of_ble_eq_true rfl), (Nat.le_of_ble_eq_true rfl)⟩) [] rfl (by decide) rfl hl.1 rfl (lv_room (Nat.le_of_ble_eq_true rfl)) dX10_isVoice_12 ⟨(Nat.le_of_ble_eq_true rfl), (Nat.le_of_ble_eq_true rfl)⟩) hP hD hS hA (fun u9 H locs hP hS => ?_)
  exact x_zret hx hb hr rfl rfl hlocks hP hD hS hAe hsz (Nat.le_of_ble_eq_true rfl) (Nat.le_of_ble_eq_true rfl) (fun _ => 0) [0, 1] (by decide) rfl dX10_isVoice_15

set_option maxHeartbeats 4000000 in
set_option maxRecDepth 100000 in
theorem c206_X10_noteOn (l : Launch) (g : gG) (q1 q41 : Nat) (x2 x3 : Int32) (w5 w6 w7 w8 w9 w10 w11 w12 w13 w14 w15 w16 w17 w18 w19 w20 w21 w22 w23 w24 w25 w26 w27 w28 w29 w30 w31 w32 w33 w34 w35 w36 w37 w38 w39 w40 : Value) (f42 : Nat → Int32) (hf43 : f42 495 = 4) (h44 : (0 : Int32) ≤ x2) (h45 : (3 : Int32) < x2) (sz : Nat) : Met l yX10_noteOn [Cond.code yX10_noteOn cX10_noteOn 4 (some .int)] ({ frames := 2, cells := 0, slots := 0, locals := 43 } : Room) (va_Pc [.ref q1, .int x2, .int x3] (PX g sz [(q41, .inl (g.2 0, 497, .inl f42)), (q1, .inr (12, [.ref q41, w5, w6, w7, w8, w9, w10, w11, w12, w13, w14, w15, w16, w17, w18, w19, w20, w21, w22, w23, w24, w25, w26, w27, w28, w29, w30, w31, w32, w33, w34, w35, w36, w37, w38, w39, w40]))])) (QI g [(q41, .inl (g.2 0, 497, .inl f42)), (q1, .inr (12, [.ref q41, w5, w6, w7, w8, w9, w10, w11, w12, w13, w14, w15, w16, w17, w18, w19, w20, w21, w22, w23, w24, w25, w26, w27, w28, w29, w30, w31, w32, w33, w34, w35, w36, w37, w38, w39, w40]))] sz 0 (fun _ => [(q1, .inr (12, [.ref q41, w5, w6, w7, w8, w9, .int 1, w11, w12, w13, w14, w15, w16, w17, w18, w19, w20, w21, w22, w23, w24, w25, w26, w27, w28, w29, w30, w31, w32, w33, w34, w35, w36, w37, w38, w39, w40]))])) 0 0 (va_A [(q41, .inl (g.2 0, 497, .inl f42)), (q1, .inr (12, [.ref q41, w5, w6, w7, w8, w9, w10, w11, w12, w13, w14, w15, w16, w17, w18, w19, w20, w21, w22, w23, w24, w25, w26, w27, w28, w29, w30, w31, w32, w33, w34, w35, w36, w37, w38, w39, w40]))] sz) := by
  refine ofN (by decide) (Nat.le_of_ble_eq_true rfl) rfl ?_
  intro p e s m args below meth c A ls hAe hsz hx hb hml hr hlocks hin hown hE hP hD hA hS hl
  have hown : s.vm.findClass RX10 = some m.cls := hown
  refine lv_aload_n hx hb dX10_noteOn_0 rfl (lv_at hl 0 rfl) ?_
  refine lv_aload_n hx hb dX10_noteOn_1 rfl (lv_at hl 0 rfl) ?_
  refine lv_iload_n hx hb dX10_noteOn_2 rfl (lv_at hl 1 rfl) ?_
  refine g_i (wr := []) (rV (rest := [.ref q1]) hx hb hml hown hE hP hD 1 rfl rfl (c205_X10_isVoice l g q1 q41 x2 w5 w6 w7 w8 w9 w10 w11 w12 w13 w14 w15 w16 w17 w18 w19 w20 w21 w22 w23 w24 w25 w26 w27 w28 w29 w30 w31 w32 w33 w34 w35 w36 w37 w38 w39 w40 f42 (hf43) h44 h45 s.heap.size) (kV_X10_isVoice hE (e1684 hE) rfl rfl ⟨(Nat.le_of_ble_eq_true rfl), (Nat.le_of_ble_eq_true rfl)⟩) [0, 1] rfl (by decide) rfl hl.1 rfl (lv_room (Nat.le_of_ble_eq_true rfl)) dX10_noteOn_3 ⟨(Nat.le_of_ble_eq_true rfl), (Nat.le_of_ble_eq_true rfl)⟩) hP hD hS hA [0, 1] [] rfl rfl (by decide) (by decide) (fun u1 H locs hP hD hS => ?_)
  have hP : va_P g.1 vwCl [(q41, .inl (g.2 0, 497, .inl f42)), (q1, .inr (12, [.ref q41, w5, w6, w7, w8, w9, w10, w11, w12, w13, w14, w15, w16, w17, w18, w19, w20, w21, w22, w23, w24, w25, w26, w27, w28, w29, w30, w31, w32, w33, w34, w35, w36, w37, w38, w39, w40]))] H := hP
  have hD : va_D A [(q41, .inl (g.2 0, 497, .inl f42)), (q1, .inr (12, [.ref q41, w5, w6, w7, w8, w9, w10, w11, w12, w13, w14, w15, w16, w17, w18, w19, w20, w21, w22, w23, w24, w25, w26, w27, w28, w29, w30, w31, w32, w33, w34, w35, w36, w37, w38, w39, w40]))] := hD
  refine lv_if_ne (tgt := 13) hx hb dX10_noteOn_6 (by decide) (fun h => absurd h (by decide)) (fun _ => ?_)
  refine lv_iconst (v := 1) hx hb dX10_noteOn_9 (by decide) ?_
  refine lv_goto (tgt := 28) hx hb dX10_noteOn_10 (by decide) ?_
  refine pf_RX10_86 (ws' := [(q41, .inl (g.2 0, 497, .inl f42)), (q1, .inr (12, [.ref q41, w5, w6, w7, w8, w9, .int 1, w11, w12, w13, w14, w15, w16, w17, w18, w19, w20, w21, w22, w23, w24, w25, w26, w27, w28, w29, w30, w31, w32, w33, w34, w35, w36, w37, w38, w39, w40]))]) hx hb hown hE hP hD hS 1 rfl rfl rfl (Nat.le_of_ble_eq_true rfl) dX10_noteOn_28 rfl (fun H locs hP hD hS => ?_)
  refine lv_aload_n hx hb dX10_noteOn_31 rfl (lv_at hl 0 rfl) ?_
  refine gf_RX10_86 hx hb hown hE hP 1 rfl rfl dX10_noteOn_32 ?_
  refine lv_if_le (tgt := 40) hx hb dX10_noteOn_35 (by decide) (fun h => absurd h (by decide)) (fun _ => ?_)
  refine lv_iconst (v := 0) hx hb dX10_noteOn_38 (by decide) ?_
  exact x_zret hx hb hr rfl rfl hlocks hP hD hS hAe hsz (Nat.le_of_ble_eq_true rfl) (Nat.le_of_ble_eq_true rfl) (fun _ => 0) [1] (by decide) rfl dX10_noteOn_39

set_option maxHeartbeats 4000000 in
set_option maxRecDepth 100000 in
theorem c207_X9_requireRange (l : Launch) (g : gG) (hlx : l.stackTraces = false) (x1 : Int32) (h2 : x1 < 32) (sz : Nat) : vx_Met l yX9_requireRange [Cond.code yX9_requireRange cX9_requireRange 3 none] ({ frames := 6, cells := 1, slots := 6, locals := 100 } : Room) (va_Pc [.int x1, .int 32, .int 126] (PZ g sz [])) NV (XW g [] sz "java/lang/IllegalArgumentException" []) 1 6 (va_A [] sz) := by
  refine ofX (by decide) (Nat.le_of_ble_eq_true rfl) rfl ?_
  intro p e s m args below meth c A ls hAe hsz hx hb hml hr hlocks hin hown hE hP hD hA hS hl hex hz
  have hown : s.vm.findClass RX9 = some m.cls := hown
  refine lv_iload_n hx hb dX9_requireRange_0 rfl (lv_at hl 0 rfl) ?_
  refine lv_iload_n hx hb dX9_requireRange_1 rfl (lv_at hl 1 rfl) ?_
  refine lv_icmp_lt (tgt := 10) hx hb dX9_requireRange_2 (by decide) (fun _ => ?_) (fun h => absurd h2 h)
  exact x_throwW (text := "a number is out of range") (names := ["java/lang/RuntimeException", "java/lang/Exception"]) hx hb hlx hown hE (by decide) (by decide) (e639 hE) (e20 hE) (by decide +kernel) (th_215 hE) tg_215_211 hz (by rw [hml]; exact hl.1) dX9_requireRange_10 dX9_requireRange_13 dX9_requireRange_14 dX9_requireRange_17 dX9_requireRange_20 hex (Nat.le_of_ble_eq_true rfl) (Nat.le_of_ble_eq_true rfl) (Nat.le_of_ble_eq_true rfl) (Nat.le_of_ble_eq_true rfl) hlocks hP hD hS hAe hsz (Nat.le_of_ble_eq_true rfl) (Nat.le_of_ble_eq_true rfl) [] (by decide) rfl

set_option maxHeartbeats 4000000 in
set_option maxRecDepth 100000 in
theorem c208_X9_append (l : Launch) (g : gG) (hlx : l.stackTraces = false) (q1 : Nat) (x2 : Int32) (h3 : x2 < 32) (sz : Nat) : vx_Met l yX9_append [Cond.code yX9_append cX9_append 2 (some .int)] ({ frames := 7, cells := 1, slots := 6, locals := 122 } : Room) (va_Pc [.ref q1, .int x2] (PZ g sz [])) NI (XW g [] sz "java/lang/IllegalArgumentException" []) 1 6 (va_A [] sz) := by
  refine ofX (by decide) (Nat.le_of_ble_eq_true rfl) rfl ?_
  intro p e s m args below meth c A ls hAe hsz hx hb hml hr hlocks hin hown hE hP hD hA hS hl hex hz
  have hown : s.vm.findClass RX9 = some m.cls := hown
  refine lv_iload_n hx hb dX9_append_0 rfl (lv_at hl 1 rfl) ?_
  refine lv_bipush (v := 32) hx hb dX9_append_1 (by decide) ?_
  refine lv_bipush (v := 126) hx hb dX9_append_3 (by decide) ?_
  refine gx_v (wr := []) (rSx (rest := []) hx hb hml hown hE hP hD hS hA hz (c207_X9_requireRange l g hlx x2 h3 s.heap.size) (kS_X9_requireRange hE (e636 hE) rfl rfl ⟨(Nat.le_of_ble_eq_true rfl), (Nat.le_of_ble_eq_true rfl)⟩) [] rfl (by decide) rfl hl.1 rfl (lv_room (Nat.le_of_ble_eq_true rfl)) dX9_append_5 ⟨(Nat.le_of_ble_eq_true rfl), (Nat.le_of_ble_eq_true rfl)⟩) hP hD hS hA [] [] rfl rfl (by decide) (by decide) (fun ce9 q9 H locs hP hD hS hq1 hq2 hq3 => ?_)
  exact x_out hex hlocks hq1 hq2 hq3 hP hD hS hAe hsz (Nat.le_of_ble_eq_true rfl) (Nat.le_of_ble_eq_true rfl) [] (by decide) rfl

set_option maxHeartbeats 4000000 in
set_option maxRecDepth 100000 in
theorem c209_L_append (l : Launch) (g : gG) (hlx : l.stackTraces = false) (q1 q3 : Nat) (x2 : Int32) (w5 w6 w7 w8 w9 w10 w11 w12 w13 w14 w15 : Value) (h4 : x2 < 32) (sz : Nat) : Met l yL_append [Cond.codeWith yL_append cL_append 4 (some .int) [(0, 9, 12, 15), (0, 9, 15, 17)]] ({ frames := 8, cells := 1, slots := 6, locals := 143 } : Room) (va_Pc [.ref q1, .int x2, .ref q3] (PZ g sz [(q1, .inr (11, [w5, w6, w7, w8, w9, w10, w11, w12, w13, w14, w15]))])) (QI g [(q1, .inr (11, [w5, w6, w7, w8, w9, w10, w11, w12, w13, w14, w15]))] sz 1 (fun _ => [])) 1 6 (va_A [(q1, .inr (11, [w5, w6, w7, w8, w9, w10, w11, w12, w13, w14, w15]))] sz) := by
  refine ofH (by decide) (Nat.le_of_ble_eq_true rfl) rfl ?_
  intro p e s m args below meth c A ls hAe hsz hx hb hml hr hlocks hin hown hE hP hD hA hS hl htb hz
  have hown : s.vm.findClass RL = some m.cls := hown
  refine lv_aload_n hx hb dL_append_0 rfl (lv_at hl 2 rfl) ?_
  refine lv_iconst (v := 0) hx hb dL_append_1 (by decide) ?_
  refine lv_aload_n hx hb dL_append_2 rfl (lv_at hl 0 rfl) ?_
  refine lv_iload_n hx hb dL_append_3 rfl (lv_at hl 1 rfl) ?_
  refine gx_i (wr := [(q1, .inr (11, [w5, w6, w7, w8, w9, w10, w11, w12, w13, w14, w15]))]) (rVx (rest := [.int 0, .ref q3]) hx hb hml hown hE hP hD hS hA hz 0 rfl rfl (c208_X9_append l g hlx q1 x2 h4 s.heap.size) (kV_X9_append hE (e1153 hE) rfl rfl ⟨(Nat.le_of_ble_eq_true rfl), (Nat.le_of_ble_eq_true rfl)⟩) [] rfl (by decide) rfl hl.1 rfl (lv_room (Nat.le_of_ble_eq_true rfl)) dL_append_4 ⟨(Nat.le_of_ble_eq_true rfl), (Nat.le_of_ble_eq_true rfl)⟩) hP hD hS hA [] [0] rfl rfl (by decide) (by decide) (fun ce9 q9 H locs hP hD hS hq1 hq2 hq3 => ?_)
  have hP : va_P g.1 vwCl [(q1, .inr (11, [w5, w6, w7, w8, w9, w10, w11, w12, w13, w14, w15]))] H := hP
  have hD : va_D A [(q1, .inr (11, [w5, w6, w7, w8, w9, w10, w11, w12, w13, w14, w15]))] := hD
  refine x_catch (name := "java/lang/IllegalArgumentException") (hh := [(0, 9, 12, 15), (0, 9, 15, 17)]) (tgt := 12) hown htb [] ⟨0, 9, 12, 15⟩ [⟨0, 9, 15, 17⟩] rfl (fun _ h => nomatch h) rfl (by decide) (e611 hE) (e641 hE) hq1 hq2 hq3 rfl ?_
  refine lv_astore_n (lv' := [(3, .ref q9), (0, .ref q1), (1, .int x2), (2, .ref q3)]) hx hb dL_append_12 rfl hl (by decide) rfl (fun ls hl => ?_)
  refine lv_iconst (v := 1) hx hb dL_append_13 (by decide) ?_
  exact x_zret hx hb hr rfl rfl hlocks hP hD hS hAe hsz (Nat.le_of_ble_eq_true rfl) (Nat.le_of_ble_eq_true rfl) (fun _ => 0) [] (by decide) rfl dL_append_14

set_option maxHeartbeats 4000000 in
set_option maxRecDepth 100000 in
theorem c210_X10_in (l : Launch) (g : gG) (x1 : Int32) (h2 : x1 < 32) (sz : Nat) : Met l yX10_in [Cond.code yX10_in cX10_in 3 (some .boolean)] ({ frames := 0, cells := 0, slots := 0, locals := 0 } : Room) (va_Pc [.int x1, .int 32, .int 126] (PX g sz [])) (QI g [] sz 0 (fun _ => [])) 0 0 (va_A [] sz) := by
  refine ofN (by decide) (Nat.le_of_ble_eq_true rfl) rfl ?_
  intro p e s m args below meth c A ls hAe hsz hx hb hml hr hlocks hin hown hE hP hD hA hS hl
  have hown : s.vm.findClass RX10 = some m.cls := hown
  refine lv_iload_n hx hb dX10_in_0 rfl (lv_at hl 0 rfl) ?_
  refine lv_iload_n hx hb dX10_in_1 rfl (lv_at hl 1 rfl) ?_
  refine lv_icmp_lt (tgt := 14) hx hb dX10_in_2 (by decide) (fun _ => ?_) (fun h => absurd h2 h)
  refine lv_iconst (v := 0) hx hb dX10_in_14 (by decide) ?_
  exact x_zret hx hb hr rfl rfl hlocks hP hD hS hAe hsz (Nat.le_of_ble_eq_true rfl) (Nat.le_of_ble_eq_true rfl) (fun _ => 0) [] (by decide) rfl dX10_in_15

set_option maxHeartbeats 4000000 in
set_option maxRecDepth 100000 in
theorem c211_X10_append (l : Launch) (g : gG) (q1 : Nat) (x2 : Int32) (w4 w5 w6 w7 w8 w9 w10 w11 w12 w13 w14 w15 w16 w17 w18 w19 w20 w21 w22 w23 w24 w25 w26 w27 w28 w29 w30 w31 w32 w33 w34 w35 w36 w37 w38 w39 w40 : Value) (h3 : x2 < 32) (sz : Nat) : Met l yX10_append [Cond.code yX10_append cX10_append 2 (some .int)] ({ frames := 1, cells := 0, slots := 0, locals := 22 } : Room) (va_Pc [.ref q1, .int x2] (PX g sz [(q1, .inr (12, [w4, w5, w6, w7, w8, w9, w10, w11, w12, w13, w14, w15, w16, w17, w18, w19, w20, w21, w22, w23, w24, w25, w26, w27, w28, w29, w30, w31, w32, w33, w34, w35, w36, w37, w38, w39, w40]))])) (QI g [(q1, .inr (12, [w4, w5, w6, w7, w8, w9, w10, w11, w12, w13, w14, w15, w16, w17, w18, w19, w20, w21, w22, w23, w24, w25, w26, w27, w28, w29, w30, w31, w32, w33, w34, w35, w36, w37, w38, w39, w40]))] sz 0 (fun _ => [(q1, .inr (12, [w4, w5, w6, w7, w8, w9, .int 1, w11, w12, w13, w14, w15, w16, w17, w18, w19, w20, w21, w22, w23, w24, w25, w26, w27, w28, w29, w30, w31, w32, w33, w34, w35, w36, w37, w38, w39, w40]))])) 0 0 (va_A [(q1, .inr (12, [w4, w5, w6, w7, w8, w9, w10, w11, w12, w13, w14, w15, w16, w17, w18, w19, w20, w21, w22, w23, w24, w25, w26, w27, w28, w29, w30, w31, w32, w33, w34, w35, w36, w37, w38, w39, w40]))] sz) := by
  refine ofN (by decide) (Nat.le_of_ble_eq_true rfl) rfl ?_
  intro p e s m args below meth c A ls hAe hsz hx hb hml hr hlocks hin hown hE hP hD hA hS hl
  have hown : s.vm.findClass RX10 = some m.cls := hown
  refine lv_aload_n hx hb dX10_append_0 rfl (lv_at hl 0 rfl) ?_
  refine lv_iload_n hx hb dX10_append_1 rfl (lv_at hl 1 rfl) ?_
  refine lv_bipush (v := 32) hx hb dX10_append_2 (by decide) ?_
  refine lv_bipush (v := 126) hx hb dX10_append_4 (by decide) ?_
  refine g0_i (rS (rest := [.ref q1]) hx hb hml hown hE hP hD (c210_X10_in l g x2 h3 s.heap.size) (kS_X10_in hE (e1431 hE) rfl rfl ⟨(Nat.le_of_ble_eq_true rfl), (Nat.le_of_ble_eq_true rfl)⟩) [] rfl (by decide) rfl hl.1 rfl (lv_room (Nat.le_of_ble_eq_true rfl)) dX10_append_6 ⟨(Nat.le_of_ble_eq_true rfl), (Nat.le_of_ble_eq_true rfl)⟩) hP hD hS hA (fun u9 H locs hP hS => ?_)
  refine lv_if_ne (tgt := 16) hx hb dX10_append_9 (by decide) (fun h => absurd h (by decide)) (fun _ => ?_)
  refine lv_iconst (v := 1) hx hb dX10_append_12 (by decide) ?_
  refine lv_goto (tgt := 30) hx hb dX10_append_13 (by decide) ?_
  refine pf_RX10_86 (ws' := [(q1, .inr (12, [w4, w5, w6, w7, w8, w9, .int 1, w11, w12, w13, w14, w15, w16, w17, w18, w19, w20, w21, w22, w23, w24, w25, w26, w27, w28, w29, w30, w31, w32, w33, w34, w35, w36, w37, w38, w39, w40]))]) hx hb hown hE hP hD hS 0 rfl rfl rfl (Nat.le_of_ble_eq_true rfl) dX10_append_30 rfl (fun H locs hP hD hS => ?_)
  refine lv_aload_n hx hb dX10_append_33 rfl (lv_at hl 0 rfl) ?_
  refine gf_RX10_86 hx hb hown hE hP 0 rfl rfl dX10_append_34 ?_
  refine lv_if_le (tgt := 42) hx hb dX10_append_37 (by decide) (fun h => absurd h (by decide)) (fun _ => ?_)
  refine lv_iconst (v := 0) hx hb dX10_append_40 (by decide) ?_
  exact x_zret hx hb hr rfl rfl hlocks hP hD hS hAe hsz (Nat.le_of_ble_eq_true rfl) (Nat.le_of_ble_eq_true rfl) (fun _ => 0) [0] (by decide) rfl dX10_append_41

set_option maxHeartbeats 4000000 in
set_option maxRecDepth 100000 in
theorem c212_X9_requireRange (l : Launch) (g : gG) (x1 : Int32) (h2 : (32 : Int32) ≤ x1) (h3 : x1 ≤ 126) (sz : Nat) : Met l yX9_requireRange [Cond.code yX9_requireRange cX9_requireRange 3 none] ({ frames := 0, cells := 0, slots := 0, locals := 0 } : Room) (va_Pc [.int x1, .int 32, .int 126] (PX g sz [])) (QV g [] sz (fun _ => [])) 0 0 (va_A [] sz) := by
  refine ofN (by decide) (Nat.le_of_ble_eq_true rfl) rfl ?_
  intro p e s m args below meth c A ls hAe hsz hx hb hml hr hlocks hin hown hE hP hD hA hS hl
  have hown : s.vm.findClass RX9 = some m.cls := hown
  refine lv_iload_n hx hb dX9_requireRange_0 rfl (lv_at hl 0 rfl) ?_
  refine lv_iload_n hx hb dX9_requireRange_1 rfl (lv_at hl 1 rfl) ?_
  refine lv_icmp_lt (tgt := 10) hx hb dX9_requireRange_2 (by decide) (fun h => absurd h (i_nlt h2)) (fun _ => ?_)
  refine lv_iload_n hx hb dX9_requireRange_5 rfl (lv_at hl 0 rfl) ?_
  refine lv_iload_n hx hb dX9_requireRange_6 rfl (lv_at hl 2 rfl) ?_
  refine lv_icmp_le (tgt := 21) hx hb dX9_requireRange_7 (by decide) (fun _ => ?_) (fun h => absurd h3 h)
  exact x_vret hx hb hr hlocks hP hD hS hAe hsz (Nat.le_of_ble_eq_true rfl) (Nat.le_of_ble_eq_true rfl) (fun _ => 0) [] (by decide) rfl dX9_requireRange_21

set_option maxHeartbeats 4000000 in
set_option maxRecDepth 100000 in
theorem c213_X2_isFull (l : Launch) (g : gG) (q1 q4 : Nat) (f5 : Nat → Int32) (sz : Nat) : Met l yX2_isFull [Cond.code yX2_isFull cX2_isFull 1 (some .boolean)] ({ frames := 0, cells := 0, slots := 0, locals := 0 } : Room) (va_Pc [.ref q1] (PX g sz [(q4, .inl (g.2 2, 60, .inl f5)), (q1, .inr (4, [.ref q4, .int 0]))])) (QI g [(q4, .inl (g.2 2, 60, .inl f5)), (q1, .inr (4, [.ref q4, .int 0]))] sz 0 (fun _ => [(q4, .inl (g.2 2, 60, .inl f5)), (q1, .inr (4, [.ref q4, .int 0]))])) 0 0 (va_A [(q4, .inl (g.2 2, 60, .inl f5)), (q1, .inr (4, [.ref q4, .int 0]))] sz) := by
  refine ofN (by decide) (Nat.le_of_ble_eq_true rfl) rfl ?_
  intro p e s m args below meth c A ls hAe hsz hx hb hml hr hlocks hin hown hE hP hD hA hS hl
  have hown : s.vm.findClass RX2 = some m.cls := hown
  refine lv_aload_n hx hb dX2_isFull_0 rfl (lv_at hl 0 rfl) ?_
  refine gf_RX2_7 hx hb hown hE hP 1 rfl rfl dX2_isFull_1 ?_
  refine lv_aload_n hx hb dX2_isFull_4 rfl (lv_at hl 0 rfl) ?_
  refine gf_RX2_19 hx hb hown hE hP 1 rfl rfl dX2_isFull_5 ?_
  refine x_alenc (v := 60) hx hb hE hP 0 rfl rfl dX2_isFull_8 ?_
  refine lv_icmp_lt (tgt := 16) hx hb dX2_isFull_9 (by decide) (fun _ => ?_) (fun h => absurd (by decide) h)
  refine lv_iconst (v := 0) hx hb dX2_isFull_16 (by decide) ?_
  exact x_zret hx hb hr rfl rfl hlocks hP hD hS hAe hsz (Nat.le_of_ble_eq_true rfl) (Nat.le_of_ble_eq_true rfl) (fun _ => 0) [0, 1] (by decide) rfl dX2_isFull_17

set_option maxHeartbeats 4000000 in
set_option maxRecDepth 100000 in
theorem c214_X2_put (l : Launch) (g : gG) (q1 q5 : Nat) (x2 : Int32) (f6 : Nat → Int32) (sz : Nat) : Met l yX2_put [Cond.code yX2_put cX2_put 2 none] ({ frames := 0, cells := 0, slots := 0, locals := 0 } : Room) (va_Pc [.ref q1, .int x2] (PX g sz [(q5, .inl (g.2 2, 60, .inl f6)), (q1, .inr (4, [.ref q5, .int 0]))])) (QV g [(q5, .inl (g.2 2, 60, .inl f6)), (q1, .inr (4, [.ref q5, .int 0]))] sz (fun _ => [(q5, .inl (g.2 2, 60, .inl (upd f6 0 (vp_nar .char x2)))), (q1, .inr (4, [.ref q5, .int 1]))])) 0 0 (va_A [(q5, .inl (g.2 2, 60, .inl f6)), (q1, .inr (4, [.ref q5, .int 0]))] sz) := by
  refine ofN (by decide) (Nat.le_of_ble_eq_true rfl) rfl ?_
  intro p e s m args below meth c A ls hAe hsz hx hb hml hr hlocks hin hown hE hP hD hA hS hl
  have hown : s.vm.findClass RX2 = some m.cls := hown
  refine lv_aload_n hx hb dX2_put_0 rfl (lv_at hl 0 rfl) ?_
  refine gf_RX2_7 hx hb hown hE hP 1 rfl rfl dX2_put_1 ?_
  refine lv_if_lt (tgt := 39) hx hb dX2_put_4 (by decide) (fun h => absurd h (by decide)) (fun _ => ?_)
  refine lv_aload_n hx hb dX2_put_7 rfl (lv_at hl 0 rfl) ?_
  refine gf_RX2_7 hx hb hown hE hP 1 rfl rfl dX2_put_8 ?_
  refine lv_aload_n hx hb dX2_put_11 rfl (lv_at hl 0 rfl) ?_
  refine gf_RX2_19 hx hb hown hE hP 1 rfl rfl dX2_put_12 ?_
  refine x_alenc (v := 60) hx hb hE hP 0 rfl rfl dX2_put_15 ?_
  refine lv_icmp_ge (tgt := 39) hx hb dX2_put_16 (by decide) (fun h => absurd h (by decide)) (fun _ => ?_)
  refine lv_aload_n hx hb dX2_put_19 rfl (lv_at hl 0 rfl) ?_
  refine gf_RX2_19 hx hb hown hE hP 1 rfl rfl dX2_put_20 ?_
  refine lv_aload_n hx hb dX2_put_23 rfl (lv_at hl 0 rfl) ?_
  refine gf_RX2_7 hx hb hown hE hP 1 rfl rfl dX2_put_24 ?_
  refine lv_iload_n hx hb dX2_put_27 rfl (lv_at hl 1 rfl) ?_
  refine x_cast (ws' := [(q5, .inl (g.2 2, 60, .inl (upd f6 0 (vp_nar .char x2)))), (q1, .inr (4, [.ref q5, .int 0]))]) hx hb hE hP hD hS 0 rfl 0 (x_in (by decide)) (by decide) dX2_put_28 rfl (fun H locs hP hD hS => ?_)
  refine lv_aload_n hx hb dX2_put_29 rfl (lv_at hl 0 rfl) ?_
  refine lv_dup hx hb dX2_put_30 rfl ?_
  refine gf_RX2_7 hx hb hown hE hP 1 rfl rfl dX2_put_31 ?_
  refine lv_iconst (v := 1) hx hb dX2_put_34 (by decide) ?_
  refine x_iadd (v := 1) hx hb dX2_put_35 (by decide) ?_
  refine pf_RX2_7 (ws' := [(q5, .inl (g.2 2, 60, .inl (upd f6 0 (vp_nar .char x2)))), (q1, .inr (4, [.ref q5, .int 1]))]) hx hb hown hE hP hD hS 1 rfl rfl rfl (Nat.le_of_ble_eq_true rfl) dX2_put_36 rfl (fun H locs hP hD hS => ?_)
  exact x_vret hx hb hr hlocks hP hD hS hAe hsz (Nat.le_of_ble_eq_true rfl) (Nat.le_of_ble_eq_true rfl) (fun _ => 0) [0, 1] (by decide) rfl dX2_put_39

set_option maxHeartbeats 4000000 in
set_option maxRecDepth 100000 in
theorem c215_X2_size (l : Launch) (g : gG) (q1 : Nat) (w2 : Value) (sz : Nat) : Met l yX2_size [Cond.code yX2_size cX2_size 1 (some .int)] ({ frames := 0, cells := 0, slots := 0, locals := 0 } : Room) (va_Pc [.ref q1] (PX g sz [(q1, .inr (4, [w2, .int 1]))])) (QI g [(q1, .inr (4, [w2, .int 1]))] sz 1 (fun _ => [(q1, .inr (4, [w2, .int 1]))])) 0 0 (va_A [(q1, .inr (4, [w2, .int 1]))] sz) := by
  refine ofN (by decide) (Nat.le_of_ble_eq_true rfl) rfl ?_
  intro p e s m args below meth c A ls hAe hsz hx hb hml hr hlocks hin hown hE hP hD hA hS hl
  have hown : s.vm.findClass RX2 = some m.cls := hown
  refine lv_aload_n hx hb dX2_size_0 rfl (lv_at hl 0 rfl) ?_
  refine gf_RX2_7 hx hb hown hE hP 0 rfl rfl dX2_size_1 ?_
  exact x_zret hx hb hr rfl rfl hlocks hP hD hS hAe hsz (Nat.le_of_ble_eq_true rfl) (Nat.le_of_ble_eq_true rfl) (fun _ => 0) [0] (by decide) rfl dX2_size_4

set_option maxHeartbeats 4000000 in
set_option maxRecDepth 100000 in
theorem c216_X9_append (l : Launch) (g : gG) (q1 q16 q19 : Nat) (x2 : Int32) (w5 w6 w7 w8 w10 w11 w12 w13 w14 w15 : Value) (f20 : Nat → Int32) (h3 : (32 : Int32) ≤ x2) (h4 : x2 ≤ 126) (sz : Nat) : Met l yX9_append [Cond.code yX9_append cX9_append 2 (some .int)] ({ frames := 1, cells := 0, slots := 0, locals := 22 } : Room) (va_Pc [.ref q1, .int x2] (PX g sz [(q19, .inl (g.2 2, 60, .inl f20)), (q16, .inr (4, [.ref q19, .int 0])), (q1, .inr (11, [w5, w6, w7, w8, .ref q16, w10, w11, w12, w13, w14, w15]))])) (QI g [(q19, .inl (g.2 2, 60, .inl f20)), (q16, .inr (4, [.ref q19, .int 0])), (q1, .inr (11, [w5, w6, w7, w8, .ref q16, w10, w11, w12, w13, w14, w15]))] sz 1 (fun _ => [(q1, .inr (11, [w5, w6, w7, w8, .ref q16, w10, w11, w12, w13, w14, w15])), (q19, .inl (g.2 2, 60, .inl (upd f20 0 (vp_nar .char x2)))), (q16, .inr (4, [.ref q19, .int 1]))])) 0 0 (va_A [(q19, .inl (g.2 2, 60, .inl f20)), (q16, .inr (4, [.ref q19, .int 0])), (q1, .inr (11, [w5, w6, w7, w8, .ref q16, w10, w11, w12, w13, w14, w15]))] sz) := by
  refine ofN (by decide) (Nat.le_of_ble_eq_true rfl) rfl ?_
  intro p e s m args below meth c A ls hAe hsz hx hb hml hr hlocks hin hown hE hP hD hA hS hl
  have hown : s.vm.findClass RX9 = some m.cls := hown
  refine lv_iload_n hx hb dX9_append_0 rfl (lv_at hl 1 rfl) ?_
  refine lv_bipush (v := 32) hx hb dX9_append_1 (by decide) ?_
  refine lv_bipush (v := 126) hx hb dX9_append_3 (by decide) ?_
  refine g0_v (rS (rest := []) hx hb hml hown hE hP hD (c212_X9_requireRange l g x2 h3 h4 s.heap.size) (kS_X9_requireRange hE (e636 hE) rfl rfl ⟨(Nat.le_of_ble_eq_true rfl), (Nat.le_of_ble_eq_true rfl)⟩) [] rfl (by decide) rfl hl.1 rfl (lv_room (Nat.le_of_ble_eq_true rfl)) dX9_append_5 ⟨(Nat.le_of_ble_eq_true rfl), (Nat.le_of_ble_eq_true rfl)⟩) hP hD hS hA (fun u9 H locs hP hS => ?_)
  refine lv_aload_n hx hb dX9_append_8 rfl (lv_at hl 0 rfl) ?_
  refine gf_RX9_42 hx hb hown hE hP 2 rfl rfl dX9_append_9 ?_
  refine g_i (wr := [(q1, .inr (11, [w5, w6, w7, w8, .ref q16, w10, w11, w12, w13, w14, w15]))]) (rV (rest := []) hx hb hml hown hE hP hD 1 rfl rfl (c213_X2_isFull l g q16 q19 f20 H.size) (kV_X2_isFull hE (e1157 hE) rfl rfl ⟨(Nat.le_of_ble_eq_true rfl), (Nat.le_of_ble_eq_true rfl)⟩) [0, 1] rfl (by decide) rfl hl.1 rfl (lv_room (Nat.le_of_ble_eq_true rfl)) dX9_append_12 ⟨(Nat.le_of_ble_eq_true rfl), (Nat.le_of_ble_eq_true rfl)⟩) hP hD hS hA [0, 1] [2] rfl rfl (by decide) (by decide) (fun u2 H locs hP hD hS => ?_)
  have hP : va_P g.1 vwCl [(q1, .inr (11, [w5, w6, w7, w8, .ref q16, w10, w11, w12, w13, w14, w15])), (q19, .inl (g.2 2, 60, .inl f20)), (q16, .inr (4, [.ref q19, .int 0]))] H := hP
  have hD : va_D A [(q1, .inr (11, [w5, w6, w7, w8, .ref q16, w10, w11, w12, w13, w14, w15])), (q19, .inl (g.2 2, 60, .inl f20)), (q16, .inr (4, [.ref q19, .int 0]))] := hD
  refine lv_if_eq (tgt := 29) hx hb dX9_append_15 (by decide) (fun _ => ?_) (fun h => absurd (by decide) h)
  refine lv_aload_n hx hb dX9_append_29 rfl (lv_at hl 0 rfl) ?_
  refine gf_RX9_42 hx hb hown hE hP 0 rfl rfl dX9_append_30 ?_
  refine lv_iload_n hx hb dX9_append_33 rfl (lv_at hl 1 rfl) ?_
  refine g_v (wr := [(q1, .inr (11, [w5, w6, w7, w8, .ref q16, w10, w11, w12, w13, w14, w15]))]) (rV (rest := []) hx hb hml hown hE hP hD 2 rfl rfl (c214_X2_put l g q16 q19 x2 f20 H.size) (kV_X2_put hE (e1162 hE) rfl rfl ⟨(Nat.le_of_ble_eq_true rfl), (Nat.le_of_ble_eq_true rfl)⟩) [1, 2] rfl (by decide) rfl hl.1 rfl (lv_room (Nat.le_of_ble_eq_true rfl)) dX9_append_34 ⟨(Nat.le_of_ble_eq_true rfl), (Nat.le_of_ble_eq_true rfl)⟩) hP hD hS hA [1, 2] [0] rfl rfl (by decide) (by decide) (fun u3 H locs hP hD hS => ?_)
  have hP : va_P g.1 vwCl [(q1, .inr (11, [w5, w6, w7, w8, .ref q16, w10, w11, w12, w13, w14, w15])), (q19, .inl (g.2 2, 60, .inl (upd f20 0 (vp_nar .char x2)))), (q16, .inr (4, [.ref q19, .int 1]))] H := hP
  have hD : va_D A [(q1, .inr (11, [w5, w6, w7, w8, .ref q16, w10, w11, w12, w13, w14, w15])), (q19, .inl (g.2 2, 60, .inl (upd f20 0 (vp_nar .char x2)))), (q16, .inr (4, [.ref q19, .int 1]))] := hD
  refine lv_aload_n hx hb dX9_append_37 rfl (lv_at hl 0 rfl) ?_
  refine gf_RX9_42 hx hb hown hE hP 0 rfl rfl dX9_append_38 ?_
  refine g_i (wr := [(q1, .inr (11, [w5, w6, w7, w8, .ref q16, w10, w11, w12, w13, w14, w15])), (q19, .inl (g.2 2, 60, .inl (upd f20 0 (vp_nar .char x2))))]) (rV (rest := []) hx hb hml hown hE hP hD 2 rfl rfl (c215_X2_size l g q16 (.ref q19) H.size) (kV_X2_size hE (e1166 hE) rfl rfl ⟨(Nat.le_of_ble_eq_true rfl), (Nat.le_of_ble_eq_true rfl)⟩) [2] rfl (by decide) rfl hl.1 rfl (lv_room (Nat.le_of_ble_eq_true rfl)) dX9_append_41 ⟨(Nat.le_of_ble_eq_true rfl), (Nat.le_of_ble_eq_true rfl)⟩) hP hD hS hA [2] [0, 1] rfl rfl (by decide) (by decide) (fun u4 H locs hP hD hS => ?_)
  have hP : va_P g.1 vwCl [(q1, .inr (11, [w5, w6, w7, w8, .ref q16, w10, w11, w12, w13, w14, w15])), (q19, .inl (g.2 2, 60, .inl (upd f20 0 (vp_nar .char x2)))), (q16, .inr (4, [.ref q19, .int 1]))] H := hP
  have hD : va_D A [(q1, .inr (11, [w5, w6, w7, w8, .ref q16, w10, w11, w12, w13, w14, w15])), (q19, .inl (g.2 2, 60, .inl (upd f20 0 (vp_nar .char x2)))), (q16, .inr (4, [.ref q19, .int 1]))] := hD
  exact x_zret hx hb hr rfl rfl hlocks hP hD hS hAe hsz (Nat.le_of_ble_eq_true rfl) (Nat.le_of_ble_eq_true rfl) (fun _ => 0) [0, 1, 2] (by decide) rfl dX9_append_44

set_option maxHeartbeats 4000000 in
set_option maxRecDepth 100000 in
theorem c217_L_append (l : Launch) (g : gG) (hlx : l.stackTraces = false) (q1 q3 q17 q20 : Nat) (x2 : Int32) (w6 w7 w8 w9 w11 w12 w13 w14 w15 w16 : Value) (f21 : Nat → Int32) (f22 : Nat → Int64) (h4 : (32 : Int32) ≤ x2) (h5 : x2 ≤ 126) (sz : Nat) : Met l yL_append [Cond.codeWith yL_append cL_append 4 (some .int) [(0, 9, 12, 15), (0, 9, 15, 17)]] ({ frames := 2, cells := 0, slots := 0, locals := 43 } : Room) (va_Pc [.ref q1, .int x2, .ref q3] (PZ g sz [(q3, .inl (g.2 1, 1, .inr (.inl f22))), (q20, .inl (g.2 2, 60, .inl f21)), (q17, .inr (4, [.ref q20, .int 0])), (q1, .inr (11, [w6, w7, w8, w9, .ref q17, w11, w12, w13, w14, w15, w16]))])) (QI g [(q3, .inl (g.2 1, 1, .inr (.inl f22))), (q20, .inl (g.2 2, 60, .inl f21)), (q17, .inr (4, [.ref q20, .int 0])), (q1, .inr (11, [w6, w7, w8, w9, .ref q17, w11, w12, w13, w14, w15, w16]))] sz 0 (fun _ => [(q3, .inl (g.2 1, 1, .inr (.inl (vp_updL f22 0 1))))])) 0 0 (va_A [(q3, .inl (g.2 1, 1, .inr (.inl f22))), (q20, .inl (g.2 2, 60, .inl f21)), (q17, .inr (4, [.ref q20, .int 0])), (q1, .inr (11, [w6, w7, w8, w9, .ref q17, w11, w12, w13, w14, w15, w16]))] sz) := by
  refine ofH (by decide) (Nat.le_of_ble_eq_true rfl) rfl ?_
  intro p e s m args below meth c A ls hAe hsz hx hb hml hr hlocks hin hown hE hP hD hA hS hl htb hz
  have hown : s.vm.findClass RL = some m.cls := hown
  refine lv_aload_n hx hb dL_append_0 rfl (lv_at hl 2 rfl) ?_
  refine lv_iconst (v := 0) hx hb dL_append_1 (by decide) ?_
  refine lv_aload_n hx hb dL_append_2 rfl (lv_at hl 0 rfl) ?_
  refine lv_iload_n hx hb dL_append_3 rfl (lv_at hl 1 rfl) ?_
  refine g_i (wr := [(q3, .inl (g.2 1, 1, .inr (.inl f22)))]) (rV (rest := [.int 0, .ref q3]) hx hb hml hown hE hP hD 3 rfl rfl (c216_X9_append l g q1 q17 q20 x2 w6 w7 w8 w9 w11 w12 w13 w14 w15 w16 f21 h4 h5 s.heap.size) (kV_X9_append hE (e1153 hE) rfl rfl ⟨(Nat.le_of_ble_eq_true rfl), (Nat.le_of_ble_eq_true rfl)⟩) [1, 2, 3] rfl (by decide) rfl hl.1 rfl (lv_room (Nat.le_of_ble_eq_true rfl)) dL_append_4 ⟨(Nat.le_of_ble_eq_true rfl), (Nat.le_of_ble_eq_true rfl)⟩) hP hD hS hA [1, 2, 3] [0] rfl rfl (by decide) (by decide) (fun u1 H locs hP hD hS => ?_)
  have hP : va_P g.1 vwCl [(q3, .inl (g.2 1, 1, .inr (.inl f22))), (q1, .inr (11, [w6, w7, w8, w9, .ref q17, w11, w12, w13, w14, w15, w16])), (q20, .inl (g.2 2, 60, .inl (upd f21 0 (vp_nar .char x2)))), (q17, .inr (4, [.ref q20, .int 1]))] H := hP
  have hD : va_D A [(q3, .inl (g.2 1, 1, .inr (.inl f22))), (q1, .inr (11, [w6, w7, w8, w9, .ref q17, w11, w12, w13, w14, w15, w16])), (q20, .inl (g.2 2, 60, .inl (upd f21 0 (vp_nar .char x2)))), (q17, .inr (4, [.ref q20, .int 1]))] := hD
  refine lv_i2l (v := 1) hx hb dL_append_7 (by decide) ?_
  refine x_last (ws' := [(q3, .inl (g.2 1, 1, .inr (.inl (vp_updL f22 0 1)))), (q1, .inr (11, [w6, w7, w8, w9, .ref q17, w11, w12, w13, w14, w15, w16])), (q20, .inl (g.2 2, 60, .inl (upd f21 0 (vp_nar .char x2)))), (q17, .inr (4, [.ref q20, .int 1]))]) hx hb hE hP hD hS 0 rfl 0 (x_in (by decide)) (by decide) dL_append_8 rfl (fun H locs hP hD hS => ?_)
  refine lv_goto (tgt := 18) hx hb dL_append_9 (by decide) ?_
  refine lv_iconst (v := 0) hx hb dL_append_18 (by decide) ?_
  exact x_zret hx hb hr rfl rfl hlocks hP hD hS hAe hsz (Nat.le_of_ble_eq_true rfl) (Nat.le_of_ble_eq_true rfl) (fun _ => 0) [0] (by decide) rfl dL_append_19

set_option maxHeartbeats 4000000 in
set_option maxRecDepth 100000 in
theorem c218_X10_in (l : Launch) (g : gG) (x1 : Int32) (h2 : (32 : Int32) ≤ x1) (h3 : x1 ≤ 126) (sz : Nat) : Met l yX10_in [Cond.code yX10_in cX10_in 3 (some .boolean)] ({ frames := 0, cells := 0, slots := 0, locals := 0 } : Room) (va_Pc [.int x1, .int 32, .int 126] (PX g sz [])) (QI g [] sz 1 (fun _ => [])) 0 0 (va_A [] sz) := by
  refine ofN (by decide) (Nat.le_of_ble_eq_true rfl) rfl ?_
  intro p e s m args below meth c A ls hAe hsz hx hb hml hr hlocks hin hown hE hP hD hA hS hl
  have hown : s.vm.findClass RX10 = some m.cls := hown
  refine lv_iload_n hx hb dX10_in_0 rfl (lv_at hl 0 rfl) ?_
  refine lv_iload_n hx hb dX10_in_1 rfl (lv_at hl 1 rfl) ?_
  refine lv_icmp_lt (tgt := 14) hx hb dX10_in_2 (by decide) (fun h => absurd h (i_nlt h2)) (fun _ => ?_)
  refine lv_iload_n hx hb dX10_in_5 rfl (lv_at hl 0 rfl) ?_
  refine lv_iload_n hx hb dX10_in_6 rfl (lv_at hl 2 rfl) ?_
  refine lv_icmp_gt (tgt := 14) hx hb dX10_in_7 (by decide) (fun h => absurd h (i_nlt h3)) (fun _ => ?_)
  refine lv_iconst (v := 1) hx hb dX10_in_10 (by decide) ?_
  refine lv_goto (tgt := 15) hx hb dX10_in_11 (by decide) ?_
  exact x_zret hx hb hr rfl rfl hlocks hP hD hS hAe hsz (Nat.le_of_ble_eq_true rfl) (Nat.le_of_ble_eq_true rfl) (fun _ => 0) [] (by decide) rfl dX10_in_15

set_option maxHeartbeats 4000000 in
set_option maxRecDepth 100000 in
theorem c219_X10_append (l : Launch) (g : gG) (q1 q42 : Nat) (x2 : Int32) (w5 w6 w7 w8 w9 w10 w11 w12 w13 w14 w15 w16 w17 w18 w19 w20 w21 w22 w23 w24 w25 w26 w27 w28 w29 w30 w31 w32 w35 w36 w37 w38 w39 w40 w41 : Value) (f43 : Nat → Int32) (h3 : (32 : Int32) ≤ x2) (h4 : x2 ≤ 126) (sz : Nat) : Met l yX10_append [Cond.code yX10_append cX10_append 2 (some .int)] ({ frames := 1, cells := 0, slots := 0, locals := 22 } : Room) (va_Pc [.ref q1, .int x2] (PX g sz [(q42, .inl (g.2 0, 60, .inl f43)), (q1, .inr (12, [w5, w6, w7, w8, w9, w10, w11, w12, w13, w14, w15, w16, w17, w18, w19, w20, w21, w22, w23, w24, w25, w26, w27, w28, w29, w30, w31, w32, .int 0, .ref q42, w35, w36, w37, w38, w39, w40, w41]))])) (QI g [(q42, .inl (g.2 0, 60, .inl f43)), (q1, .inr (12, [w5, w6, w7, w8, w9, w10, w11, w12, w13, w14, w15, w16, w17, w18, w19, w20, w21, w22, w23, w24, w25, w26, w27, w28, w29, w30, w31, w32, .int 0, .ref q42, w35, w36, w37, w38, w39, w40, w41]))] sz 1 (fun _ => [(q1, .inr (12, [w5, w6, w7, w8, w9, w10, .int 0, w12, w13, w14, w15, w16, w17, w18, w19, w20, w21, w22, w23, w24, w25, w26, w27, w28, w29, w30, w31, w32, .int 1, .ref q42, w35, w36, w37, w38, w39, w40, w41]))])) 0 0 (va_A [(q42, .inl (g.2 0, 60, .inl f43)), (q1, .inr (12, [w5, w6, w7, w8, w9, w10, w11, w12, w13, w14, w15, w16, w17, w18, w19, w20, w21, w22, w23, w24, w25, w26, w27, w28, w29, w30, w31, w32, .int 0, .ref q42, w35, w36, w37, w38, w39, w40, w41]))] sz) := by
  refine ofN (by decide) (Nat.le_of_ble_eq_true rfl) rfl ?_
  intro p e s m args below meth c A ls hAe hsz hx hb hml hr hlocks hin hown hE hP hD hA hS hl
  have hown : s.vm.findClass RX10 = some m.cls := hown
  refine lv_aload_n hx hb dX10_append_0 rfl (lv_at hl 0 rfl) ?_
  refine lv_iload_n hx hb dX10_append_1 rfl (lv_at hl 1 rfl) ?_
  refine lv_bipush (v := 32) hx hb dX10_append_2 (by decide) ?_
  refine lv_bipush (v := 126) hx hb dX10_append_4 (by decide) ?_
  refine g0_i (rS (rest := [.ref q1]) hx hb hml hown hE hP hD (c218_X10_in l g x2 h3 h4 s.heap.size) (kS_X10_in hE (e1431 hE) rfl rfl ⟨(Nat.le_of_ble_eq_true rfl), (Nat.le_of_ble_eq_true rfl)⟩) [] rfl (by decide) rfl hl.1 rfl (lv_room (Nat.le_of_ble_eq_true rfl)) dX10_append_6 ⟨(Nat.le_of_ble_eq_true rfl), (Nat.le_of_ble_eq_true rfl)⟩) hP hD hS hA (fun u9 H locs hP hS => ?_)
  refine lv_if_ne (tgt := 16) hx hb dX10_append_9 (by decide) (fun _ => ?_) (fun h => absurd (by decide) h)
  refine lv_aload_n hx hb dX10_append_16 rfl (lv_at hl 0 rfl) ?_
  refine gf_RX10_248 hx hb hown hE hP 1 rfl rfl dX10_append_17 ?_
  refine lv_bipush (v := 60) hx hb dX10_append_20 (by decide) ?_
  refine lv_icmp_ne (tgt := 29) hx hb dX10_append_22 (by decide) (fun _ => ?_) (fun h => absurd (by decide) h)
  refine lv_iconst (v := 0) hx hb dX10_append_29 (by decide) ?_
  refine pf_RX10_86 (ws' := [(q42, .inl (g.2 0, 60, .inl f43)), (q1, .inr (12, [w5, w6, w7, w8, w9, w10, .int 0, w12, w13, w14, w15, w16, w17, w18, w19, w20, w21, w22, w23, w24, w25, w26, w27, w28, w29, w30, w31, w32, .int 0, .ref q42, w35, w36, w37, w38, w39, w40, w41]))]) hx hb hown hE hP hD hS 1 rfl rfl rfl (Nat.le_of_ble_eq_true rfl) dX10_append_30 rfl (fun H locs hP hD hS => ?_)
  refine lv_aload_n hx hb dX10_append_33 rfl (lv_at hl 0 rfl) ?_
  refine gf_RX10_86 hx hb hown hE hP 1 rfl rfl dX10_append_34 ?_
  refine lv_if_le (tgt := 42) hx hb dX10_append_37 (by decide) (fun _ => ?_) (fun h => absurd (by decide) h)
  refine lv_aload_n hx hb dX10_append_42 rfl (lv_at hl 0 rfl) ?_
  refine gf_RX10_70 hx hb hown hE hP 1 rfl rfl dX10_append_43 ?_
  refine lv_aload_n hx hb dX10_append_46 rfl (lv_at hl 0 rfl) ?_
  refine gf_RX10_248 hx hb hown hE hP 1 rfl rfl dX10_append_47 ?_
  refine lv_iload_n hx hb dX10_append_50 rfl (lv_at hl 1 rfl) ?_
  refine x_iast (ws' := [(q42, .inl (g.2 0, 60, .inl (upd f43 0 x2))), (q1, .inr (12, [w5, w6, w7, w8, w9, w10, .int 0, w12, w13, w14, w15, w16, w17, w18, w19, w20, w21, w22, w23, w24, w25, w26, w27, w28, w29, w30, w31, w32, .int 0, .ref q42, w35, w36, w37, w38, w39, w40, w41]))]) hx hb hE hP hD hS 0 rfl 0 (x_in (by decide)) (by decide) dX10_append_51 rfl (fun H locs hP hD hS => ?_)
  refine lv_aload_n hx hb dX10_append_52 rfl (lv_at hl 0 rfl) ?_
  refine lv_dup hx hb dX10_append_53 rfl ?_
  refine gf_RX10_248 hx hb hown hE hP 1 rfl rfl dX10_append_54 ?_
  refine lv_iconst (v := 1) hx hb dX10_append_57 (by decide) ?_
  refine x_iadd (v := 1) hx hb dX10_append_58 (by decide) ?_
  refine pf_RX10_248 (ws' := [(q42, .inl (g.2 0, 60, .inl (upd f43 0 x2))), (q1, .inr (12, [w5, w6, w7, w8, w9, w10, .int 0, w12, w13, w14, w15, w16, w17, w18, w19, w20, w21, w22, w23, w24, w25, w26, w27, w28, w29, w30, w31, w32, .int 1, .ref q42, w35, w36, w37, w38, w39, w40, w41]))]) hx hb hown hE hP hD hS 1 rfl rfl rfl (Nat.le_of_ble_eq_true rfl) dX10_append_59 rfl (fun H locs hP hD hS => ?_)
  refine lv_aload_n hx hb dX10_append_62 rfl (lv_at hl 0 rfl) ?_
  refine gf_RX10_248 hx hb hown hE hP 1 rfl rfl dX10_append_63 ?_
  exact x_zret hx hb hr rfl rfl hlocks hP hD hS hAe hsz (Nat.le_of_ble_eq_true rfl) (Nat.le_of_ble_eq_true rfl) (fun _ => 0) [1] (by decide) rfl dX10_append_66

set_option maxHeartbeats 4000000 in
set_option maxRecDepth 100000 in
theorem c220_X9_requireRange (l : Launch) (g : gG) (hlx : l.stackTraces = false) (x1 : Int32) (h2 : (32 : Int32) ≤ x1) (h3 : (126 : Int32) < x1) (sz : Nat) : vx_Met l yX9_requireRange [Cond.code yX9_requireRange cX9_requireRange 3 none] ({ frames := 6, cells := 1, slots := 6, locals := 100 } : Room) (va_Pc [.int x1, .int 32, .int 126] (PZ g sz [])) NV (XW g [] sz "java/lang/IllegalArgumentException" []) 1 6 (va_A [] sz) := by
  refine ofX (by decide) (Nat.le_of_ble_eq_true rfl) rfl ?_
  intro p e s m args below meth c A ls hAe hsz hx hb hml hr hlocks hin hown hE hP hD hA hS hl hex hz
  have hown : s.vm.findClass RX9 = some m.cls := hown
  refine lv_iload_n hx hb dX9_requireRange_0 rfl (lv_at hl 0 rfl) ?_
  refine lv_iload_n hx hb dX9_requireRange_1 rfl (lv_at hl 1 rfl) ?_
  refine lv_icmp_lt (tgt := 10) hx hb dX9_requireRange_2 (by decide) (fun h => absurd h (i_nlt h2)) (fun _ => ?_)
  refine lv_iload_n hx hb dX9_requireRange_5 rfl (lv_at hl 0 rfl) ?_
  refine lv_iload_n hx hb dX9_requireRange_6 rfl (lv_at hl 2 rfl) ?_
  refine lv_icmp_le (tgt := 21) hx hb dX9_requireRange_7 (by decide) (fun h => absurd h (i_nle h3)) (fun _ => ?_)
  exact x_throwW (text := "a number is out of range") (names := ["java/lang/RuntimeException", "java/lang/Exception"]) hx hb hlx hown hE (by decide) (by decide) (e639 hE) (e20 hE) (by decide +kernel) (th_215 hE) tg_215_211 hz (by rw [hml]; exact hl.1) dX9_requireRange_10 dX9_requireRange_13 dX9_requireRange_14 dX9_requireRange_17 dX9_requireRange_20 hex (Nat.le_of_ble_eq_true rfl) (Nat.le_of_ble_eq_true rfl) (Nat.le_of_ble_eq_true rfl) (Nat.le_of_ble_eq_true rfl) hlocks hP hD hS hAe hsz (Nat.le_of_ble_eq_true rfl) (Nat.le_of_ble_eq_true rfl) [] (by decide) rfl

set_option maxHeartbeats 4000000 in
set_option maxRecDepth 100000 in
theorem c221_X9_append (l : Launch) (g : gG) (hlx : l.stackTraces = false) (q1 : Nat) (x2 : Int32) (h3 : (32 : Int32) ≤ x2) (h4 : (126 : Int32) < x2) (sz : Nat) : vx_Met l yX9_append [Cond.code yX9_append cX9_append 2 (some .int)] ({ frames := 7, cells := 1, slots := 6, locals := 122 } : Room) (va_Pc [.ref q1, .int x2] (PZ g sz [])) NI (XW g [] sz "java/lang/IllegalArgumentException" []) 1 6 (va_A [] sz) := by
  refine ofX (by decide) (Nat.le_of_ble_eq_true rfl) rfl ?_
  intro p e s m args below meth c A ls hAe hsz hx hb hml hr hlocks hin hown hE hP hD hA hS hl hex hz
  have hown : s.vm.findClass RX9 = some m.cls := hown
  refine lv_iload_n hx hb dX9_append_0 rfl (lv_at hl 1 rfl) ?_
  refine lv_bipush (v := 32) hx hb dX9_append_1 (by decide) ?_
  refine lv_bipush (v := 126) hx hb dX9_append_3 (by decide) ?_
  refine gx_v (wr := []) (rSx (rest := []) hx hb hml hown hE hP hD hS hA hz (c220_X9_requireRange l g hlx x2 h3 h4 s.heap.size) (kS_X9_requireRange hE (e636 hE) rfl rfl ⟨(Nat.le_of_ble_eq_true rfl), (Nat.le_of_ble_eq_true rfl)⟩) [] rfl (by decide) rfl hl.1 rfl (lv_room (Nat.le_of_ble_eq_true rfl)) dX9_append_5 ⟨(Nat.le_of_ble_eq_true rfl), (Nat.le_of_ble_eq_true rfl)⟩) hP hD hS hA [] [] rfl rfl (by decide) (by decide) (fun ce9 q9 H locs hP hD hS hq1 hq2 hq3 => ?_)
  exact x_out hex hlocks hq1 hq2 hq3 hP hD hS hAe hsz (Nat.le_of_ble_eq_true rfl) (Nat.le_of_ble_eq_true rfl) [] (by decide) rfl

set_option maxHeartbeats 4000000 in
set_option maxRecDepth 100000 in
theorem c222_L_append (l : Launch) (g : gG) (hlx : l.stackTraces = false) (q1 q3 q16 q19 : Nat) (x2 : Int32) (w5 w6 w7 w8 w10 w11 w12 w13 w14 w15 : Value) (f20 : Nat → Int32) (h4 : (32 : Int32) ≤ x2) (h21 : (126 : Int32) < x2) (sz : Nat) : Met l yL_append [Cond.codeWith yL_append cL_append 4 (some .int) [(0, 9, 12, 15), (0, 9, 15, 17)]] ({ frames := 8, cells := 1, slots := 6, locals := 143 } : Room) (va_Pc [.ref q1, .int x2, .ref q3] (PZ g sz [(q19, .inl (g.2 2, 60, .inl f20)), (q16, .inr (4, [.ref q19, .int 0])), (q1, .inr (11, [w5, w6, w7, w8, .ref q16, w10, w11, w12, w13, w14, w15]))])) (QI g [(q19, .inl (g.2 2, 60, .inl f20)), (q16, .inr (4, [.ref q19, .int 0])), (q1, .inr (11, [w5, w6, w7, w8, .ref q16, w10, w11, w12, w13, w14, w15]))] sz 1 (fun _ => [])) 1 6 (va_A [(q19, .inl (g.2 2, 60, .inl f20)), (q16, .inr (4, [.ref q19, .int 0])), (q1, .inr (11, [w5, w6, w7, w8, .ref q16, w10, w11, w12, w13, w14, w15]))] sz) := by
  refine ofH (by decide) (Nat.le_of_ble_eq_true rfl) rfl ?_
  intro p e s m args below meth c A ls hAe hsz hx hb hml hr hlocks hin hown hE hP hD hA hS hl htb hz
  have hown : s.vm.findClass RL = some m.cls := hown
  refine lv_aload_n hx hb dL_append_0 rfl (lv_at hl 2 rfl) ?_
  refine lv_iconst (v := 0) hx hb dL_append_1 (by decide) ?_
  refine lv_aload_n hx hb dL_append_2 rfl (lv_at hl 0 rfl) ?_
  refine lv_iload_n hx hb dL_append_3 rfl (lv_at hl 1 rfl) ?_
  refine gx_i (wr := [(q19, .inl (g.2 2, 60, .inl f20)), (q16, .inr (4, [.ref q19, .int 0])), (q1, .inr (11, [w5, w6, w7, w8, .ref q16, w10, w11, w12, w13, w14, w15]))]) (rVx (rest := [.int 0, .ref q3]) hx hb hml hown hE hP hD hS hA hz 2 rfl rfl (c221_X9_append l g hlx q1 x2 h4 h21 s.heap.size) (kV_X9_append hE (e1153 hE) rfl rfl ⟨(Nat.le_of_ble_eq_true rfl), (Nat.le_of_ble_eq_true rfl)⟩) [] rfl (by decide) rfl hl.1 rfl (lv_room (Nat.le_of_ble_eq_true rfl)) dL_append_4 ⟨(Nat.le_of_ble_eq_true rfl), (Nat.le_of_ble_eq_true rfl)⟩) hP hD hS hA [] [0, 1, 2] rfl rfl (by decide) (by decide) (fun ce9 q9 H locs hP hD hS hq1 hq2 hq3 => ?_)
  have hP : va_P g.1 vwCl [(q19, .inl (g.2 2, 60, .inl f20)), (q16, .inr (4, [.ref q19, .int 0])), (q1, .inr (11, [w5, w6, w7, w8, .ref q16, w10, w11, w12, w13, w14, w15]))] H := hP
  have hD : va_D A [(q19, .inl (g.2 2, 60, .inl f20)), (q16, .inr (4, [.ref q19, .int 0])), (q1, .inr (11, [w5, w6, w7, w8, .ref q16, w10, w11, w12, w13, w14, w15]))] := hD
  refine x_catch (name := "java/lang/IllegalArgumentException") (hh := [(0, 9, 12, 15), (0, 9, 15, 17)]) (tgt := 12) hown htb [] ⟨0, 9, 12, 15⟩ [⟨0, 9, 15, 17⟩] rfl (fun _ h => nomatch h) rfl (by decide) (e611 hE) (e641 hE) hq1 hq2 hq3 rfl ?_
  refine lv_astore_n (lv' := [(3, .ref q9), (0, .ref q1), (1, .int x2), (2, .ref q3)]) hx hb dL_append_12 rfl hl (by decide) rfl (fun ls hl => ?_)
  refine lv_iconst (v := 1) hx hb dL_append_13 (by decide) ?_
  exact x_zret hx hb hr rfl rfl hlocks hP hD hS hAe hsz (Nat.le_of_ble_eq_true rfl) (Nat.le_of_ble_eq_true rfl) (fun _ => 0) [] (by decide) rfl dL_append_14

set_option maxHeartbeats 4000000 in
set_option maxRecDepth 100000 in
theorem c223_X10_in (l : Launch) (g : gG) (x1 : Int32) (h2 : (32 : Int32) ≤ x1) (h3 : (126 : Int32) < x1) (sz : Nat) : Met l yX10_in [Cond.code yX10_in cX10_in 3 (some .boolean)] ({ frames := 0, cells := 0, slots := 0, locals := 0 } : Room) (va_Pc [.int x1, .int 32, .int 126] (PX g sz [])) (QI g [] sz 0 (fun _ => [])) 0 0 (va_A [] sz) := by
  refine ofN (by decide) (Nat.le_of_ble_eq_true rfl) rfl ?_
  intro p e s m args below meth c A ls hAe hsz hx hb hml hr hlocks hin hown hE hP hD hA hS hl
  have hown : s.vm.findClass RX10 = some m.cls := hown
  refine lv_iload_n hx hb dX10_in_0 rfl (lv_at hl 0 rfl) ?_
  refine lv_iload_n hx hb dX10_in_1 rfl (lv_at hl 1 rfl) ?_
  refine lv_icmp_lt (tgt := 14) hx hb dX10_in_2 (by decide) (fun h => absurd h (i_nlt h2)) (fun _ => ?_)
  refine lv_iload_n hx hb dX10_in_5 rfl (lv_at hl 0 rfl) ?_
  refine lv_iload_n hx hb dX10_in_6 rfl (lv_at hl 2 rfl) ?_
  refine lv_icmp_gt (tgt := 14) hx hb dX10_in_7 (by decide) (fun _ => ?_) (fun h => absurd h3 h)
  refine lv_iconst (v := 0) hx hb dX10_in_14 (by decide) ?_
  exact x_zret hx hb hr rfl rfl hlocks hP hD hS hAe hsz (Nat.le_of_ble_eq_true rfl) (Nat.le_of_ble_eq_true rfl) (fun _ => 0) [] (by decide) rfl dX10_in_15

set_option maxHeartbeats 4000000 in
set_option maxRecDepth 100000 in
theorem c224_X10_append (l : Launch) (g : gG) (q1 : Nat) (x2 : Int32) (w5 w6 w7 w8 w9 w10 w11 w12 w13 w14 w15 w16 w17 w18 w19 w20 w21 w22 w23 w24 w25 w26 w27 w28 w29 w30 w31 w32 w33 w34 w35 w36 w37 w38 w39 w40 w41 : Value) (h3 : (32 : Int32) ≤ x2) (h4 : (126 : Int32) < x2) (sz : Nat) : Met l yX10_append [Cond.code yX10_append cX10_append 2 (some .int)] ({ frames := 1, cells := 0, slots := 0, locals := 22 } : Room) (va_Pc [.ref q1, .int x2] (PX g sz [(q1, .inr (12, [w5, w6, w7, w8, w9, w10, w11, w12, w13, w14, w15, w16, w17, w18, w19, w20, w21, w22, w23, w24, w25, w26, w27, w28, w29, w30, w31, w32, w33, w34, w35, w36, w37, w38, w39, w40, w41]))])) (QI g [(q1, .inr (12, [w5, w6, w7, w8, w9, w10, w11, w12, w13, w14, w15, w16, w17, w18, w19, w20, w21, w22, w23, w24, w25, w26, w27, w28, w29, w30, w31, w32, w33, w34, w35, w36, w37, w38, w39, w40, w41]))] sz 0 (fun _ => [(q1, .inr (12, [w5, w6, w7, w8, w9, w10, .int 1, w12, w13, w14, w15, w16, w17, w18, w19, w20, w21, w22, w23, w24, w25, w26, w27, w28, w29, w30, w31, w32, w33, w34, w35, w36, w37, w38, w39, w40, w41]))])) 0 0 (va_A [(q1, .inr (12, [w5, w6, w7, w8, w9, w10, w11, w12, w13, w14, w15, w16, w17, w18, w19, w20, w21, w22, w23, w24, w25, w26, w27, w28, w29, w30, w31, w32, w33, w34, w35, w36, w37, w38, w39, w40, w41]))] sz) := by
  refine ofN (by decide) (Nat.le_of_ble_eq_true rfl) rfl ?_
  intro p e s m args below meth c A ls hAe hsz hx hb hml hr hlocks hin hown hE hP hD hA hS hl
  have hown : s.vm.findClass RX10 = some m.cls := hown
  refine lv_aload_n hx hb dX10_append_0 rfl (lv_at hl 0 rfl) ?_
  refine lv_iload_n hx hb dX10_append_1 rfl (lv_at hl 1 rfl) ?_
  refine lv_bipush (v := 32) hx hb dX10_append_2 (by decide) ?_
  refine lv_bipush (v := 126) hx hb dX10_append_4 (by decide) ?_
  refine g0_i (rS (rest := [.ref q1]) hx hb hml hown hE hP hD (c223_X10_in l g x2 h3 h4 s.heap.size) (kS_X10_in hE (e1431 hE) rfl rfl ⟨(Nat.le_of_ble_eq_true rfl), (Nat.le_of_ble_eq_true rfl)⟩) [] rfl (by decide) rfl hl.1 rfl (lv_room (Nat.le_of_ble_eq_true rfl)) dX10_append_6 ⟨(Nat.le_of_ble_eq_true rfl), (Nat.le_of_ble_eq_true rfl)⟩) hP hD hS hA (fun u9 H locs hP hS => ?_)
  refine lv_if_ne (tgt := 16) hx hb dX10_append_9 (by decide) (fun h => absurd h (by decide)) (fun _ => ?_)
  refine lv_iconst (v := 1) hx hb dX10_append_12 (by decide) ?_
  refine lv_goto (tgt := 30) hx hb dX10_append_13 (by decide) ?_
  refine pf_RX10_86 (ws' := [(q1, .inr (12, [w5, w6, w7, w8, w9, w10, .int 1, w12, w13, w14, w15, w16, w17, w18, w19, w20, w21, w22, w23, w24, w25, w26, w27, w28, w29, w30, w31, w32, w33, w34, w35, w36, w37, w38, w39, w40, w41]))]) hx hb hown hE hP hD hS 0 rfl rfl rfl (Nat.le_of_ble_eq_true rfl) dX10_append_30 rfl (fun H locs hP hD hS => ?_)
  refine lv_aload_n hx hb dX10_append_33 rfl (lv_at hl 0 rfl) ?_
  refine gf_RX10_86 hx hb hown hE hP 0 rfl rfl dX10_append_34 ?_
  refine lv_if_le (tgt := 42) hx hb dX10_append_37 (by decide) (fun h => absurd h (by decide)) (fun _ => ?_)
  refine lv_iconst (v := 0) hx hb dX10_append_40 (by decide) ?_
  exact x_zret hx hb hr rfl rfl hlocks hP hD hS hAe hsz (Nat.le_of_ble_eq_true rfl) (Nat.le_of_ble_eq_true rfl) (fun _ => 0) [0] (by decide) rfl dX10_append_41
