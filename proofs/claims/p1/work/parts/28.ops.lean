set_option maxHeartbeats 4000000 in
set_option maxRecDepth 100000 in
theorem c743_X10_added (l : Launch) (g : gG) (q1 : Nat) (x2 x3 : Int32) (w8 w9 w10 w11 w12 w13 w14 w15 w16 w17 w18 w19 w20 w21 w22 w23 w24 w25 w26 w27 w28 w29 w30 w31 w32 w33 w34 w35 w36 w37 w38 w39 w40 w41 w42 w43 w44 : Value) (h4 : (0 : Int32) ≤ x2) (h5 : x2 ≤ 1) (h6 : (1 : Int32) ≤ x3) (h7 : (9 : Int32) < x3) (sz : Nat) : Met l yX10_added [Cond.code yX10_added cX10_added 6 (some .int)] ({ frames := 2, cells := 0, slots := 0, locals := 46 } : Room) (va_Pc [.ref q1, .int 2, .int 2, .int x2, .int x3, .int (-1)] (PX g sz [(q1, .inr (12, [w8, w9, w10, w11, w12, w13, w14, w15, w16, w17, w18, w19, w20, w21, w22, w23, w24, w25, w26, w27, w28, w29, w30, w31, w32, w33, w34, w35, w36, w37, w38, w39, w40, w41, w42, w43, w44]))])) (QI g [(q1, .inr (12, [w8, w9, w10, w11, w12, w13, w14, w15, w16, w17, w18, w19, w20, w21, w22, w23, w24, w25, w26, w27, w28, w29, w30, w31, w32, w33, w34, w35, w36, w37, w38, w39, w40, w41, w42, w43, w44]))] sz 0 (fun _ => [(q1, .inr (12, [w8, w9, w10, w11, w12, w13, .int 2, w15, w16, w17, w18, w19, w20, w21, w22, w23, w24, w25, w26, w27, w28, w29, w30, w31, w32, w33, w34, w35, w36, w37, w38, w39, w40, w41, w42, w43, w44]))])) 0 0 (va_A [(q1, .inr (12, [w8, w9, w10, w11, w12, w13, w14, w15, w16, w17, w18, w19, w20, w21, w22, w23, w24, w25, w26, w27, w28, w29, w30, w31, w32, w33, w34, w35, w36, w37, w38, w39, w40, w41, w42, w43, w44]))] sz) := by
  refine ofN (by decide) (Nat.le_of_ble_eq_true rfl) rfl ?_
  intro p e s m args below meth c A ls hAe hsz hx hb hml hr hlocks hin hown hE hP hD hA hS hl
  have hown : s.vm.findClass RX10 = some m.cls := hown
  refine lv_aload_n hx hb dX10_added_0 rfl (lv_at hl 0 rfl) ?_
  refine lv_iload_n hx hb dX10_added_1 rfl (lv_at hl 1 rfl) ?_
  refine g0_i (rS (rest := [.ref q1]) hx hb hml hown hE hP hD (c94_X10_isPattern l g 2 (by decide) (by decide) s.heap.size) (kS_X10_isPattern hE (e1428 hE) rfl rfl ⟨(Nat.le_of_ble_eq_true rfl), (Nat.le_of_ble_eq_true rfl)⟩) [] rfl (by decide) rfl hl.1 rfl (lv_room (Nat.le_of_ble_eq_true rfl)) dX10_added_2 ⟨(Nat.le_of_ble_eq_true rfl), (Nat.le_of_ble_eq_true rfl)⟩) hP hD hS hA (fun u9 H locs hP hS => ?_)
  refine lv_if_ne (tgt := 12) hx hb dX10_added_5 (by decide) (fun _ => ?_) (fun h => absurd h (by decide))
  refine lv_iload_n hx hb dX10_added_12 rfl (lv_at hl 1 rfl) ?_
  refine lv_iload_n hx hb dX10_added_13 rfl (lv_at hl 2 rfl) ?_
  refine lv_iload_n hx hb dX10_added_14 rfl (lv_at hl 3 rfl) ?_
  refine lv_iload hx hb dX10_added_15 (lv_at hl 4 rfl) ?_
  refine lv_iload hx hb dX10_added_17 (lv_at hl 5 rfl) ?_
  refine g0_i (rS (rest := [.ref q1]) hx hb hml hown hE hP hD (c742_X10_isRanged l g x2 x3 h4 h5 h6 h7 H.size) (kS_X10_isRanged hE (e1434 hE) rfl rfl ⟨(Nat.le_of_ble_eq_true rfl), (Nat.le_of_ble_eq_true rfl)⟩) [] rfl (by decide) rfl hl.1 rfl (lv_room (Nat.le_of_ble_eq_true rfl)) dX10_added_19 ⟨(Nat.le_of_ble_eq_true rfl), (Nat.le_of_ble_eq_true rfl)⟩) hP hD hS hA (fun u9 H locs hP hS => ?_)
  refine lv_if_ne (tgt := 29) hx hb dX10_added_22 (by decide) (fun h => absurd h (by decide)) (fun _ => ?_)
  refine lv_iconst (v := 2) hx hb dX10_added_25 (by decide) ?_
  refine lv_goto (tgt := 30) hx hb dX10_added_26 (by decide) ?_
  refine pf_RX10_86 (ws' := [(q1, .inr (12, [w8, w9, w10, w11, w12, w13, .int 2, w15, w16, w17, w18, w19, w20, w21, w22, w23, w24, w25, w26, w27, w28, w29, w30, w31, w32, w33, w34, w35, w36, w37, w38, w39, w40, w41, w42, w43, w44]))]) hx hb hown hE hP hD hS 0 rfl rfl rfl (Nat.le_of_ble_eq_true rfl) dX10_added_30 rfl (fun H locs hP hD hS => ?_)
  refine lv_aload_n hx hb dX10_added_33 rfl (lv_at hl 0 rfl) ?_
  refine gf_RX10_86 hx hb hown hE hP 0 rfl rfl dX10_added_34 ?_
  refine lv_if_le (tgt := 42) hx hb dX10_added_37 (by decide) (fun h => absurd h (by decide)) (fun _ => ?_)
  refine lv_iconst (v := 0) hx hb dX10_added_40 (by decide) ?_
  exact x_zret hx hb hr rfl rfl hlocks hP hD hS hAe hsz (Nat.le_of_ble_eq_true rfl) (Nat.le_of_ble_eq_true rfl) (fun _ => 0) [0] (by decide) rfl dX10_added_41

set_option maxHeartbeats 4000000 in
set_option maxRecDepth 100000 in
theorem c744_X10_addCall (l : Launch) (g : gG) (q1 q44 q45 q46 q47 q48 : Nat) (x2 x3 : Int32) (w5 w7 w10 w13 w14 w15 w16 w17 w18 w19 w20 w21 w22 w23 w24 w25 w26 w27 w28 w29 w30 w31 w32 w33 w34 w35 w36 w37 w38 w39 w40 : Value) (f49 : Nat → Int32) (hf50 : f49 98 = 0) (hf51 : f49 0 = 0) (hf52 : f49 49 = 0) (hf53 : f49 147 = 0) (hf54 : f49 196 = 0) (hf55 : f49 245 = 0) (hf56 : f49 294 = 0) (hf57 : f49 343 = 0) (hf58 : f49 392 = 0) (h41 : (0 : Int32) ≤ x2) (h42 : x2 ≤ 1) (h43 : (1 : Int32) ≤ x3) (h60 : (9 : Int32) < x3) (sz : Nat) : Met l yX10_addCall [Cond.code yX10_addCall cX10_addCall 4 (some .int)] ({ frames := 3, cells := 0, slots := 0, locals := 71 } : Room) (va_Pc [.ref q1, .int 2, .int x2, .int x3] (PX g sz [(q46, .inl (g.2 0, 3976, .inl (fun _ => 0))), (q48, .inl (g.2 0, 8, .inl (fun _ => 0))), (q47, .inl (g.2 0, 8, .inl (fun _ => 0))), (q45, .inl (g.2 0, 497, .inl (fun _ => 0))), (q44, .inl (g.2 0, 497, .inl f49)), (q1, .inr (12, [.ref q44, w5, .ref q45, w7, .ref q46, .int 0, w10, .ref q47, .ref q48, w13, w14, w15, w16, w17, w18, w19, w20, w21, w22, w23, w24, w25, w26, w27, w28, w29, w30, w31, w32, w33, w34, w35, w36, w37, w38, w39, w40]))])) (QI g [(q46, .inl (g.2 0, 3976, .inl (fun _ => 0))), (q48, .inl (g.2 0, 8, .inl (fun _ => 0))), (q47, .inl (g.2 0, 8, .inl (fun _ => 0))), (q45, .inl (g.2 0, 497, .inl (fun _ => 0))), (q44, .inl (g.2 0, 497, .inl f49)), (q1, .inr (12, [.ref q44, w5, .ref q45, w7, .ref q46, .int 0, w10, .ref q47, .ref q48, w13, w14, w15, w16, w17, w18, w19, w20, w21, w22, w23, w24, w25, w26, w27, w28, w29, w30, w31, w32, w33, w34, w35, w36, w37, w38, w39, w40]))] sz 0 (fun _ => [(q1, .inr (12, [.ref q44, w5, .ref q45, w7, .ref q46, .int 0, .int 2, .ref q47, .ref q48, w13, w14, w15, w16, w17, w18, w19, w20, w21, w22, w23, w24, w25, w26, w27, w28, w29, w30, w31, w32, w33, w34, w35, w36, w37, w38, w39, w40]))])) 0 0 (va_A [(q46, .inl (g.2 0, 3976, .inl (fun _ => 0))), (q48, .inl (g.2 0, 8, .inl (fun _ => 0))), (q47, .inl (g.2 0, 8, .inl (fun _ => 0))), (q45, .inl (g.2 0, 497, .inl (fun _ => 0))), (q44, .inl (g.2 0, 497, .inl f49)), (q1, .inr (12, [.ref q44, w5, .ref q45, w7, .ref q46, .int 0, w10, .ref q47, .ref q48, w13, w14, w15, w16, w17, w18, w19, w20, w21, w22, w23, w24, w25, w26, w27, w28, w29, w30, w31, w32, w33, w34, w35, w36, w37, w38, w39, w40]))] sz) := by
  refine ofN (by decide) (Nat.le_of_ble_eq_true rfl) rfl ?_
  intro p e s m args below meth c A ls hAe hsz hx hb hml hr hlocks hin hown hE hP hD hA hS hl
  have hown : s.vm.findClass RX10 = some m.cls := hown
  refine lv_aload_n hx hb dX10_addCall_0 rfl (lv_at hl 0 rfl) ?_
  refine lv_iload_n hx hb dX10_addCall_1 rfl (lv_at hl 1 rfl) ?_
  refine lv_iconst (v := 2) hx hb dX10_addCall_2 (by decide) ?_
  refine lv_iload_n hx hb dX10_addCall_3 rfl (lv_at hl 2 rfl) ?_
  refine lv_iload_n hx hb dX10_addCall_4 rfl (lv_at hl 3 rfl) ?_
  refine lv_iconst (v := (-1)) hx hb dX10_addCall_5 (by decide) ?_
  refine g_i (wr := [(q46, .inl (g.2 0, 3976, .inl (fun _ => 0))), (q48, .inl (g.2 0, 8, .inl (fun _ => 0))), (q47, .inl (g.2 0, 8, .inl (fun _ => 0))), (q45, .inl (g.2 0, 497, .inl (fun _ => 0))), (q44, .inl (g.2 0, 497, .inl f49))]) (rV (rest := []) hx hb hml hown hE hP hD 5 rfl rfl (c743_X10_added l g q1 x2 x3 (.ref q44) w5 (.ref q45) w7 (.ref q46) (.int 0) w10 (.ref q47) (.ref q48) w13 w14 w15 w16 w17 w18 w19 w20 w21 w22 w23 w24 w25 w26 w27 w28 w29 w30 w31 w32 w33 w34 w35 w36 w37 w38 w39 w40 h41 h42 h43 h60 s.heap.size) (kV_X10_added hE (e1424 hE) rfl rfl ⟨(Nat.le_of_ble_eq_true rfl), (Nat.le_of_ble_eq_true rfl)⟩) [5] rfl (by decide) rfl hl.1 rfl (lv_room (Nat.le_of_ble_eq_true rfl)) dX10_addCall_6 ⟨(Nat.le_of_ble_eq_true rfl), (Nat.le_of_ble_eq_true rfl)⟩) hP hD hS hA [5] [0, 1, 2, 3, 4] rfl rfl (by decide) (by decide) (fun u1 H locs hP hD hS => ?_)
  have hP : va_P g.1 vwCl [(q46, .inl (g.2 0, 3976, .inl (fun _ => 0))), (q48, .inl (g.2 0, 8, .inl (fun _ => 0))), (q47, .inl (g.2 0, 8, .inl (fun _ => 0))), (q45, .inl (g.2 0, 497, .inl (fun _ => 0))), (q44, .inl (g.2 0, 497, .inl f49)), (q1, .inr (12, [.ref q44, w5, .ref q45, w7, .ref q46, .int 0, .int 2, .ref q47, .ref q48, w13, w14, w15, w16, w17, w18, w19, w20, w21, w22, w23, w24, w25, w26, w27, w28, w29, w30, w31, w32, w33, w34, w35, w36, w37, w38, w39, w40]))] H := hP
  have hD : va_D A [(q46, .inl (g.2 0, 3976, .inl (fun _ => 0))), (q48, .inl (g.2 0, 8, .inl (fun _ => 0))), (q47, .inl (g.2 0, 8, .inl (fun _ => 0))), (q45, .inl (g.2 0, 497, .inl (fun _ => 0))), (q44, .inl (g.2 0, 497, .inl f49)), (q1, .inr (12, [.ref q44, w5, .ref q45, w7, .ref q46, .int 0, .int 2, .ref q47, .ref q48, w13, w14, w15, w16, w17, w18, w19, w20, w21, w22, w23, w24, w25, w26, w27, w28, w29, w30, w31, w32, w33, w34, w35, w36, w37, w38, w39, w40]))] := hD
  exact x_zret hx hb hr rfl rfl hlocks hP hD hS hAe hsz (Nat.le_of_ble_eq_true rfl) (Nat.le_of_ble_eq_true rfl) (fun _ => 0) [5] (by decide) rfl dX10_addCall_9

set_option maxHeartbeats 4000000 in
set_option maxRecDepth 100000 in
theorem c745_X9_requireRange (l : Launch) (g : gG) (hlx : l.stackTraces = false) (x1 : Int32) (h2 : (0 : Int32) ≤ x1) (h3 : (1 : Int32) < x1) (sz : Nat) : vx_Met l yX9_requireRange [Cond.code yX9_requireRange cX9_requireRange 3 none] ({ frames := 6, cells := 1, slots := 6, locals := 100 } : Room) (va_Pc [.int x1, .int 0, .int 1] (PZ g sz [])) NV (XW g [] sz "java/lang/IllegalArgumentException" []) 1 6 (va_A [] sz) := by
  refine ofX (by decide) (Nat.le_of_ble_eq_true rfl) rfl ?_
  intro p e s m args below meth c A ls hAe hsz hx hb hml hr hlocks hin hown hE hP hD hA hS hl hex hz
  have hown : s.vm.findClass RX9 = some m.cls := hown
  refine lv_iload_n hx hb dX9_requireRange_0 rfl (lv_at hl 0 rfl) ?_
  refine lv_iload_n hx hb dX9_requireRange_1 rfl (lv_at hl 1 rfl) ?_
  refine lv_icmp_lt (tgt := 10) hx hb dX9_requireRange_2 (by decide) (fun h => absurd h (i_nlt h2)) (fun _ => ?_)
  refine lv_iload_n hx hb dX9_requireRange_5 rfl (lv_at hl 0 rfl) ?_
  refine lv_iload_n hx hb dX9_requireRange_6 rfl (lv_at hl 2 rfl) ?_
  refine lv_icmp_le (tgt := 21) hx hb dX9_requireRange_7 (by decide) (fun h => absurd h (i_nle h3)) (fun _ => ?_)
  exact x_throwW (text := "a number is out of range") (names := ["java/lang/RuntimeException", "java/lang/Exception"]) hx hb hlx hown hE (by decide) (by decide) (e639 hE) (e20 hE) (by decide +kernel) (th_215 hE) tg_215_211 hz (by rw [hml]; exact hl.1) dX9_requireRange_10 dX9_requireRange_13 dX9_requireRange_14 dX9_requireRange_17 dX9_requireRange_20 hex (Nat.le_of_ble_eq_true rfl) (Nat.le_of_ble_eq_true rfl) (Nat.le_of_ble_eq_true rfl) (Nat.le_of_ble_eq_true rfl) hlocks hP hD hS hAe hsz (Nat.le_of_ble_eq_true rfl) (Nat.le_of_ble_eq_true rfl) [] (by decide) rfl

set_option maxHeartbeats 4000000 in
set_option maxRecDepth 100000 in
theorem c746_X9_addCall (l : Launch) (g : gG) (hlx : l.stackTraces = false) (q1 : Nat) (x2 x3 : Int32) (h4 : (0 : Int32) ≤ x2) (h5 : (1 : Int32) < x2) (sz : Nat) : vx_Met l yX9_addCall [Cond.code yX9_addCall cX9_addCall 4 (some .int)] ({ frames := 7, cells := 1, slots := 6, locals := 122 } : Room) (va_Pc [.ref q1, .int 2, .int x2, .int x3] (PZ g sz [])) NI (XW g [] sz "java/lang/IllegalArgumentException" []) 1 6 (va_A [] sz) := by
  refine ofX (by decide) (Nat.le_of_ble_eq_true rfl) rfl ?_
  intro p e s m args below meth c A ls hAe hsz hx hb hml hr hlocks hin hown hE hP hD hA hS hl hex hz
  have hown : s.vm.findClass RX9 = some m.cls := hown
  refine lv_iload_n hx hb dX9_addCall_0 rfl (lv_at hl 1 rfl) ?_
  refine g0_v (rS (rest := []) hx hb hml hown hE hP hD (c89_X9_requirePattern l g 2 (by decide) (by decide) s.heap.size) (kS_X9_requirePattern hE (e617 hE) rfl rfl ⟨(Nat.le_of_ble_eq_true rfl), (Nat.le_of_ble_eq_true rfl)⟩) [] rfl (by decide) rfl hl.1 rfl (lv_room (Nat.le_of_ble_eq_true rfl)) dX9_addCall_1 ⟨(Nat.le_of_ble_eq_true rfl), (Nat.le_of_ble_eq_true rfl)⟩) hP hD hS hA (fun u9 H locs hP hS => ?_)
  refine lv_iload_n hx hb dX9_addCall_4 rfl (lv_at hl 2 rfl) ?_
  refine lv_iconst (v := 0) hx hb dX9_addCall_5 (by decide) ?_
  refine lv_iload_n hx hb dX9_addCall_6 rfl (lv_at hl 1 rfl) ?_
  refine lv_iconst (v := 1) hx hb dX9_addCall_7 (by decide) ?_
  refine x_isub (v := 1) hx hb dX9_addCall_8 (by decide) ?_
  refine gx_v (wr := []) (rSx (rest := []) hx hb hml hown hE hP hD hS hA hz (c745_X9_requireRange l g hlx x2 h4 h5 H.size) (kS_X9_requireRange hE (e636 hE) rfl rfl ⟨(Nat.le_of_ble_eq_true rfl), (Nat.le_of_ble_eq_true rfl)⟩) [] rfl (by decide) rfl hl.1 rfl (lv_room (Nat.le_of_ble_eq_true rfl)) dX9_addCall_9 ⟨(Nat.le_of_ble_eq_true rfl), (Nat.le_of_ble_eq_true rfl)⟩) hP hD hS hA [] [] rfl rfl (by decide) (by decide) (fun ce9 q9 H locs hP hD hS hq1 hq2 hq3 => ?_)
  exact x_out hex hlocks hq1 hq2 hq3 hP hD hS hAe hsz (Nat.le_of_ble_eq_true rfl) (Nat.le_of_ble_eq_true rfl) [] (by decide) rfl

set_option maxHeartbeats 4000000 in
set_option maxRecDepth 100000 in
theorem c747_L_addCall (l : Launch) (g : gG) (hlx : l.stackTraces = false) (q1 q4 : Nat) (x2 x3 : Int32) (w7 w8 w9 w10 w11 w12 w13 w14 w15 w16 w17 : Value) (h5 : (0 : Int32) ≤ x2) (h6 : (1 : Int32) < x2) (sz : Nat) : Met l yL_addCall [Cond.codeWith yL_addCall cL_addCall 6 (some .int) [(0, 12, 15, 13), (0, 12, 19, 15), (0, 12, 23, 17)]] ({ frames := 8, cells := 1, slots := 6, locals := 145 } : Room) (va_Pc [.ref q1, .int 2, .int x2, .int x3, .ref q4] (PZ g sz [(q1, .inr (11, [w7, w8, w9, w10, w11, w12, w13, w14, w15, w16, w17]))])) (QI g [(q1, .inr (11, [w7, w8, w9, w10, w11, w12, w13, w14, w15, w16, w17]))] sz 2 (fun _ => [])) 1 6 (va_A [(q1, .inr (11, [w7, w8, w9, w10, w11, w12, w13, w14, w15, w16, w17]))] sz) := by
  refine ofH (by decide) (Nat.le_of_ble_eq_true rfl) rfl ?_
  intro p e s m args below meth c A ls hAe hsz hx hb hml hr hlocks hin hown hE hP hD hA hS hl htb hz
  have hown : s.vm.findClass RL = some m.cls := hown
  refine lv_aload hx hb dL_addCall_0 (lv_at hl 4 rfl) ?_
  refine lv_iconst (v := 0) hx hb dL_addCall_2 (by decide) ?_
  refine lv_aload_n hx hb dL_addCall_3 rfl (lv_at hl 0 rfl) ?_
  refine lv_iload_n hx hb dL_addCall_4 rfl (lv_at hl 1 rfl) ?_
  refine lv_iload_n hx hb dL_addCall_5 rfl (lv_at hl 2 rfl) ?_
  refine lv_iload_n hx hb dL_addCall_6 rfl (lv_at hl 3 rfl) ?_
  refine gx_i (wr := [(q1, .inr (11, [w7, w8, w9, w10, w11, w12, w13, w14, w15, w16, w17]))]) (rVx (rest := [.int 0, .ref q4]) hx hb hml hown hE hP hD hS hA hz 0 rfl rfl (c746_X9_addCall l g hlx q1 x2 x3 h5 h6 s.heap.size) (kV_X9_addCall hE (e737 hE) rfl rfl ⟨(Nat.le_of_ble_eq_true rfl), (Nat.le_of_ble_eq_true rfl)⟩) [] rfl (by decide) rfl hl.1 rfl (lv_room (Nat.le_of_ble_eq_true rfl)) dL_addCall_7 ⟨(Nat.le_of_ble_eq_true rfl), (Nat.le_of_ble_eq_true rfl)⟩) hP hD hS hA [] [0] rfl rfl (by decide) (by decide) (fun ce9 q9 H locs hP hD hS hq1 hq2 hq3 => ?_)
  have hP : va_P g.1 vwCl [(q1, .inr (11, [w7, w8, w9, w10, w11, w12, w13, w14, w15, w16, w17]))] H := hP
  have hD : va_D A [(q1, .inr (11, [w7, w8, w9, w10, w11, w12, w13, w14, w15, w16, w17]))] := hD
  refine x_catch (name := "java/lang/IllegalArgumentException") (hh := [(0, 12, 15, 13), (0, 12, 19, 15), (0, 12, 23, 17)]) (tgt := 19) hown htb [⟨0, 12, 15, 13⟩] ⟨0, 12, 19, 15⟩ [⟨0, 12, 23, 17⟩] rfl (fun z hz => by
    rcases List.mem_cons.mp hz with rfl | hz
    · exact Or.inr ⟨by decide, "java/lang/IndexOutOfBoundsException", e532 hE, hE.2.2.2.2.2 ("java/lang/IllegalArgumentException", "java/lang/IndexOutOfBoundsException") (by decide +kernel)⟩
    exact nomatch hz) rfl (by decide) (e611 hE) (e641 hE) hq1 hq2 hq3 rfl ?_
  refine lv_astore (lv' := [(5, .ref q9), (0, .ref q1), (1, .int 2), (2, .int x2), (3, .int x3), (4, .ref q4)]) hx hb dL_addCall_19 hl (by decide) rfl (fun ls hl => ?_)
  refine lv_iconst (v := 2) hx hb dL_addCall_21 (by decide) ?_
  exact x_zret hx hb hr rfl rfl hlocks hP hD hS hAe hsz (Nat.le_of_ble_eq_true rfl) (Nat.le_of_ble_eq_true rfl) (fun _ => 0) [] (by decide) rfl dL_addCall_22

set_option maxHeartbeats 4000000 in
set_option maxRecDepth 100000 in
theorem c748_X10_in (l : Launch) (g : gG) (x1 : Int32) (h2 : (0 : Int32) ≤ x1) (h3 : (1 : Int32) < x1) (sz : Nat) : Met l yX10_in [Cond.code yX10_in cX10_in 3 (some .boolean)] ({ frames := 0, cells := 0, slots := 0, locals := 0 } : Room) (va_Pc [.int x1, .int 0, .int 1] (PX g sz [])) (QI g [] sz 0 (fun _ => [])) 0 0 (va_A [] sz) := by
  refine ofN (by decide) (Nat.le_of_ble_eq_true rfl) rfl ?_
  intro p e s m args below meth c A ls hAe hsz hx hb hml hr hlocks hin hown hE hP hD hA hS hl
  have hown : s.vm.findClass RX10 = some m.cls := hown
  refine lv_iload_n hx hb dX10_in_0 rfl (lv_at hl 0 rfl) ?_
  refine lv_iload_n hx hb dX10_in_1 rfl (lv_at hl 1 rfl) ?_
  refine lv_icmp_lt (tgt := 14) hx hb dX10_in_2 (by decide) (fun h => absurd h (i_nlt h2)) (fun _ => ?_)
  refine lv_iload_n hx hb dX10_in_5 rfl (lv_at hl 0 rfl) ?_
  refine lv_iload_n hx hb dX10_in_6 rfl (lv_at hl 2 rfl) ?_
  refine lv_icmp_gt (tgt := 14) hx hb dX10_in_7 (by decide) (fun _ => ?_) (fun h => absurd h3 h)
  refine lv_iconst (v := 0) hx hb dX10_in_14 (by decide) ?_
  exact x_zret hx hb hr rfl rfl hlocks hP hD hS hAe hsz (Nat.le_of_ble_eq_true rfl) (Nat.le_of_ble_eq_true rfl) (fun _ => 0) [] (by decide) rfl dX10_in_15

set_option maxHeartbeats 4000000 in
set_option maxRecDepth 100000 in
theorem c749_X10_isRanged (l : Launch) (g : gG) (x1 x2 : Int32) (h3 : (0 : Int32) ≤ x1) (h4 : (1 : Int32) < x1) (sz : Nat) : Met l yX10_isRanged [Cond.code yX10_isRanged cX10_isRanged 5 (some .boolean)] ({ frames := 1, cells := 0, slots := 0, locals := 22 } : Room) (va_Pc [.int 2, .int 2, .int x1, .int x2, .int (-1)] (PX g sz [])) (QI g [] sz 0 (fun _ => [])) 0 0 (va_A [] sz) := by
  refine ofN (by decide) (Nat.le_of_ble_eq_true rfl) rfl ?_
  intro p e s m args below meth c A ls hAe hsz hx hb hml hr hlocks hin hown hE hP hD hA hS hl
  have hown : s.vm.findClass RX10 = some m.cls := hown
  refine lv_iload_n hx hb dX10_isRanged_0 rfl (lv_at hl 1 rfl) ?_
  refine lv_if_ne (tgt := 43) hx hb dX10_isRanged_1 (by decide) (fun _ => ?_) (fun h => absurd h (by decide))
  refine lv_iload_n hx hb dX10_isRanged_43 rfl (lv_at hl 1 rfl) ?_
  refine lv_iconst (v := 1) hx hb dX10_isRanged_44 (by decide) ?_
  refine lv_icmp_ne (tgt := 58) hx hb dX10_isRanged_45 (by decide) (fun _ => ?_) (fun h => absurd h (by decide))
  refine lv_iload_n hx hb dX10_isRanged_58 rfl (lv_at hl 2 rfl) ?_
  refine lv_iconst (v := 0) hx hb dX10_isRanged_59 (by decide) ?_
  refine lv_iload_n hx hb dX10_isRanged_60 rfl (lv_at hl 0 rfl) ?_
  refine lv_iconst (v := 1) hx hb dX10_isRanged_61 (by decide) ?_
  refine x_isub (v := 1) hx hb dX10_isRanged_62 (by decide) ?_
  refine g0_i (rS (rest := []) hx hb hml hown hE hP hD (c748_X10_in l g x1 h3 h4 s.heap.size) (kS_X10_in hE (e1431 hE) rfl rfl ⟨(Nat.le_of_ble_eq_true rfl), (Nat.le_of_ble_eq_true rfl)⟩) [] rfl (by decide) rfl hl.1 rfl (lv_room (Nat.le_of_ble_eq_true rfl)) dX10_isRanged_63 ⟨(Nat.le_of_ble_eq_true rfl), (Nat.le_of_ble_eq_true rfl)⟩) hP hD hS hA (fun u9 H locs hP hS => ?_)
  refine lv_if_eq (tgt := 83) hx hb dX10_isRanged_66 (by decide) (fun _ => ?_) (fun h => absurd (by decide) h)
  refine lv_iconst (v := 0) hx hb dX10_isRanged_83 (by decide) ?_
  exact x_zret hx hb hr rfl rfl hlocks hP hD hS hAe hsz (Nat.le_of_ble_eq_true rfl) (Nat.le_of_ble_eq_true rfl) (fun _ => 0) [] (by decide) rfl dX10_isRanged_84

set_option maxHeartbeats 4000000 in
set_option maxRecDepth 100000 in
theorem c750_X10_added (l : Launch) (g : gG) (q1 : Nat) (x2 x3 : Int32) (w6 w7 w8 w9 w10 w11 w12 w13 w14 w15 w16 w17 w18 w19 w20 w21 w22 w23 w24 w25 w26 w27 w28 w29 w30 w31 w32 w33 w34 w35 w36 w37 w38 w39 w40 w41 w42 : Value) (h4 : (0 : Int32) ≤ x2) (h5 : (1 : Int32) < x2) (sz : Nat) : Met l yX10_added [Cond.code yX10_added cX10_added 6 (some .int)] ({ frames := 2, cells := 0, slots := 0, locals := 46 } : Room) (va_Pc [.ref q1, .int 2, .int 2, .int x2, .int x3, .int (-1)] (PX g sz [(q1, .inr (12, [w6, w7, w8, w9, w10, w11, w12, w13, w14, w15, w16, w17, w18, w19, w20, w21, w22, w23, w24, w25, w26, w27, w28, w29, w30, w31, w32, w33, w34, w35, w36, w37, w38, w39, w40, w41, w42]))])) (QI g [(q1, .inr (12, [w6, w7, w8, w9, w10, w11, w12, w13, w14, w15, w16, w17, w18, w19, w20, w21, w22, w23, w24, w25, w26, w27, w28, w29, w30, w31, w32, w33, w34, w35, w36, w37, w38, w39, w40, w41, w42]))] sz 0 (fun _ => [(q1, .inr (12, [w6, w7, w8, w9, w10, w11, .int 2, w13, w14, w15, w16, w17, w18, w19, w20, w21, w22, w23, w24, w25, w26, w27, w28, w29, w30, w31, w32, w33, w34, w35, w36, w37, w38, w39, w40, w41, w42]))])) 0 0 (va_A [(q1, .inr (12, [w6, w7, w8, w9, w10, w11, w12, w13, w14, w15, w16, w17, w18, w19, w20, w21, w22, w23, w24, w25, w26, w27, w28, w29, w30, w31, w32, w33, w34, w35, w36, w37, w38, w39, w40, w41, w42]))] sz) := by
  refine ofN (by decide) (Nat.le_of_ble_eq_true rfl) rfl ?_
  intro p e s m args below meth c A ls hAe hsz hx hb hml hr hlocks hin hown hE hP hD hA hS hl
  have hown : s.vm.findClass RX10 = some m.cls := hown
  refine lv_aload_n hx hb dX10_added_0 rfl (lv_at hl 0 rfl) ?_
  refine lv_iload_n hx hb dX10_added_1 rfl (lv_at hl 1 rfl) ?_
  refine g0_i (rS (rest := [.ref q1]) hx hb hml hown hE hP hD (c94_X10_isPattern l g 2 (by decide) (by decide) s.heap.size) (kS_X10_isPattern hE (e1428 hE) rfl rfl ⟨(Nat.le_of_ble_eq_true rfl), (Nat.le_of_ble_eq_true rfl)⟩) [] rfl (by decide) rfl hl.1 rfl (lv_room (Nat.le_of_ble_eq_true rfl)) dX10_added_2 ⟨(Nat.le_of_ble_eq_true rfl), (Nat.le_of_ble_eq_true rfl)⟩) hP hD hS hA (fun u9 H locs hP hS => ?_)
  refine lv_if_ne (tgt := 12) hx hb dX10_added_5 (by decide) (fun _ => ?_) (fun h => absurd h (by decide))
  refine lv_iload_n hx hb dX10_added_12 rfl (lv_at hl 1 rfl) ?_
  refine lv_iload_n hx hb dX10_added_13 rfl (lv_at hl 2 rfl) ?_
  refine lv_iload_n hx hb dX10_added_14 rfl (lv_at hl 3 rfl) ?_
  refine lv_iload hx hb dX10_added_15 (lv_at hl 4 rfl) ?_
  refine lv_iload hx hb dX10_added_17 (lv_at hl 5 rfl) ?_
  refine g0_i (rS (rest := [.ref q1]) hx hb hml hown hE hP hD (c749_X10_isRanged l g x2 x3 h4 h5 H.size) (kS_X10_isRanged hE (e1434 hE) rfl rfl ⟨(Nat.le_of_ble_eq_true rfl), (Nat.le_of_ble_eq_true rfl)⟩) [] rfl (by decide) rfl hl.1 rfl (lv_room (Nat.le_of_ble_eq_true rfl)) dX10_added_19 ⟨(Nat.le_of_ble_eq_true rfl), (Nat.le_of_ble_eq_true rfl)⟩) hP hD hS hA (fun u9 H locs hP hS => ?_)
  refine lv_if_ne (tgt := 29) hx hb dX10_added_22 (by decide) (fun h => absurd h (by decide)) (fun _ => ?_)
  refine lv_iconst (v := 2) hx hb dX10_added_25 (by decide) ?_
  refine lv_goto (tgt := 30) hx hb dX10_added_26 (by decide) ?_
  refine pf_RX10_86 (ws' := [(q1, .inr (12, [w6, w7, w8, w9, w10, w11, .int 2, w13, w14, w15, w16, w17, w18, w19, w20, w21, w22, w23, w24, w25, w26, w27, w28, w29, w30, w31, w32, w33, w34, w35, w36, w37, w38, w39, w40, w41, w42]))]) hx hb hown hE hP hD hS 0 rfl rfl rfl (Nat.le_of_ble_eq_true rfl) dX10_added_30 rfl (fun H locs hP hD hS => ?_)
  refine lv_aload_n hx hb dX10_added_33 rfl (lv_at hl 0 rfl) ?_
  refine gf_RX10_86 hx hb hown hE hP 0 rfl rfl dX10_added_34 ?_
  refine lv_if_le (tgt := 42) hx hb dX10_added_37 (by decide) (fun h => absurd h (by decide)) (fun _ => ?_)
  refine lv_iconst (v := 0) hx hb dX10_added_40 (by decide) ?_
  exact x_zret hx hb hr rfl rfl hlocks hP hD hS hAe hsz (Nat.le_of_ble_eq_true rfl) (Nat.le_of_ble_eq_true rfl) (fun _ => 0) [0] (by decide) rfl dX10_added_41

set_option maxHeartbeats 4000000 in
set_option maxRecDepth 100000 in
theorem c751_X10_addCall (l : Launch) (g : gG) (q1 q43 q44 q45 q46 q47 : Nat) (x2 x3 : Int32) (w5 w7 w10 w13 w14 w15 w16 w17 w18 w19 w20 w21 w22 w23 w24 w25 w26 w27 w28 w29 w30 w31 w32 w33 w34 w35 w36 w37 w38 w39 w40 : Value) (f48 : Nat → Int32) (hf49 : f48 98 = 0) (hf50 : f48 0 = 0) (hf51 : f48 49 = 0) (hf52 : f48 147 = 0) (hf53 : f48 196 = 0) (hf54 : f48 245 = 0) (hf55 : f48 294 = 0) (hf56 : f48 343 = 0) (hf57 : f48 392 = 0) (h41 : (0 : Int32) ≤ x2) (h42 : (1 : Int32) < x2) (sz : Nat) : Met l yX10_addCall [Cond.code yX10_addCall cX10_addCall 4 (some .int)] ({ frames := 3, cells := 0, slots := 0, locals := 71 } : Room) (va_Pc [.ref q1, .int 2, .int x2, .int x3] (PX g sz [(q45, .inl (g.2 0, 3976, .inl (fun _ => 0))), (q47, .inl (g.2 0, 8, .inl (fun _ => 0))), (q46, .inl (g.2 0, 8, .inl (fun _ => 0))), (q44, .inl (g.2 0, 497, .inl (fun _ => 0))), (q43, .inl (g.2 0, 497, .inl f48)), (q1, .inr (12, [.ref q43, w5, .ref q44, w7, .ref q45, .int 0, w10, .ref q46, .ref q47, w13, w14, w15, w16, w17, w18, w19, w20, w21, w22, w23, w24, w25, w26, w27, w28, w29, w30, w31, w32, w33, w34, w35, w36, w37, w38, w39, w40]))])) (QI g [(q45, .inl (g.2 0, 3976, .inl (fun _ => 0))), (q47, .inl (g.2 0, 8, .inl (fun _ => 0))), (q46, .inl (g.2 0, 8, .inl (fun _ => 0))), (q44, .inl (g.2 0, 497, .inl (fun _ => 0))), (q43, .inl (g.2 0, 497, .inl f48)), (q1, .inr (12, [.ref q43, w5, .ref q44, w7, .ref q45, .int 0, w10, .ref q46, .ref q47, w13, w14, w15, w16, w17, w18, w19, w20, w21, w22, w23, w24, w25, w26, w27, w28, w29, w30, w31, w32, w33, w34, w35, w36, w37, w38, w39, w40]))] sz 0 (fun _ => [(q1, .inr (12, [.ref q43, w5, .ref q44, w7, .ref q45, .int 0, .int 2, .ref q46, .ref q47, w13, w14, w15, w16, w17, w18, w19, w20, w21, w22, w23, w24, w25, w26, w27, w28, w29, w30, w31, w32, w33, w34, w35, w36, w37, w38, w39, w40]))])) 0 0 (va_A [(q45, .inl (g.2 0, 3976, .inl (fun _ => 0))), (q47, .inl (g.2 0, 8, .inl (fun _ => 0))), (q46, .inl (g.2 0, 8, .inl (fun _ => 0))), (q44, .inl (g.2 0, 497, .inl (fun _ => 0))), (q43, .inl (g.2 0, 497, .inl f48)), (q1, .inr (12, [.ref q43, w5, .ref q44, w7, .ref q45, .int 0, w10, .ref q46, .ref q47, w13, w14, w15, w16, w17, w18, w19, w20, w21, w22, w23, w24, w25, w26, w27, w28, w29, w30, w31, w32, w33, w34, w35, w36, w37, w38, w39, w40]))] sz) := by
  refine ofN (by decide) (Nat.le_of_ble_eq_true rfl) rfl ?_
  intro p e s m args below meth c A ls hAe hsz hx hb hml hr hlocks hin hown hE hP hD hA hS hl
  have hown : s.vm.findClass RX10 = some m.cls := hown
  refine lv_aload_n hx hb dX10_addCall_0 rfl (lv_at hl 0 rfl) ?_
  refine lv_iload_n hx hb dX10_addCall_1 rfl (lv_at hl 1 rfl) ?_
  refine lv_iconst (v := 2) hx hb dX10_addCall_2 (by decide) ?_
  refine lv_iload_n hx hb dX10_addCall_3 rfl (lv_at hl 2 rfl) ?_
  refine lv_iload_n hx hb dX10_addCall_4 rfl (lv_at hl 3 rfl) ?_
  refine lv_iconst (v := (-1)) hx hb dX10_addCall_5 (by decide) ?_
  refine g_i (wr := [(q45, .inl (g.2 0, 3976, .inl (fun _ => 0))), (q47, .inl (g.2 0, 8, .inl (fun _ => 0))), (q46, .inl (g.2 0, 8, .inl (fun _ => 0))), (q44, .inl (g.2 0, 497, .inl (fun _ => 0))), (q43, .inl (g.2 0, 497, .inl f48))]) (rV (rest := []) hx hb hml hown hE hP hD 5 rfl rfl (c750_X10_added l g q1 x2 x3 (.ref q43) w5 (.ref q44) w7 (.ref q45) (.int 0) w10 (.ref q46) (.ref q47) w13 w14 w15 w16 w17 w18 w19 w20 w21 w22 w23 w24 w25 w26 w27 w28 w29 w30 w31 w32 w33 w34 w35 w36 w37 w38 w39 w40 h41 h42 s.heap.size) (kV_X10_added hE (e1424 hE) rfl rfl ⟨(Nat.le_of_ble_eq_true rfl), (Nat.le_of_ble_eq_true rfl)⟩) [5] rfl (by decide) rfl hl.1 rfl (lv_room (Nat.le_of_ble_eq_true rfl)) dX10_addCall_6 ⟨(Nat.le_of_ble_eq_true rfl), (Nat.le_of_ble_eq_true rfl)⟩) hP hD hS hA [5] [0, 1, 2, 3, 4] rfl rfl (by decide) (by decide) (fun u1 H locs hP hD hS => ?_)
  have hP : va_P g.1 vwCl [(q45, .inl (g.2 0, 3976, .inl (fun _ => 0))), (q47, .inl (g.2 0, 8, .inl (fun _ => 0))), (q46, .inl (g.2 0, 8, .inl (fun _ => 0))), (q44, .inl (g.2 0, 497, .inl (fun _ => 0))), (q43, .inl (g.2 0, 497, .inl f48)), (q1, .inr (12, [.ref q43, w5, .ref q44, w7, .ref q45, .int 0, .int 2, .ref q46, .ref q47, w13, w14, w15, w16, w17, w18, w19, w20, w21, w22, w23, w24, w25, w26, w27, w28, w29, w30, w31, w32, w33, w34, w35, w36, w37, w38, w39, w40]))] H := hP
  have hD : va_D A [(q45, .inl (g.2 0, 3976, .inl (fun _ => 0))), (q47, .inl (g.2 0, 8, .inl (fun _ => 0))), (q46, .inl (g.2 0, 8, .inl (fun _ => 0))), (q44, .inl (g.2 0, 497, .inl (fun _ => 0))), (q43, .inl (g.2 0, 497, .inl f48)), (q1, .inr (12, [.ref q43, w5, .ref q44, w7, .ref q45, .int 0, .int 2, .ref q46, .ref q47, w13, w14, w15, w16, w17, w18, w19, w20, w21, w22, w23, w24, w25, w26, w27, w28, w29, w30, w31, w32, w33, w34, w35, w36, w37, w38, w39, w40]))] := hD
  exact x_zret hx hb hr rfl rfl hlocks hP hD hS hAe hsz (Nat.le_of_ble_eq_true rfl) (Nat.le_of_ble_eq_true rfl) (fun _ => 0) [5] (by decide) rfl dX10_addCall_9

set_option maxHeartbeats 4000000 in
set_option maxRecDepth 100000 in
theorem c752_X9_requireRange (l : Launch) (g : gG) (x1 : Int32) (h2 : (0 : Int32) ≤ x1) (h3 : x1 ≤ 2) (sz : Nat) : Met l yX9_requireRange [Cond.code yX9_requireRange cX9_requireRange 3 none] ({ frames := 0, cells := 0, slots := 0, locals := 0 } : Room) (va_Pc [.int x1, .int 0, .int 2] (PX g sz [])) (QV g [] sz (fun _ => [])) 0 0 (va_A [] sz) := by
  refine ofN (by decide) (Nat.le_of_ble_eq_true rfl) rfl ?_
  intro p e s m args below meth c A ls hAe hsz hx hb hml hr hlocks hin hown hE hP hD hA hS hl
  have hown : s.vm.findClass RX9 = some m.cls := hown
  refine lv_iload_n hx hb dX9_requireRange_0 rfl (lv_at hl 0 rfl) ?_
  refine lv_iload_n hx hb dX9_requireRange_1 rfl (lv_at hl 1 rfl) ?_
  refine lv_icmp_lt (tgt := 10) hx hb dX9_requireRange_2 (by decide) (fun h => absurd h (i_nlt h2)) (fun _ => ?_)
  refine lv_iload_n hx hb dX9_requireRange_5 rfl (lv_at hl 0 rfl) ?_
  refine lv_iload_n hx hb dX9_requireRange_6 rfl (lv_at hl 2 rfl) ?_
  refine lv_icmp_le (tgt := 21) hx hb dX9_requireRange_7 (by decide) (fun _ => ?_) (fun h => absurd h3 h)
  exact x_vret hx hb hr hlocks hP hD hS hAe hsz (Nat.le_of_ble_eq_true rfl) (Nat.le_of_ble_eq_true rfl) (fun _ => 0) [] (by decide) rfl dX9_requireRange_21

set_option maxHeartbeats 4000000 in
set_option maxRecDepth 100000 in
theorem c753_X9_addCall (l : Launch) (g : gG) (hlx : l.stackTraces = false) (q1 : Nat) (x2 x3 : Int32) (h4 : (0 : Int32) ≤ x2) (h5 : x2 ≤ 2) (h6 : x3 < 1) (sz : Nat) : vx_Met l yX9_addCall [Cond.code yX9_addCall cX9_addCall 4 (some .int)] ({ frames := 7, cells := 1, slots := 6, locals := 122 } : Room) (va_Pc [.ref q1, .int 3, .int x2, .int x3] (PZ g sz [])) NI (XW g [] sz "java/lang/IllegalArgumentException" []) 1 6 (va_A [] sz) := by
  refine ofX (by decide) (Nat.le_of_ble_eq_true rfl) rfl ?_
  intro p e s m args below meth c A ls hAe hsz hx hb hml hr hlocks hin hown hE hP hD hA hS hl hex hz
  have hown : s.vm.findClass RX9 = some m.cls := hown
  refine lv_iload_n hx hb dX9_addCall_0 rfl (lv_at hl 1 rfl) ?_
  refine g0_v (rS (rest := []) hx hb hml hown hE hP hD (c89_X9_requirePattern l g 3 (by decide) (by decide) s.heap.size) (kS_X9_requirePattern hE (e617 hE) rfl rfl ⟨(Nat.le_of_ble_eq_true rfl), (Nat.le_of_ble_eq_true rfl)⟩) [] rfl (by decide) rfl hl.1 rfl (lv_room (Nat.le_of_ble_eq_true rfl)) dX9_addCall_1 ⟨(Nat.le_of_ble_eq_true rfl), (Nat.le_of_ble_eq_true rfl)⟩) hP hD hS hA (fun u9 H locs hP hS => ?_)
  refine lv_iload_n hx hb dX9_addCall_4 rfl (lv_at hl 2 rfl) ?_
  refine lv_iconst (v := 0) hx hb dX9_addCall_5 (by decide) ?_
  refine lv_iload_n hx hb dX9_addCall_6 rfl (lv_at hl 1 rfl) ?_
  refine lv_iconst (v := 1) hx hb dX9_addCall_7 (by decide) ?_
  refine x_isub (v := 2) hx hb dX9_addCall_8 (by decide) ?_
  refine g0_v (rS (rest := []) hx hb hml hown hE hP hD (c752_X9_requireRange l g x2 h4 h5 H.size) (kS_X9_requireRange hE (e636 hE) rfl rfl ⟨(Nat.le_of_ble_eq_true rfl), (Nat.le_of_ble_eq_true rfl)⟩) [] rfl (by decide) rfl hl.1 rfl (lv_room (Nat.le_of_ble_eq_true rfl)) dX9_addCall_9 ⟨(Nat.le_of_ble_eq_true rfl), (Nat.le_of_ble_eq_true rfl)⟩) hP hD hS hA (fun u9 H locs hP hS => ?_)
  refine lv_iload_n hx hb dX9_addCall_12 rfl (lv_at hl 3 rfl) ?_
  refine lv_iconst (v := 1) hx hb dX9_addCall_13 (by decide) ?_
  refine lv_bipush (v := 9) hx hb dX9_addCall_14 (by decide) ?_
  refine gx_v (wr := []) (rSx (rest := []) hx hb hml hown hE hP hD hS hA hz (c109_X9_requireRange l g hlx x3 h6 H.size) (kS_X9_requireRange hE (e636 hE) rfl rfl ⟨(Nat.le_of_ble_eq_true rfl), (Nat.le_of_ble_eq_true rfl)⟩) [] rfl (by decide) rfl hl.1 rfl (lv_room (Nat.le_of_ble_eq_true rfl)) dX9_addCall_16 ⟨(Nat.le_of_ble_eq_true rfl), (Nat.le_of_ble_eq_true rfl)⟩) hP hD hS hA [] [] rfl rfl (by decide) (by decide) (fun ce9 q9 H locs hP hD hS hq1 hq2 hq3 => ?_)
  exact x_out hex hlocks hq1 hq2 hq3 hP hD hS hAe hsz (Nat.le_of_ble_eq_true rfl) (Nat.le_of_ble_eq_true rfl) [] (by decide) rfl

set_option maxHeartbeats 4000000 in
set_option maxRecDepth 100000 in
theorem c754_L_addCall (l : Launch) (g : gG) (hlx : l.stackTraces = false) (q1 q4 : Nat) (x2 x3 : Int32) (w8 w9 w10 w11 w12 w13 w14 w15 w16 w17 w18 : Value) (h5 : (0 : Int32) ≤ x2) (h6 : x2 ≤ 2) (h7 : x3 < 1) (sz : Nat) : Met l yL_addCall [Cond.codeWith yL_addCall cL_addCall 6 (some .int) [(0, 12, 15, 13), (0, 12, 19, 15), (0, 12, 23, 17)]] ({ frames := 8, cells := 1, slots := 6, locals := 145 } : Room) (va_Pc [.ref q1, .int 3, .int x2, .int x3, .ref q4] (PZ g sz [(q1, .inr (11, [w8, w9, w10, w11, w12, w13, w14, w15, w16, w17, w18]))])) (QI g [(q1, .inr (11, [w8, w9, w10, w11, w12, w13, w14, w15, w16, w17, w18]))] sz 2 (fun _ => [])) 1 6 (va_A [(q1, .inr (11, [w8, w9, w10, w11, w12, w13, w14, w15, w16, w17, w18]))] sz) := by
  refine ofH (by decide) (Nat.le_of_ble_eq_true rfl) rfl ?_
  intro p e s m args below meth c A ls hAe hsz hx hb hml hr hlocks hin hown hE hP hD hA hS hl htb hz
  have hown : s.vm.findClass RL = some m.cls := hown
  refine lv_aload hx hb dL_addCall_0 (lv_at hl 4 rfl) ?_
  refine lv_iconst (v := 0) hx hb dL_addCall_2 (by decide) ?_
  refine lv_aload_n hx hb dL_addCall_3 rfl (lv_at hl 0 rfl) ?_
  refine lv_iload_n hx hb dL_addCall_4 rfl (lv_at hl 1 rfl) ?_
  refine lv_iload_n hx hb dL_addCall_5 rfl (lv_at hl 2 rfl) ?_
  refine lv_iload_n hx hb dL_addCall_6 rfl (lv_at hl 3 rfl) ?_
  refine gx_i (wr := [(q1, .inr (11, [w8, w9, w10, w11, w12, w13, w14, w15, w16, w17, w18]))]) (rVx (rest := [.int 0, .ref q4]) hx hb hml hown hE hP hD hS hA hz 0 rfl rfl (c753_X9_addCall l g hlx q1 x2 x3 h5 h6 h7 s.heap.size) (kV_X9_addCall hE (e737 hE) rfl rfl ⟨(Nat.le_of_ble_eq_true rfl), (Nat.le_of_ble_eq_true rfl)⟩) [] rfl (by decide) rfl hl.1 rfl (lv_room (Nat.le_of_ble_eq_true rfl)) dL_addCall_7 ⟨(Nat.le_of_ble_eq_true rfl), (Nat.le_of_ble_eq_true rfl)⟩) hP hD hS hA [] [0] rfl rfl (by decide) (by decide) (fun ce9 q9 H locs hP hD hS hq1 hq2 hq3 => ?_)
  have hP : va_P g.1 vwCl [(q1, .inr (11, [w8, w9, w10, w11, w12, w13, w14, w15, w16, w17, w18]))] H := hP
  have hD : va_D A [(q1, .inr (11, [w8, w9, w10, w11, w12, w13, w14, w15, w16, w17, w18]))] := hD
  refine x_catch (name := "java/lang/IllegalArgumentException") (hh := [(0, 12, 15, 13), (0, 12, 19, 15), (0, 12, 23, 17)]) (tgt := 19) hown htb [⟨0, 12, 15, 13⟩] ⟨0, 12, 19, 15⟩ [⟨0, 12, 23, 17⟩] rfl (fun z hz => by
    rcases List.mem_cons.mp hz with rfl | hz
    · exact Or.inr ⟨by decide, "java/lang/IndexOutOfBoundsException", e532 hE, hE.2.2.2.2.2 ("java/lang/IllegalArgumentException", "java/lang/IndexOutOfBoundsException") (by decide +kernel)⟩
    exact nomatch hz) rfl (by decide) (e611 hE) (e641 hE) hq1 hq2 hq3 rfl ?_
  refine lv_astore (lv' := [(5, .ref q9), (0, .ref q1), (1, .int 3), (2, .int x2), (3, .int x3), (4, .ref q4)]) hx hb dL_addCall_19 hl (by decide) rfl (fun ls hl => ?_)
  refine lv_iconst (v := 2) hx hb dL_addCall_21 (by decide) ?_
  exact x_zret hx hb hr rfl rfl hlocks hP hD hS hAe hsz (Nat.le_of_ble_eq_true rfl) (Nat.le_of_ble_eq_true rfl) (fun _ => 0) [] (by decide) rfl dL_addCall_22

set_option maxHeartbeats 4000000 in
set_option maxRecDepth 100000 in
theorem c755_X10_in (l : Launch) (g : gG) (x1 : Int32) (h2 : (0 : Int32) ≤ x1) (h3 : x1 ≤ 2) (sz : Nat) : Met l yX10_in [Cond.code yX10_in cX10_in 3 (some .boolean)] ({ frames := 0, cells := 0, slots := 0, locals := 0 } : Room) (va_Pc [.int x1, .int 0, .int 2] (PX g sz [])) (QI g [] sz 1 (fun _ => [])) 0 0 (va_A [] sz) := by
  refine ofN (by decide) (Nat.le_of_ble_eq_true rfl) rfl ?_
  intro p e s m args below meth c A ls hAe hsz hx hb hml hr hlocks hin hown hE hP hD hA hS hl
  have hown : s.vm.findClass RX10 = some m.cls := hown
  refine lv_iload_n hx hb dX10_in_0 rfl (lv_at hl 0 rfl) ?_
  refine lv_iload_n hx hb dX10_in_1 rfl (lv_at hl 1 rfl) ?_
  refine lv_icmp_lt (tgt := 14) hx hb dX10_in_2 (by decide) (fun h => absurd h (i_nlt h2)) (fun _ => ?_)
  refine lv_iload_n hx hb dX10_in_5 rfl (lv_at hl 0 rfl) ?_
  refine lv_iload_n hx hb dX10_in_6 rfl (lv_at hl 2 rfl) ?_
  refine lv_icmp_gt (tgt := 14) hx hb dX10_in_7 (by decide) (fun h => absurd h (i_nlt h3)) (fun _ => ?_)
  refine lv_iconst (v := 1) hx hb dX10_in_10 (by decide) ?_
  refine lv_goto (tgt := 15) hx hb dX10_in_11 (by decide) ?_
  exact x_zret hx hb hr rfl rfl hlocks hP hD hS hAe hsz (Nat.le_of_ble_eq_true rfl) (Nat.le_of_ble_eq_true rfl) (fun _ => 0) [] (by decide) rfl dX10_in_15

set_option maxHeartbeats 4000000 in
set_option maxRecDepth 100000 in
theorem c756_X10_isRanged (l : Launch) (g : gG) (x1 x2 : Int32) (h3 : (0 : Int32) ≤ x1) (h4 : x1 ≤ 2) (h5 : x2 < 1) (sz : Nat) : Met l yX10_isRanged [Cond.code yX10_isRanged cX10_isRanged 5 (some .boolean)] ({ frames := 1, cells := 0, slots := 0, locals := 22 } : Room) (va_Pc [.int 3, .int 2, .int x1, .int x2, .int (-1)] (PX g sz [])) (QI g [] sz 0 (fun _ => [])) 0 0 (va_A [] sz) := by
  refine ofN (by decide) (Nat.le_of_ble_eq_true rfl) rfl ?_
  intro p e s m args below meth c A ls hAe hsz hx hb hml hr hlocks hin hown hE hP hD hA hS hl
  have hown : s.vm.findClass RX10 = some m.cls := hown
  refine lv_iload_n hx hb dX10_isRanged_0 rfl (lv_at hl 1 rfl) ?_
  refine lv_if_ne (tgt := 43) hx hb dX10_isRanged_1 (by decide) (fun _ => ?_) (fun h => absurd h (by decide))
  refine lv_iload_n hx hb dX10_isRanged_43 rfl (lv_at hl 1 rfl) ?_
  refine lv_iconst (v := 1) hx hb dX10_isRanged_44 (by decide) ?_
  refine lv_icmp_ne (tgt := 58) hx hb dX10_isRanged_45 (by decide) (fun _ => ?_) (fun h => absurd h (by decide))
  refine lv_iload_n hx hb dX10_isRanged_58 rfl (lv_at hl 2 rfl) ?_
  refine lv_iconst (v := 0) hx hb dX10_isRanged_59 (by decide) ?_
  refine lv_iload_n hx hb dX10_isRanged_60 rfl (lv_at hl 0 rfl) ?_
  refine lv_iconst (v := 1) hx hb dX10_isRanged_61 (by decide) ?_
  refine x_isub (v := 2) hx hb dX10_isRanged_62 (by decide) ?_
  refine g0_i (rS (rest := []) hx hb hml hown hE hP hD (c755_X10_in l g x1 h3 h4 s.heap.size) (kS_X10_in hE (e1431 hE) rfl rfl ⟨(Nat.le_of_ble_eq_true rfl), (Nat.le_of_ble_eq_true rfl)⟩) [] rfl (by decide) rfl hl.1 rfl (lv_room (Nat.le_of_ble_eq_true rfl)) dX10_isRanged_63 ⟨(Nat.le_of_ble_eq_true rfl), (Nat.le_of_ble_eq_true rfl)⟩) hP hD hS hA (fun u9 H locs hP hS => ?_)
  refine lv_if_eq (tgt := 83) hx hb dX10_isRanged_66 (by decide) (fun h => absurd h (by decide)) (fun _ => ?_)
  refine lv_iload_n hx hb dX10_isRanged_69 rfl (lv_at hl 3 rfl) ?_
  refine lv_iconst (v := 1) hx hb dX10_isRanged_70 (by decide) ?_
  refine lv_bipush (v := 9) hx hb dX10_isRanged_71 (by decide) ?_
  refine g0_i (rS (rest := []) hx hb hml hown hE hP hD (c113_X10_in l g x2 h5 H.size) (kS_X10_in hE (e1431 hE) rfl rfl ⟨(Nat.le_of_ble_eq_true rfl), (Nat.le_of_ble_eq_true rfl)⟩) [] rfl (by decide) rfl hl.1 rfl (lv_room (Nat.le_of_ble_eq_true rfl)) dX10_isRanged_73 ⟨(Nat.le_of_ble_eq_true rfl), (Nat.le_of_ble_eq_true rfl)⟩) hP hD hS hA (fun u9 H locs hP hS => ?_)
  refine lv_if_eq (tgt := 83) hx hb dX10_isRanged_76 (by decide) (fun _ => ?_) (fun h => absurd (by decide) h)
  refine lv_iconst (v := 0) hx hb dX10_isRanged_83 (by decide) ?_
  exact x_zret hx hb hr rfl rfl hlocks hP hD hS hAe hsz (Nat.le_of_ble_eq_true rfl) (Nat.le_of_ble_eq_true rfl) (fun _ => 0) [] (by decide) rfl dX10_isRanged_84

set_option maxHeartbeats 4000000 in
set_option maxRecDepth 100000 in
theorem c757_X10_added (l : Launch) (g : gG) (q1 : Nat) (x2 x3 : Int32) (w7 w8 w9 w10 w11 w12 w13 w14 w15 w16 w17 w18 w19 w20 w21 w22 w23 w24 w25 w26 w27 w28 w29 w30 w31 w32 w33 w34 w35 w36 w37 w38 w39 w40 w41 w42 w43 : Value) (h4 : (0 : Int32) ≤ x2) (h5 : x2 ≤ 2) (h6 : x3 < 1) (sz : Nat) : Met l yX10_added [Cond.code yX10_added cX10_added 6 (some .int)] ({ frames := 2, cells := 0, slots := 0, locals := 46 } : Room) (va_Pc [.ref q1, .int 3, .int 2, .int x2, .int x3, .int (-1)] (PX g sz [(q1, .inr (12, [w7, w8, w9, w10, w11, w12, w13, w14, w15, w16, w17, w18, w19, w20, w21, w22, w23, w24, w25, w26, w27, w28, w29, w30, w31, w32, w33, w34, w35, w36, w37, w38, w39, w40, w41, w42, w43]))])) (QI g [(q1, .inr (12, [w7, w8, w9, w10, w11, w12, w13, w14, w15, w16, w17, w18, w19, w20, w21, w22, w23, w24, w25, w26, w27, w28, w29, w30, w31, w32, w33, w34, w35, w36, w37, w38, w39, w40, w41, w42, w43]))] sz 0 (fun _ => [(q1, .inr (12, [w7, w8, w9, w10, w11, w12, .int 2, w14, w15, w16, w17, w18, w19, w20, w21, w22, w23, w24, w25, w26, w27, w28, w29, w30, w31, w32, w33, w34, w35, w36, w37, w38, w39, w40, w41, w42, w43]))])) 0 0 (va_A [(q1, .inr (12, [w7, w8, w9, w10, w11, w12, w13, w14, w15, w16, w17, w18, w19, w20, w21, w22, w23, w24, w25, w26, w27, w28, w29, w30, w31, w32, w33, w34, w35, w36, w37, w38, w39, w40, w41, w42, w43]))] sz) := by
  refine ofN (by decide) (Nat.le_of_ble_eq_true rfl) rfl ?_
  intro p e s m args below meth c A ls hAe hsz hx hb hml hr hlocks hin hown hE hP hD hA hS hl
  have hown : s.vm.findClass RX10 = some m.cls := hown
  refine lv_aload_n hx hb dX10_added_0 rfl (lv_at hl 0 rfl) ?_
  refine lv_iload_n hx hb dX10_added_1 rfl (lv_at hl 1 rfl) ?_
  refine g0_i (rS (rest := [.ref q1]) hx hb hml hown hE hP hD (c94_X10_isPattern l g 3 (by decide) (by decide) s.heap.size) (kS_X10_isPattern hE (e1428 hE) rfl rfl ⟨(Nat.le_of_ble_eq_true rfl), (Nat.le_of_ble_eq_true rfl)⟩) [] rfl (by decide) rfl hl.1 rfl (lv_room (Nat.le_of_ble_eq_true rfl)) dX10_added_2 ⟨(Nat.le_of_ble_eq_true rfl), (Nat.le_of_ble_eq_true rfl)⟩) hP hD hS hA (fun u9 H locs hP hS => ?_)
  refine lv_if_ne (tgt := 12) hx hb dX10_added_5 (by decide) (fun _ => ?_) (fun h => absurd h (by decide))
  refine lv_iload_n hx hb dX10_added_12 rfl (lv_at hl 1 rfl) ?_
  refine lv_iload_n hx hb dX10_added_13 rfl (lv_at hl 2 rfl) ?_
  refine lv_iload_n hx hb dX10_added_14 rfl (lv_at hl 3 rfl) ?_
  refine lv_iload hx hb dX10_added_15 (lv_at hl 4 rfl) ?_
  refine lv_iload hx hb dX10_added_17 (lv_at hl 5 rfl) ?_
  refine g0_i (rS (rest := [.ref q1]) hx hb hml hown hE hP hD (c756_X10_isRanged l g x2 x3 h4 h5 h6 H.size) (kS_X10_isRanged hE (e1434 hE) rfl rfl ⟨(Nat.le_of_ble_eq_true rfl), (Nat.le_of_ble_eq_true rfl)⟩) [] rfl (by decide) rfl hl.1 rfl (lv_room (Nat.le_of_ble_eq_true rfl)) dX10_added_19 ⟨(Nat.le_of_ble_eq_true rfl), (Nat.le_of_ble_eq_true rfl)⟩) hP hD hS hA (fun u9 H locs hP hS => ?_)
  refine lv_if_ne (tgt := 29) hx hb dX10_added_22 (by decide) (fun h => absurd h (by decide)) (fun _ => ?_)
  refine lv_iconst (v := 2) hx hb dX10_added_25 (by decide) ?_
  refine lv_goto (tgt := 30) hx hb dX10_added_26 (by decide) ?_
  refine pf_RX10_86 (ws' := [(q1, .inr (12, [w7, w8, w9, w10, w11, w12, .int 2, w14, w15, w16, w17, w18, w19, w20, w21, w22, w23, w24, w25, w26, w27, w28, w29, w30, w31, w32, w33, w34, w35, w36, w37, w38, w39, w40, w41, w42, w43]))]) hx hb hown hE hP hD hS 0 rfl rfl rfl (Nat.le_of_ble_eq_true rfl) dX10_added_30 rfl (fun H locs hP hD hS => ?_)
  refine lv_aload_n hx hb dX10_added_33 rfl (lv_at hl 0 rfl) ?_
  refine gf_RX10_86 hx hb hown hE hP 0 rfl rfl dX10_added_34 ?_
  refine lv_if_le (tgt := 42) hx hb dX10_added_37 (by decide) (fun h => absurd h (by decide)) (fun _ => ?_)
  refine lv_iconst (v := 0) hx hb dX10_added_40 (by decide) ?_
  exact x_zret hx hb hr rfl rfl hlocks hP hD hS hAe hsz (Nat.le_of_ble_eq_true rfl) (Nat.le_of_ble_eq_true rfl) (fun _ => 0) [0] (by decide) rfl dX10_added_41

set_option maxHeartbeats 4000000 in
set_option maxRecDepth 100000 in
theorem c758_X10_addCall (l : Launch) (g : gG) (q1 : Nat) (x2 x3 : Int32) (w4 w5 w6 w7 w8 w9 w10 w11 w12 w13 w14 w15 w16 w17 w18 w19 w20 w21 w22 w23 w24 w25 w26 w27 w28 w29 w30 w31 w32 w33 w34 w35 w36 w37 w38 w39 w40 : Value) (h41 : (0 : Int32) ≤ x2) (h42 : x2 ≤ 2) (h43 : x3 < 1) (sz : Nat) : Met l yX10_addCall [Cond.code yX10_addCall cX10_addCall 4 (some .int)] ({ frames := 3, cells := 0, slots := 0, locals := 71 } : Room) (va_Pc [.ref q1, .int 3, .int x2, .int x3] (PX g sz [(q1, .inr (12, [w4, w5, w6, w7, w8, w9, w10, w11, w12, w13, w14, w15, w16, w17, w18, w19, w20, w21, w22, w23, w24, w25, w26, w27, w28, w29, w30, w31, w32, w33, w34, w35, w36, w37, w38, w39, w40]))])) (QI g [(q1, .inr (12, [w4, w5, w6, w7, w8, w9, w10, w11, w12, w13, w14, w15, w16, w17, w18, w19, w20, w21, w22, w23, w24, w25, w26, w27, w28, w29, w30, w31, w32, w33, w34, w35, w36, w37, w38, w39, w40]))] sz 0 (fun _ => [(q1, .inr (12, [w4, w5, w6, w7, w8, w9, .int 2, w11, w12, w13, w14, w15, w16, w17, w18, w19, w20, w21, w22, w23, w24, w25, w26, w27, w28, w29, w30, w31, w32, w33, w34, w35, w36, w37, w38, w39, w40]))])) 0 0 (va_A [(q1, .inr (12, [w4, w5, w6, w7, w8, w9, w10, w11, w12, w13, w14, w15, w16, w17, w18, w19, w20, w21, w22, w23, w24, w25, w26, w27, w28, w29, w30, w31, w32, w33, w34, w35, w36, w37, w38, w39, w40]))] sz) := by
  refine ofN (by decide) (Nat.le_of_ble_eq_true rfl) rfl ?_
  intro p e s m args below meth c A ls hAe hsz hx hb hml hr hlocks hin hown hE hP hD hA hS hl
  have hown : s.vm.findClass RX10 = some m.cls := hown
  refine lv_aload_n hx hb dX10_addCall_0 rfl (lv_at hl 0 rfl) ?_
  refine lv_iload_n hx hb dX10_addCall_1 rfl (lv_at hl 1 rfl) ?_
  refine lv_iconst (v := 2) hx hb dX10_addCall_2 (by decide) ?_
  refine lv_iload_n hx hb dX10_addCall_3 rfl (lv_at hl 2 rfl) ?_
  refine lv_iload_n hx hb dX10_addCall_4 rfl (lv_at hl 3 rfl) ?_
  refine lv_iconst (v := (-1)) hx hb dX10_addCall_5 (by decide) ?_
  refine g_i (wr := []) (rV (rest := []) hx hb hml hown hE hP hD 0 rfl rfl (c757_X10_added l g q1 x2 x3 w4 w5 w6 w7 w8 w9 w10 w11 w12 w13 w14 w15 w16 w17 w18 w19 w20 w21 w22 w23 w24 w25 w26 w27 w28 w29 w30 w31 w32 w33 w34 w35 w36 w37 w38 w39 w40 h41 h42 h43 s.heap.size) (kV_X10_added hE (e1424 hE) rfl rfl ⟨(Nat.le_of_ble_eq_true rfl), (Nat.le_of_ble_eq_true rfl)⟩) [0] rfl (by decide) rfl hl.1 rfl (lv_room (Nat.le_of_ble_eq_true rfl)) dX10_addCall_6 ⟨(Nat.le_of_ble_eq_true rfl), (Nat.le_of_ble_eq_true rfl)⟩) hP hD hS hA [0] [] rfl rfl (by decide) (by decide) (fun u1 H locs hP hD hS => ?_)
  have hP : va_P g.1 vwCl [(q1, .inr (12, [w4, w5, w6, w7, w8, w9, .int 2, w11, w12, w13, w14, w15, w16, w17, w18, w19, w20, w21, w22, w23, w24, w25, w26, w27, w28, w29, w30, w31, w32, w33, w34, w35, w36, w37, w38, w39, w40]))] H := hP
  have hD : va_D A [(q1, .inr (12, [w4, w5, w6, w7, w8, w9, .int 2, w11, w12, w13, w14, w15, w16, w17, w18, w19, w20, w21, w22, w23, w24, w25, w26, w27, w28, w29, w30, w31, w32, w33, w34, w35, w36, w37, w38, w39, w40]))] := hD
  exact x_zret hx hb hr rfl rfl hlocks hP hD hS hAe hsz (Nat.le_of_ble_eq_true rfl) (Nat.le_of_ble_eq_true rfl) (fun _ => 0) [0] (by decide) rfl dX10_addCall_9

set_option maxHeartbeats 4000000 in
set_option maxRecDepth 100000 in
theorem c759_X9_putAt (l : Launch) (g : gG) (q1 : Nat) (f2 : Nat → Int32) (sz : Nat) : Met l yX9_putAt [Cond.code yX9_putAt cX9_putAt 3 none] ({ frames := 0, cells := 0, slots := 0, locals := 0 } : Room) (va_Pc [.ref q1, .int 144, .int 2] (PX g sz [(q1, .inl (g.2 0, 384, .inl f2))])) (QV g [(q1, .inl (g.2 0, 384, .inl f2))] sz (fun _ => [(q1, .inl (g.2 0, 384, .inl (upd f2 144 2)))])) 0 0 (va_A [(q1, .inl (g.2 0, 384, .inl f2))] sz) := by
  refine ofN (by decide) (Nat.le_of_ble_eq_true rfl) rfl ?_
  intro p e s m args below meth c A ls hAe hsz hx hb hml hr hlocks hin hown hE hP hD hA hS hl
  have hown : s.vm.findClass RX9 = some m.cls := hown
  refine lv_iload_n hx hb dX9_putAt_0 rfl (lv_at hl 1 rfl) ?_
  refine lv_if_lt (tgt := 14) hx hb dX9_putAt_1 (by decide) (fun h => absurd h (by decide)) (fun _ => ?_)
  refine lv_iload_n hx hb dX9_putAt_4 rfl (lv_at hl 1 rfl) ?_
  refine lv_aload_n hx hb dX9_putAt_5 rfl (lv_at hl 0 rfl) ?_
  refine x_aleni (v := 384) hx hb hE hP 0 rfl rfl dX9_putAt_6 ?_
  refine lv_icmp_ge (tgt := 14) hx hb dX9_putAt_7 (by decide) (fun h => absurd h (by decide)) (fun _ => ?_)
  refine lv_aload_n hx hb dX9_putAt_10 rfl (lv_at hl 0 rfl) ?_
  refine lv_iload_n hx hb dX9_putAt_11 rfl (lv_at hl 1 rfl) ?_
  refine lv_iload_n hx hb dX9_putAt_12 rfl (lv_at hl 2 rfl) ?_
  refine x_iast (ws' := [(q1, .inl (g.2 0, 384, .inl (upd f2 144 2)))]) hx hb hE hP hD hS 0 rfl 144 (x_in (by decide)) (by decide) dX9_putAt_13 rfl (fun H locs hP hD hS => ?_)
  exact x_vret hx hb hr hlocks hP hD hS hAe hsz (Nat.le_of_ble_eq_true rfl) (Nat.le_of_ble_eq_true rfl) (fun _ => 0) [0] (by decide) rfl dX9_putAt_14

set_option maxHeartbeats 4000000 in
set_option maxRecDepth 100000 in
theorem c760_X3_putItem (l : Launch) (g : gG) (q1 q6 q9 : Nat) (x2 x3 : Int32) (f7 : Nat → Int32) (f10 : Nat → Int32) (hf8 : f7 15 = 0) (sz : Nat) : Met l yX3_putItem [Cond.code yX3_putItem cX3_putItem 8 none] ({ frames := 1, cells := 0, slots := 0, locals := 24 } : Room) (va_Pc [.ref q1, .int 3, .int 2, .int x2, .int x3, .int (-1)] (PX g sz [(q9, .inl (g.2 0, 384, .inl f10)), (q6, .inl (g.2 0, 40, .inl f7)), (q1, .inr (5, [.ref q9, .ref q6]))])) (QV g [(q9, .inl (g.2 0, 384, .inl f10)), (q6, .inl (g.2 0, 40, .inl f7)), (q1, .inr (5, [.ref q9, .ref q6]))] sz (fun _ => [(q9, .inl (g.2 0, 384, .inl (upd (upd (upd (upd f10 144 2) 145 x2) 146 x3) 147 (-1)))), (q6, .inl (g.2 0, 40, .inl (upd f7 15 1))), (q1, .inr (5, [.ref q9, .ref q6]))])) 0 0 (va_A [(q9, .inl (g.2 0, 384, .inl f10)), (q6, .inl (g.2 0, 40, .inl f7)), (q1, .inr (5, [.ref q9, .ref q6]))] sz) := by
  refine ofN (by decide) (Nat.le_of_ble_eq_true rfl) rfl ?_
  intro p e s m args below meth c A ls hAe hsz hx hb hml hr hlocks hin hown hE hP hD hA hS hl
  have hown : s.vm.findClass RX3 = some m.cls := hown
  refine lv_aload_n hx hb dX3_putItem_0 rfl (lv_at hl 0 rfl) ?_
  refine lv_iload_n hx hb dX3_putItem_1 rfl (lv_at hl 1 rfl) ?_
  refine lv_iconst (v := 0) hx hb dX3_putItem_2 (by decide) ?_
  refine g_i (wr := [(q9, .inl (g.2 0, 384, .inl f10))]) (rV (rest := []) hx hb hml hown hE hP hD 2 rfl rfl (c158_X3_figure l g q1 q6 (.ref q9) f7 (hf8) s.heap.size) (kV_X3_figure hE (e343 hE) rfl rfl ⟨(Nat.le_of_ble_eq_true rfl), (Nat.le_of_ble_eq_true rfl)⟩) [1, 2] rfl (by decide) rfl hl.1 rfl (lv_room (Nat.le_of_ble_eq_true rfl)) dX3_putItem_3 ⟨(Nat.le_of_ble_eq_true rfl), (Nat.le_of_ble_eq_true rfl)⟩) hP hD hS hA [1, 2] [0] rfl rfl (by decide) (by decide) (fun u1 H locs hP hD hS => ?_)
  have hP : va_P g.1 vwCl [(q9, .inl (g.2 0, 384, .inl f10)), (q6, .inl (g.2 0, 40, .inl f7)), (q1, .inr (5, [.ref q9, .ref q6]))] H := hP
  have hD : va_D A [(q9, .inl (g.2 0, 384, .inl f10)), (q6, .inl (g.2 0, 40, .inl f7)), (q1, .inr (5, [.ref q9, .ref q6]))] := hD
  refine lv_istore (lv' := [(6, .int 0), (0, .ref q1), (1, .int 3), (2, .int 2), (3, .int x2), (4, .int x3), (5, .int (-1))]) hx hb dX3_putItem_6 hl (by decide) rfl (fun ls hl => ?_)
  refine lv_iload_n hx hb dX3_putItem_8 rfl (lv_at hl 2 rfl) ?_
  refine lv_bipush (v := 12) hx hb dX3_putItem_9 (by decide) ?_
  refine x_imul (v := 36) hx hb dX3_putItem_11 (by decide) ?_
  refine lv_iload hx hb dX3_putItem_12 (lv_at hl 0 rfl) ?_
  refine x_iadd (v := 36) hx hb dX3_putItem_14 (by decide) ?_
  refine lv_iconst (v := 4) hx hb dX3_putItem_15 (by decide) ?_
  refine x_imul (v := 144) hx hb dX3_putItem_16 (by decide) ?_
  refine lv_istore (lv' := [(7, .int 144), (6, .int 0), (0, .ref q1), (1, .int 3), (2, .int 2), (3, .int x2), (4, .int x3), (5, .int (-1))]) hx hb dX3_putItem_17 hl (by decide) rfl (fun ls hl => ?_)
  refine lv_aload_n hx hb dX3_putItem_19 rfl (lv_at hl 2 rfl) ?_
  refine gf_RX3_9 hx hb hown hE hP 2 rfl rfl dX3_putItem_20 ?_
  refine lv_iload hx hb dX3_putItem_23 (lv_at hl 0 rfl) ?_
  refine lv_iconst (v := 0) hx hb dX3_putItem_25 (by decide) ?_
  refine x_iadd (v := 144) hx hb dX3_putItem_26 (by decide) ?_
  refine lv_iload_n hx hb dX3_putItem_27 rfl (lv_at hl 4 rfl) ?_
  refine g_v (wr := [(q6, .inl (g.2 0, 40, .inl f7)), (q1, .inr (5, [.ref q9, .ref q6]))]) (rSN (rest := []) hx hb hml hown hE hP hD (c759_X9_putAt l g q9 f10 H.size) (kSN_X9_putAt hE (e689 hE) rfl rfl ⟨(Nat.le_of_ble_eq_true rfl), (Nat.le_of_ble_eq_true rfl)⟩) [0] rfl (by decide) rfl hl.1 rfl (lv_room (Nat.le_of_ble_eq_true rfl)) dX3_putItem_28 ⟨(Nat.le_of_ble_eq_true rfl), (Nat.le_of_ble_eq_true rfl)⟩) hP hD hS hA [0] [1, 2] rfl rfl (by decide) (by decide) (fun u2 H locs hP hD hS => ?_)
  have hP : va_P g.1 vwCl [(q6, .inl (g.2 0, 40, .inl f7)), (q1, .inr (5, [.ref q9, .ref q6])), (q9, .inl (g.2 0, 384, .inl (upd f10 144 2)))] H := hP
  have hD : va_D A [(q6, .inl (g.2 0, 40, .inl f7)), (q1, .inr (5, [.ref q9, .ref q6])), (q9, .inl (g.2 0, 384, .inl (upd f10 144 2)))] := hD
  refine lv_aload_n hx hb dX3_putItem_31 rfl (lv_at hl 2 rfl) ?_
  refine gf_RX3_9 hx hb hown hE hP 1 rfl rfl dX3_putItem_32 ?_
  refine lv_iload hx hb dX3_putItem_35 (lv_at hl 0 rfl) ?_
  refine lv_iconst (v := 1) hx hb dX3_putItem_37 (by decide) ?_
  refine x_iadd (v := 145) hx hb dX3_putItem_38 (by decide) ?_
  refine lv_iload_n hx hb dX3_putItem_39 rfl (lv_at hl 5 rfl) ?_
  refine g_v (wr := [(q6, .inl (g.2 0, 40, .inl f7)), (q1, .inr (5, [.ref q9, .ref q6]))]) (rSN (rest := []) hx hb hml hown hE hP hD (c287_X9_putAt l g q9 x2 (upd f10 144 2) H.size) (kSN_X9_putAt hE (e689 hE) rfl rfl ⟨(Nat.le_of_ble_eq_true rfl), (Nat.le_of_ble_eq_true rfl)⟩) [2] rfl (by decide) rfl hl.1 rfl (lv_room (Nat.le_of_ble_eq_true rfl)) dX3_putItem_40 ⟨(Nat.le_of_ble_eq_true rfl), (Nat.le_of_ble_eq_true rfl)⟩) hP hD hS hA [2] [0, 1] rfl rfl (by decide) (by decide) (fun u3 H locs hP hD hS => ?_)
  have hP : va_P g.1 vwCl [(q6, .inl (g.2 0, 40, .inl f7)), (q1, .inr (5, [.ref q9, .ref q6])), (q9, .inl (g.2 0, 384, .inl (upd (upd f10 144 2) 145 x2)))] H := hP
  have hD : va_D A [(q6, .inl (g.2 0, 40, .inl f7)), (q1, .inr (5, [.ref q9, .ref q6])), (q9, .inl (g.2 0, 384, .inl (upd (upd f10 144 2) 145 x2)))] := hD
  refine lv_aload_n hx hb dX3_putItem_43 rfl (lv_at hl 2 rfl) ?_
  refine gf_RX3_9 hx hb hown hE hP 1 rfl rfl dX3_putItem_44 ?_
  refine lv_iload hx hb dX3_putItem_47 (lv_at hl 0 rfl) ?_
  refine lv_iconst (v := 2) hx hb dX3_putItem_49 (by decide) ?_
  refine x_iadd (v := 146) hx hb dX3_putItem_50 (by decide) ?_
  refine lv_iload hx hb dX3_putItem_51 (lv_at hl 6 rfl) ?_
  refine g_v (wr := [(q6, .inl (g.2 0, 40, .inl f7)), (q1, .inr (5, [.ref q9, .ref q6]))]) (rSN (rest := []) hx hb hml hown hE hP hD (c288_X9_putAt l g q9 x3 (upd (upd f10 144 2) 145 x2) H.size) (kSN_X9_putAt hE (e689 hE) rfl rfl ⟨(Nat.le_of_ble_eq_true rfl), (Nat.le_of_ble_eq_true rfl)⟩) [2] rfl (by decide) rfl hl.1 rfl (lv_room (Nat.le_of_ble_eq_true rfl)) dX3_putItem_53 ⟨(Nat.le_of_ble_eq_true rfl), (Nat.le_of_ble_eq_true rfl)⟩) hP hD hS hA [2] [0, 1] rfl rfl (by decide) (by decide) (fun u4 H locs hP hD hS => ?_)
  have hP : va_P g.1 vwCl [(q6, .inl (g.2 0, 40, .inl f7)), (q1, .inr (5, [.ref q9, .ref q6])), (q9, .inl (g.2 0, 384, .inl (upd (upd (upd f10 144 2) 145 x2) 146 x3)))] H := hP
  have hD : va_D A [(q6, .inl (g.2 0, 40, .inl f7)), (q1, .inr (5, [.ref q9, .ref q6])), (q9, .inl (g.2 0, 384, .inl (upd (upd (upd f10 144 2) 145 x2) 146 x3)))] := hD
  refine lv_aload_n hx hb dX3_putItem_56 rfl (lv_at hl 2 rfl) ?_
  refine gf_RX3_9 hx hb hown hE hP 1 rfl rfl dX3_putItem_57 ?_
  refine lv_iload hx hb dX3_putItem_60 (lv_at hl 0 rfl) ?_
  refine lv_iconst (v := 3) hx hb dX3_putItem_62 (by decide) ?_
  refine x_iadd (v := 147) hx hb dX3_putItem_63 (by decide) ?_
  refine lv_iload hx hb dX3_putItem_64 (lv_at hl 7 rfl) ?_
  refine g_v (wr := [(q6, .inl (g.2 0, 40, .inl f7)), (q1, .inr (5, [.ref q9, .ref q6]))]) (rSN (rest := []) hx hb hml hown hE hP hD (c289_X9_putAt l g q9 (-1) (upd (upd (upd f10 144 2) 145 x2) 146 x3) H.size) (kSN_X9_putAt hE (e689 hE) rfl rfl ⟨(Nat.le_of_ble_eq_true rfl), (Nat.le_of_ble_eq_true rfl)⟩) [2] rfl (by decide) rfl hl.1 rfl (lv_room (Nat.le_of_ble_eq_true rfl)) dX3_putItem_66 ⟨(Nat.le_of_ble_eq_true rfl), (Nat.le_of_ble_eq_true rfl)⟩) hP hD hS hA [2] [0, 1] rfl rfl (by decide) (by decide) (fun u5 H locs hP hD hS => ?_)
  have hP : va_P g.1 vwCl [(q6, .inl (g.2 0, 40, .inl f7)), (q1, .inr (5, [.ref q9, .ref q6])), (q9, .inl (g.2 0, 384, .inl (upd (upd (upd (upd f10 144 2) 145 x2) 146 x3) 147 (-1))))] H := hP
  have hD : va_D A [(q6, .inl (g.2 0, 40, .inl f7)), (q1, .inr (5, [.ref q9, .ref q6])), (q9, .inl (g.2 0, 384, .inl (upd (upd (upd (upd f10 144 2) 145 x2) 146 x3) 147 (-1))))] := hD
  refine lv_aload_n hx hb dX3_putItem_69 rfl (lv_at hl 2 rfl) ?_
  refine lv_iload_n hx hb dX3_putItem_70 rfl (lv_at hl 3 rfl) ?_
  refine lv_iconst (v := 0) hx hb dX3_putItem_71 (by decide) ?_
  refine lv_iload hx hb dX3_putItem_72 (lv_at hl 1 rfl) ?_
  refine lv_iconst (v := 1) hx hb dX3_putItem_74 (by decide) ?_
  refine x_iadd (v := 1) hx hb dX3_putItem_75 (by decide) ?_
  refine g_v (wr := [(q9, .inl (g.2 0, 384, .inl (upd (upd (upd (upd f10 144 2) 145 x2) 146 x3) 147 (-1))))]) (rV (rest := []) hx hb hml hown hE hP hD 1 rfl rfl (c290_X3_putFigure l g q1 q6 (.ref q9) f7 H.size) (kV_X3_putFigure hE (e91 hE) rfl rfl ⟨(Nat.le_of_ble_eq_true rfl), (Nat.le_of_ble_eq_true rfl)⟩) [0, 1] rfl (by decide) rfl hl.1 rfl (lv_room (Nat.le_of_ble_eq_true rfl)) dX3_putItem_76 ⟨(Nat.le_of_ble_eq_true rfl), (Nat.le_of_ble_eq_true rfl)⟩) hP hD hS hA [0, 1] [2] rfl rfl (by decide) (by decide) (fun u6 H locs hP hD hS => ?_)
  have hP : va_P g.1 vwCl [(q9, .inl (g.2 0, 384, .inl (upd (upd (upd (upd f10 144 2) 145 x2) 146 x3) 147 (-1)))), (q6, .inl (g.2 0, 40, .inl (upd f7 15 1))), (q1, .inr (5, [.ref q9, .ref q6]))] H := hP
  have hD : va_D A [(q9, .inl (g.2 0, 384, .inl (upd (upd (upd (upd f10 144 2) 145 x2) 146 x3) 147 (-1)))), (q6, .inl (g.2 0, 40, .inl (upd f7 15 1))), (q1, .inr (5, [.ref q9, .ref q6]))] := hD
  exact x_vret hx hb hr hlocks hP hD hS hAe hsz (Nat.le_of_ble_eq_true rfl) (Nat.le_of_ble_eq_true rfl) (fun _ => 0) [0, 1, 2] (by decide) rfl dX3_putItem_79

set_option maxHeartbeats 4000000 in
set_option maxRecDepth 100000 in
theorem c761_X9_putItem (l : Launch) (g : gG) (q1 q11 q14 q17 : Nat) (x2 x3 : Int32) (w5 w6 w7 w8 w9 w10 : Value) (f15 : Nat → Int32) (f18 : Nat → Int32) (hf16 : f15 15 = 0) (sz : Nat) : Met l yX9_putItem [Cond.code yX9_putItem cX9_putItem 6 none] ({ frames := 2, cells := 0, slots := 0, locals := 51 } : Room) (va_Pc [.ref q1, .int 3, .int 2, .int x2, .int x3, .int (-1)] (PX g sz [(q17, .inl (g.2 0, 384, .inl f18)), (q14, .inl (g.2 0, 40, .inl f15)), (q11, .inr (5, [.ref q17, .ref q14])), (q1, .inr (8, [.ref q11, w5, w6, w7, w8, w9, w10]))])) (QV g [(q17, .inl (g.2 0, 384, .inl f18)), (q14, .inl (g.2 0, 40, .inl f15)), (q11, .inr (5, [.ref q17, .ref q14])), (q1, .inr (8, [.ref q11, w5, w6, w7, w8, w9, w10]))] sz (fun _ => [(q1, .inr (8, [.ref q11, w5, w6, w7, w8, w9, w10])), (q17, .inl (g.2 0, 384, .inl (upd (upd (upd (upd f18 144 2) 145 x2) 146 x3) 147 (-1)))), (q14, .inl (g.2 0, 40, .inl (upd f15 15 1))), (q11, .inr (5, [.ref q17, .ref q14]))])) 0 0 (va_A [(q17, .inl (g.2 0, 384, .inl f18)), (q14, .inl (g.2 0, 40, .inl f15)), (q11, .inr (5, [.ref q17, .ref q14])), (q1, .inr (8, [.ref q11, w5, w6, w7, w8, w9, w10]))] sz) := by
  refine ofN (by decide) (Nat.le_of_ble_eq_true rfl) rfl ?_
  intro p e s m args below meth c A ls hAe hsz hx hb hml hr hlocks hin hown hE hP hD hA hS hl
  have hown : s.vm.findClass RX9 = some m.cls := hown
  refine lv_aload_n hx hb dX9_putItem_0 rfl (lv_at hl 0 rfl) ?_
  refine gf_RX9_108 hx hb hown hE hP 3 rfl rfl dX9_putItem_1 ?_
  refine lv_iload_n hx hb dX9_putItem_4 rfl (lv_at hl 1 rfl) ?_
  refine lv_iconst (v := 0) hx hb dX9_putItem_5 (by decide) ?_
  refine g_i (wr := [(q17, .inl (g.2 0, 384, .inl f18)), (q1, .inr (8, [.ref q11, w5, w6, w7, w8, w9, w10]))]) (rV (rest := []) hx hb hml hown hE hP hD 2 rfl rfl (c158_X3_figure l g q11 q14 (.ref q17) f15 (hf16) s.heap.size) (kV_X3_figure hE (e668 hE) rfl rfl ⟨(Nat.le_of_ble_eq_true rfl), (Nat.le_of_ble_eq_true rfl)⟩) [1, 2] rfl (by decide) rfl hl.1 rfl (lv_room (Nat.le_of_ble_eq_true rfl)) dX9_putItem_6 ⟨(Nat.le_of_ble_eq_true rfl), (Nat.le_of_ble_eq_true rfl)⟩) hP hD hS hA [1, 2] [0, 3] rfl rfl (by decide) (by decide) (fun u1 H locs hP hD hS => ?_)
  have hP : va_P g.1 vwCl [(q17, .inl (g.2 0, 384, .inl f18)), (q1, .inr (8, [.ref q11, w5, w6, w7, w8, w9, w10])), (q14, .inl (g.2 0, 40, .inl f15)), (q11, .inr (5, [.ref q17, .ref q14]))] H := hP
  have hD : va_D A [(q17, .inl (g.2 0, 384, .inl f18)), (q1, .inr (8, [.ref q11, w5, w6, w7, w8, w9, w10])), (q14, .inl (g.2 0, 40, .inl f15)), (q11, .inr (5, [.ref q17, .ref q14]))] := hD
  refine lv_bipush (v := 12) hx hb dX9_putItem_9 (by decide) ?_
  refine lv_icmp_lt (tgt := 25) hx hb dX9_putItem_11 (by decide) (fun _ => ?_) (fun h => absurd (by decide) h)
  refine lv_aload_n hx hb dX9_putItem_25 rfl (lv_at hl 0 rfl) ?_
  refine gf_RX9_108 hx hb hown hE hP 1 rfl rfl dX9_putItem_26 ?_
  refine lv_iload_n hx hb dX9_putItem_29 rfl (lv_at hl 1 rfl) ?_
  refine lv_iload_n hx hb dX9_putItem_30 rfl (lv_at hl 2 rfl) ?_
  refine lv_iload_n hx hb dX9_putItem_31 rfl (lv_at hl 3 rfl) ?_
  refine lv_iload hx hb dX9_putItem_32 (lv_at hl 4 rfl) ?_
  refine lv_iload hx hb dX9_putItem_34 (lv_at hl 5 rfl) ?_
  refine g_v (wr := [(q1, .inr (8, [.ref q11, w5, w6, w7, w8, w9, w10]))]) (rV (rest := []) hx hb hml hown hE hP hD 3 rfl rfl (c760_X3_putItem l g q11 q14 q17 x2 x3 f15 f18 (hf16) H.size) (kV_X3_putItem hE (e685 hE) rfl rfl ⟨(Nat.le_of_ble_eq_true rfl), (Nat.le_of_ble_eq_true rfl)⟩) [0, 2, 3] rfl (by decide) rfl hl.1 rfl (lv_room (Nat.le_of_ble_eq_true rfl)) dX9_putItem_36 ⟨(Nat.le_of_ble_eq_true rfl), (Nat.le_of_ble_eq_true rfl)⟩) hP hD hS hA [0, 2, 3] [1] rfl rfl (by decide) (by decide) (fun u2 H locs hP hD hS => ?_)
  have hP : va_P g.1 vwCl [(q1, .inr (8, [.ref q11, w5, w6, w7, w8, w9, w10])), (q17, .inl (g.2 0, 384, .inl (upd (upd (upd (upd f18 144 2) 145 x2) 146 x3) 147 (-1)))), (q14, .inl (g.2 0, 40, .inl (upd f15 15 1))), (q11, .inr (5, [.ref q17, .ref q14]))] H := hP
  have hD : va_D A [(q1, .inr (8, [.ref q11, w5, w6, w7, w8, w9, w10])), (q17, .inl (g.2 0, 384, .inl (upd (upd (upd (upd f18 144 2) 145 x2) 146 x3) 147 (-1)))), (q14, .inl (g.2 0, 40, .inl (upd f15 15 1))), (q11, .inr (5, [.ref q17, .ref q14]))] := hD
  exact x_vret hx hb hr hlocks hP hD hS hAe hsz (Nat.le_of_ble_eq_true rfl) (Nat.le_of_ble_eq_true rfl) (fun _ => 0) [0, 1, 2, 3] (by decide) rfl dX9_putItem_39

set_option maxHeartbeats 4000000 in
set_option maxRecDepth 100000 in
theorem c762_X3_itemNumber (l : Launch) (g : gG) (q1 q4 : Nat) (w3 : Value) (f5 : Nat → Int32) (hf6 : f5 144 = 2) (sz : Nat) : Met l yX3_itemNumber [Cond.code yX3_itemNumber cX3_itemNumber 5 (some .int)] ({ frames := 0, cells := 0, slots := 0, locals := 0 } : Room) (va_Pc [.ref q1, .int 3, .int 0, .int 0] (PX g sz [(q4, .inl (g.2 0, 384, .inl f5)), (q1, .inr (5, [.ref q4, w3]))])) (QI g [(q4, .inl (g.2 0, 384, .inl f5)), (q1, .inr (5, [.ref q4, w3]))] sz 2 (fun _ => [(q4, .inl (g.2 0, 384, .inl f5)), (q1, .inr (5, [.ref q4, w3]))])) 0 0 (va_A [(q4, .inl (g.2 0, 384, .inl f5)), (q1, .inr (5, [.ref q4, w3]))] sz) := by
  refine ofN (by decide) (Nat.le_of_ble_eq_true rfl) rfl ?_
  intro p e s m args below meth c A ls hAe hsz hx hb hml hr hlocks hin hown hE hP hD hA hS hl
  have hown : s.vm.findClass RX3 = some m.cls := hown
  refine lv_iload_n hx hb dX3_itemNumber_0 rfl (lv_at hl 1 rfl) ?_
  refine lv_bipush (v := 12) hx hb dX3_itemNumber_1 (by decide) ?_
  refine x_imul (v := 36) hx hb dX3_itemNumber_3 (by decide) ?_
  refine lv_iload_n hx hb dX3_itemNumber_4 rfl (lv_at hl 2 rfl) ?_
  refine x_iadd (v := 36) hx hb dX3_itemNumber_5 (by decide) ?_
  refine lv_iconst (v := 4) hx hb dX3_itemNumber_6 (by decide) ?_
  refine x_imul (v := 144) hx hb dX3_itemNumber_7 (by decide) ?_
  refine lv_iload_n hx hb dX3_itemNumber_8 rfl (lv_at hl 3 rfl) ?_
  refine x_iadd (v := 144) hx hb dX3_itemNumber_9 (by decide) ?_
  refine lv_istore (lv' := [(4, .int 144), (0, .ref q1), (1, .int 3), (2, .int 0), (3, .int 0)]) hx hb dX3_itemNumber_10 hl (by decide) rfl (fun ls hl => ?_)
  refine lv_iload hx hb dX3_itemNumber_12 (lv_at hl 0 rfl) ?_
  refine lv_if_lt (tgt := 37) hx hb dX3_itemNumber_14 (by decide) (fun h => absurd h (by decide)) (fun _ => ?_)
  refine lv_iload hx hb dX3_itemNumber_17 (lv_at hl 0 rfl) ?_
  refine lv_aload_n hx hb dX3_itemNumber_19 rfl (lv_at hl 1 rfl) ?_
  refine gf_RX3_9 hx hb hown hE hP 1 rfl rfl dX3_itemNumber_20 ?_
  refine x_aleni (v := 384) hx hb hE hP 0 rfl rfl dX3_itemNumber_23 ?_
  refine lv_icmp_ge (tgt := 37) hx hb dX3_itemNumber_24 (by decide) (fun h => absurd h (by decide)) (fun _ => ?_)
  refine lv_aload_n hx hb dX3_itemNumber_27 rfl (lv_at hl 1 rfl) ?_
  refine gf_RX3_9 hx hb hown hE hP 1 rfl rfl dX3_itemNumber_28 ?_
  refine lv_iload hx hb dX3_itemNumber_31 (lv_at hl 0 rfl) ?_
  refine x_iald (v := 2) hx hb hE hP 0 rfl 144 (x_in (by decide)) (by decide) hf6 dX3_itemNumber_33 ?_
  refine lv_goto (tgt := 38) hx hb dX3_itemNumber_34 (by decide) ?_
  exact x_zret hx hb hr rfl rfl hlocks hP hD hS hAe hsz (Nat.le_of_ble_eq_true rfl) (Nat.le_of_ble_eq_true rfl) (fun _ => 0) [0, 1] (by decide) rfl dX3_itemNumber_38

set_option maxHeartbeats 4000000 in
set_option maxRecDepth 100000 in
theorem c763_X3_itemNumber (l : Launch) (g : gG) (q1 q4 : Nat) (x7 : Int32) (w3 : Value) (f5 : Nat → Int32) (hf6 : f5 145 = x7) (sz : Nat) : Met l yX3_itemNumber [Cond.code yX3_itemNumber cX3_itemNumber 5 (some .int)] ({ frames := 0, cells := 0, slots := 0, locals := 0 } : Room) (va_Pc [.ref q1, .int 3, .int 0, .int 1] (PX g sz [(q4, .inl (g.2 0, 384, .inl f5)), (q1, .inr (5, [.ref q4, w3]))])) (QI g [(q4, .inl (g.2 0, 384, .inl f5)), (q1, .inr (5, [.ref q4, w3]))] sz x7 (fun _ => [(q4, .inl (g.2 0, 384, .inl f5)), (q1, .inr (5, [.ref q4, w3]))])) 0 0 (va_A [(q4, .inl (g.2 0, 384, .inl f5)), (q1, .inr (5, [.ref q4, w3]))] sz) := by
  refine ofN (by decide) (Nat.le_of_ble_eq_true rfl) rfl ?_
  intro p e s m args below meth c A ls hAe hsz hx hb hml hr hlocks hin hown hE hP hD hA hS hl
  have hown : s.vm.findClass RX3 = some m.cls := hown
  refine lv_iload_n hx hb dX3_itemNumber_0 rfl (lv_at hl 1 rfl) ?_
  refine lv_bipush (v := 12) hx hb dX3_itemNumber_1 (by decide) ?_
  refine x_imul (v := 36) hx hb dX3_itemNumber_3 (by decide) ?_
  refine lv_iload_n hx hb dX3_itemNumber_4 rfl (lv_at hl 2 rfl) ?_
  refine x_iadd (v := 36) hx hb dX3_itemNumber_5 (by decide) ?_
  refine lv_iconst (v := 4) hx hb dX3_itemNumber_6 (by decide) ?_
  refine x_imul (v := 144) hx hb dX3_itemNumber_7 (by decide) ?_
  refine lv_iload_n hx hb dX3_itemNumber_8 rfl (lv_at hl 3 rfl) ?_
  refine x_iadd (v := 145) hx hb dX3_itemNumber_9 (by decide) ?_
  refine lv_istore (lv' := [(4, .int 145), (0, .ref q1), (1, .int 3), (2, .int 0), (3, .int 1)]) hx hb dX3_itemNumber_10 hl (by decide) rfl (fun ls hl => ?_)
  refine lv_iload hx hb dX3_itemNumber_12 (lv_at hl 0 rfl) ?_
  refine lv_if_lt (tgt := 37) hx hb dX3_itemNumber_14 (by decide) (fun h => absurd h (by decide)) (fun _ => ?_)
  refine lv_iload hx hb dX3_itemNumber_17 (lv_at hl 0 rfl) ?_
  refine lv_aload_n hx hb dX3_itemNumber_19 rfl (lv_at hl 1 rfl) ?_
  refine gf_RX3_9 hx hb hown hE hP 1 rfl rfl dX3_itemNumber_20 ?_
  refine x_aleni (v := 384) hx hb hE hP 0 rfl rfl dX3_itemNumber_23 ?_
  refine lv_icmp_ge (tgt := 37) hx hb dX3_itemNumber_24 (by decide) (fun h => absurd h (by decide)) (fun _ => ?_)
  refine lv_aload_n hx hb dX3_itemNumber_27 rfl (lv_at hl 1 rfl) ?_
  refine gf_RX3_9 hx hb hown hE hP 1 rfl rfl dX3_itemNumber_28 ?_
  refine lv_iload hx hb dX3_itemNumber_31 (lv_at hl 0 rfl) ?_
  refine x_iald (v := x7) hx hb hE hP 0 rfl 145 (x_in (by decide)) (by decide) hf6 dX3_itemNumber_33 ?_
  refine lv_goto (tgt := 38) hx hb dX3_itemNumber_34 (by decide) ?_
  exact x_zret hx hb hr rfl rfl hlocks hP hD hS hAe hsz (Nat.le_of_ble_eq_true rfl) (Nat.le_of_ble_eq_true rfl) (fun _ => 0) [0, 1] (by decide) rfl dX3_itemNumber_38

set_option maxHeartbeats 4000000 in
set_option maxRecDepth 100000 in
theorem c764_X3_lengthOf (l : Launch) (g : gG) (q1 q4 q10 : Nat) (x7 : Int32) (f5 : Nat → Int32) (f11 : Nat → Int32) (hf6 : f5 146 = x7) (hf8 : f5 144 = 2) (hf9 : f5 145 = 0) (hf12 : f11 1 = 0) (sz : Nat) : Met l yX3_lengthOf [Cond.code yX3_lengthOf cX3_lengthOf 4 (some .int)] ({ frames := 1, cells := 0, slots := 0, locals := 24 } : Room) (va_Pc [.ref q1, .int 3, .int 0] (PX g sz [(q10, .inl (g.2 0, 40, .inl f11)), (q4, .inl (g.2 0, 384, .inl f5)), (q1, .inr (5, [.ref q4, .ref q10]))])) (QI g [(q10, .inl (g.2 0, 40, .inl f11)), (q4, .inl (g.2 0, 384, .inl f5)), (q1, .inr (5, [.ref q4, .ref q10]))] sz 0 (fun _ => [(q4, .inl (g.2 0, 384, .inl f5)), (q10, .inl (g.2 0, 40, .inl f11)), (q1, .inr (5, [.ref q4, .ref q10]))])) 0 0 (va_A [(q10, .inl (g.2 0, 40, .inl f11)), (q4, .inl (g.2 0, 384, .inl f5)), (q1, .inr (5, [.ref q4, .ref q10]))] sz) := by
  refine ofN (by decide) (Nat.le_of_ble_eq_true rfl) rfl ?_
  intro p e s m args below meth c A ls hAe hsz hx hb hml hr hlocks hin hown hE hP hD hA hS hl
  have hown : s.vm.findClass RX3 = some m.cls := hown
  refine lv_aload_n hx hb dX3_lengthOf_0 rfl (lv_at hl 0 rfl) ?_
  refine lv_iload_n hx hb dX3_lengthOf_1 rfl (lv_at hl 1 rfl) ?_
  refine lv_iload_n hx hb dX3_lengthOf_2 rfl (lv_at hl 2 rfl) ?_
  refine lv_iconst (v := 2) hx hb dX3_lengthOf_3 (by decide) ?_
  refine g_i (wr := [(q10, .inl (g.2 0, 40, .inl f11))]) (rV (rest := []) hx hb hml hown hE hP hD 2 rfl rfl (c294_X3_itemNumber l g q1 q4 x7 (.ref q10) f5 (hf6) s.heap.size) (kV_X3_itemNumber hE (e348 hE) rfl rfl ⟨(Nat.le_of_ble_eq_true rfl), (Nat.le_of_ble_eq_true rfl)⟩) [1, 2] rfl (by decide) rfl hl.1 rfl (lv_room (Nat.le_of_ble_eq_true rfl)) dX3_lengthOf_4 ⟨(Nat.le_of_ble_eq_true rfl), (Nat.le_of_ble_eq_true rfl)⟩) hP hD hS hA [1, 2] [0] rfl rfl (by decide) (by decide) (fun u1 H locs hP hD hS => ?_)
  have hP : va_P g.1 vwCl [(q10, .inl (g.2 0, 40, .inl f11)), (q4, .inl (g.2 0, 384, .inl f5)), (q1, .inr (5, [.ref q4, .ref q10]))] H := hP
  have hD : va_D A [(q10, .inl (g.2 0, 40, .inl f11)), (q4, .inl (g.2 0, 384, .inl f5)), (q1, .inr (5, [.ref q4, .ref q10]))] := hD
  refine lv_istore_n (lv' := [(3, .int x7), (0, .ref q1), (1, .int 3), (2, .int 0)]) hx hb dX3_lengthOf_7 rfl hl (by decide) rfl (fun ls hl => ?_)
  refine lv_aload_n hx hb dX3_lengthOf_8 rfl (lv_at hl 1 rfl) ?_
  refine lv_iload_n hx hb dX3_lengthOf_9 rfl (lv_at hl 2 rfl) ?_
  refine lv_iload_n hx hb dX3_lengthOf_10 rfl (lv_at hl 3 rfl) ?_
  refine lv_iconst (v := 0) hx hb dX3_lengthOf_11 (by decide) ?_
  refine g_i (wr := [(q10, .inl (g.2 0, 40, .inl f11))]) (rV (rest := []) hx hb hml hown hE hP hD 2 rfl rfl (c762_X3_itemNumber l g q1 q4 (.ref q10) f5 (hf8) H.size) (kV_X3_itemNumber hE (e348 hE) rfl rfl ⟨(Nat.le_of_ble_eq_true rfl), (Nat.le_of_ble_eq_true rfl)⟩) [1, 2] rfl (by decide) rfl hl.1 rfl (lv_room (Nat.le_of_ble_eq_true rfl)) dX3_lengthOf_12 ⟨(Nat.le_of_ble_eq_true rfl), (Nat.le_of_ble_eq_true rfl)⟩) hP hD hS hA [1, 2] [0] rfl rfl (by decide) (by decide) (fun u2 H locs hP hD hS => ?_)
  have hP : va_P g.1 vwCl [(q10, .inl (g.2 0, 40, .inl f11)), (q4, .inl (g.2 0, 384, .inl f5)), (q1, .inr (5, [.ref q4, .ref q10]))] H := hP
  have hD : va_D A [(q10, .inl (g.2 0, 40, .inl f11)), (q4, .inl (g.2 0, 384, .inl f5)), (q1, .inr (5, [.ref q4, .ref q10]))] := hD
  refine lv_iconst (v := 2) hx hb dX3_lengthOf_15 (by decide) ?_
  refine lv_icmp_ne (tgt := 34) hx hb dX3_lengthOf_16 (by decide) (fun h => absurd h (by decide)) (fun _ => ?_)
  refine lv_iload_n hx hb dX3_lengthOf_19 rfl (lv_at hl 0 rfl) ?_
  refine lv_aload_n hx hb dX3_lengthOf_20 rfl (lv_at hl 1 rfl) ?_
  refine lv_aload_n hx hb dX3_lengthOf_21 rfl (lv_at hl 1 rfl) ?_
  refine lv_iload_n hx hb dX3_lengthOf_22 rfl (lv_at hl 2 rfl) ?_
  refine lv_iload_n hx hb dX3_lengthOf_23 rfl (lv_at hl 3 rfl) ?_
  refine lv_iconst (v := 1) hx hb dX3_lengthOf_24 (by decide) ?_
  refine g_i (wr := [(q10, .inl (g.2 0, 40, .inl f11))]) (rV (rest := [.ref q1, .int x7]) hx hb hml hown hE hP hD 2 rfl rfl (c763_X3_itemNumber l g q1 q4 0 (.ref q10) f5 (hf9) H.size) (kV_X3_itemNumber hE (e348 hE) rfl rfl ⟨(Nat.le_of_ble_eq_true rfl), (Nat.le_of_ble_eq_true rfl)⟩) [1, 2] rfl (by decide) rfl hl.1 rfl (lv_room (Nat.le_of_ble_eq_true rfl)) dX3_lengthOf_25 ⟨(Nat.le_of_ble_eq_true rfl), (Nat.le_of_ble_eq_true rfl)⟩) hP hD hS hA [1, 2] [0] rfl rfl (by decide) (by decide) (fun u3 H locs hP hD hS => ?_)
  have hP : va_P g.1 vwCl [(q10, .inl (g.2 0, 40, .inl f11)), (q4, .inl (g.2 0, 384, .inl f5)), (q1, .inr (5, [.ref q4, .ref q10]))] H := hP
  have hD : va_D A [(q10, .inl (g.2 0, 40, .inl f11)), (q4, .inl (g.2 0, 384, .inl f5)), (q1, .inr (5, [.ref q4, .ref q10]))] := hD
  refine lv_iconst (v := 1) hx hb dX3_lengthOf_28 (by decide) ?_
  refine g_i (wr := [(q4, .inl (g.2 0, 384, .inl f5))]) (rV (rest := [.int x7]) hx hb hml hown hE hP hD 2 rfl rfl (c145_X3_figure l g q1 q10 0 (.ref q4) f11 (hf12) H.size) (kV_X3_figure hE (e343 hE) rfl rfl ⟨(Nat.le_of_ble_eq_true rfl), (Nat.le_of_ble_eq_true rfl)⟩) [0, 2] rfl (by decide) rfl hl.1 rfl (lv_room (Nat.le_of_ble_eq_true rfl)) dX3_lengthOf_29 ⟨(Nat.le_of_ble_eq_true rfl), (Nat.le_of_ble_eq_true rfl)⟩) hP hD hS hA [0, 2] [1] rfl rfl (by decide) (by decide) (fun u4 H locs hP hD hS => ?_)
  have hP : va_P g.1 vwCl [(q4, .inl (g.2 0, 384, .inl f5)), (q10, .inl (g.2 0, 40, .inl f11)), (q1, .inr (5, [.ref q4, .ref q10]))] H := hP
  have hD : va_D A [(q4, .inl (g.2 0, 384, .inl f5)), (q10, .inl (g.2 0, 40, .inl f11)), (q1, .inr (5, [.ref q4, .ref q10]))] := hD
  refine x_imul (v := 0) hx hb dX3_lengthOf_32 (Int32.mul_zero) ?_
  exact x_zret hx hb hr rfl rfl hlocks hP hD hS hAe hsz (Nat.le_of_ble_eq_true rfl) (Nat.le_of_ble_eq_true rfl) (fun _ => 0) [0, 1, 2] (by decide) rfl dX3_lengthOf_33

set_option maxHeartbeats 4000000 in
set_option maxRecDepth 100000 in
theorem c765_X3_notesOf (l : Launch) (g : gG) (q1 q4 q10 : Nat) (x8 : Int32) (f5 : Nat → Int32) (f11 : Nat → Int32) (hf6 : f5 144 = 2) (hf7 : f5 146 = x8) (hf9 : f5 145 = 0) (hf12 : f11 2 = 0) (sz : Nat) : Met l yX3_notesOf [Cond.code yX3_notesOf cX3_notesOf 4 (some .int)] ({ frames := 1, cells := 0, slots := 0, locals := 24 } : Room) (va_Pc [.ref q1, .int 3, .int 0] (PX g sz [(q10, .inl (g.2 0, 40, .inl f11)), (q4, .inl (g.2 0, 384, .inl f5)), (q1, .inr (5, [.ref q4, .ref q10]))])) (QI g [(q10, .inl (g.2 0, 40, .inl f11)), (q4, .inl (g.2 0, 384, .inl f5)), (q1, .inr (5, [.ref q4, .ref q10]))] sz 0 (fun _ => [(q4, .inl (g.2 0, 384, .inl f5)), (q10, .inl (g.2 0, 40, .inl f11)), (q1, .inr (5, [.ref q4, .ref q10]))])) 0 0 (va_A [(q10, .inl (g.2 0, 40, .inl f11)), (q4, .inl (g.2 0, 384, .inl f5)), (q1, .inr (5, [.ref q4, .ref q10]))] sz) := by
  refine ofN (by decide) (Nat.le_of_ble_eq_true rfl) rfl ?_
  intro p e s m args below meth c A ls hAe hsz hx hb hml hr hlocks hin hown hE hP hD hA hS hl
  have hown : s.vm.findClass RX3 = some m.cls := hown
  refine lv_aload_n hx hb dX3_notesOf_0 rfl (lv_at hl 0 rfl) ?_
  refine lv_iload_n hx hb dX3_notesOf_1 rfl (lv_at hl 1 rfl) ?_
  refine lv_iload_n hx hb dX3_notesOf_2 rfl (lv_at hl 2 rfl) ?_
  refine lv_iconst (v := 0) hx hb dX3_notesOf_3 (by decide) ?_
  refine g_i (wr := [(q10, .inl (g.2 0, 40, .inl f11))]) (rV (rest := []) hx hb hml hown hE hP hD 2 rfl rfl (c762_X3_itemNumber l g q1 q4 (.ref q10) f5 (hf6) s.heap.size) (kV_X3_itemNumber hE (e348 hE) rfl rfl ⟨(Nat.le_of_ble_eq_true rfl), (Nat.le_of_ble_eq_true rfl)⟩) [1, 2] rfl (by decide) rfl hl.1 rfl (lv_room (Nat.le_of_ble_eq_true rfl)) dX3_notesOf_4 ⟨(Nat.le_of_ble_eq_true rfl), (Nat.le_of_ble_eq_true rfl)⟩) hP hD hS hA [1, 2] [0] rfl rfl (by decide) (by decide) (fun u1 H locs hP hD hS => ?_)
  have hP : va_P g.1 vwCl [(q10, .inl (g.2 0, 40, .inl f11)), (q4, .inl (g.2 0, 384, .inl f5)), (q1, .inr (5, [.ref q4, .ref q10]))] H := hP
  have hD : va_D A [(q10, .inl (g.2 0, 40, .inl f11)), (q4, .inl (g.2 0, 384, .inl f5)), (q1, .inr (5, [.ref q4, .ref q10]))] := hD
  refine lv_istore_n (lv' := [(3, .int 2), (0, .ref q1), (1, .int 3), (2, .int 0)]) hx hb dX3_notesOf_7 rfl hl (by decide) rfl (fun ls hl => ?_)
  refine lv_iload_n hx hb dX3_notesOf_8 rfl (lv_at hl 0 rfl) ?_
  refine lv_iconst (v := 2) hx hb dX3_notesOf_9 (by decide) ?_
  refine lv_icmp_ne (tgt := 34) hx hb dX3_notesOf_10 (by decide) (fun h => absurd h (by decide)) (fun _ => ?_)
  refine lv_aload_n hx hb dX3_notesOf_13 rfl (lv_at hl 1 rfl) ?_
  refine lv_iload_n hx hb dX3_notesOf_14 rfl (lv_at hl 2 rfl) ?_
  refine lv_iload_n hx hb dX3_notesOf_15 rfl (lv_at hl 3 rfl) ?_
  refine lv_iconst (v := 2) hx hb dX3_notesOf_16 (by decide) ?_
  refine g_i (wr := [(q10, .inl (g.2 0, 40, .inl f11))]) (rV (rest := []) hx hb hml hown hE hP hD 2 rfl rfl (c294_X3_itemNumber l g q1 q4 x8 (.ref q10) f5 (hf7) H.size) (kV_X3_itemNumber hE (e348 hE) rfl rfl ⟨(Nat.le_of_ble_eq_true rfl), (Nat.le_of_ble_eq_true rfl)⟩) [1, 2] rfl (by decide) rfl hl.1 rfl (lv_room (Nat.le_of_ble_eq_true rfl)) dX3_notesOf_17 ⟨(Nat.le_of_ble_eq_true rfl), (Nat.le_of_ble_eq_true rfl)⟩) hP hD hS hA [1, 2] [0] rfl rfl (by decide) (by decide) (fun u2 H locs hP hD hS => ?_)
  have hP : va_P g.1 vwCl [(q10, .inl (g.2 0, 40, .inl f11)), (q4, .inl (g.2 0, 384, .inl f5)), (q1, .inr (5, [.ref q4, .ref q10]))] H := hP
  have hD : va_D A [(q10, .inl (g.2 0, 40, .inl f11)), (q4, .inl (g.2 0, 384, .inl f5)), (q1, .inr (5, [.ref q4, .ref q10]))] := hD
  refine lv_aload_n hx hb dX3_notesOf_20 rfl (lv_at hl 1 rfl) ?_
  refine lv_aload_n hx hb dX3_notesOf_21 rfl (lv_at hl 1 rfl) ?_
  refine lv_iload_n hx hb dX3_notesOf_22 rfl (lv_at hl 2 rfl) ?_
  refine lv_iload_n hx hb dX3_notesOf_23 rfl (lv_at hl 3 rfl) ?_
  refine lv_iconst (v := 1) hx hb dX3_notesOf_24 (by decide) ?_
  refine g_i (wr := [(q10, .inl (g.2 0, 40, .inl f11))]) (rV (rest := [.ref q1, .int x8]) hx hb hml hown hE hP hD 2 rfl rfl (c763_X3_itemNumber l g q1 q4 0 (.ref q10) f5 (hf9) H.size) (kV_X3_itemNumber hE (e348 hE) rfl rfl ⟨(Nat.le_of_ble_eq_true rfl), (Nat.le_of_ble_eq_true rfl)⟩) [1, 2] rfl (by decide) rfl hl.1 rfl (lv_room (Nat.le_of_ble_eq_true rfl)) dX3_notesOf_25 ⟨(Nat.le_of_ble_eq_true rfl), (Nat.le_of_ble_eq_true rfl)⟩) hP hD hS hA [1, 2] [0] rfl rfl (by decide) (by decide) (fun u3 H locs hP hD hS => ?_)
  have hP : va_P g.1 vwCl [(q10, .inl (g.2 0, 40, .inl f11)), (q4, .inl (g.2 0, 384, .inl f5)), (q1, .inr (5, [.ref q4, .ref q10]))] H := hP
  have hD : va_D A [(q10, .inl (g.2 0, 40, .inl f11)), (q4, .inl (g.2 0, 384, .inl f5)), (q1, .inr (5, [.ref q4, .ref q10]))] := hD
  refine lv_iconst (v := 2) hx hb dX3_notesOf_28 (by decide) ?_
  refine g_i (wr := [(q4, .inl (g.2 0, 384, .inl f5))]) (rV (rest := [.int x8]) hx hb hml hown hE hP hD 2 rfl rfl (c666_X3_figure l g q1 q10 (.ref q4) f11 (hf12) H.size) (kV_X3_figure hE (e343 hE) rfl rfl ⟨(Nat.le_of_ble_eq_true rfl), (Nat.le_of_ble_eq_true rfl)⟩) [0, 2] rfl (by decide) rfl hl.1 rfl (lv_room (Nat.le_of_ble_eq_true rfl)) dX3_notesOf_29 ⟨(Nat.le_of_ble_eq_true rfl), (Nat.le_of_ble_eq_true rfl)⟩) hP hD hS hA [0, 2] [1] rfl rfl (by decide) (by decide) (fun u4 H locs hP hD hS => ?_)
  have hP : va_P g.1 vwCl [(q4, .inl (g.2 0, 384, .inl f5)), (q10, .inl (g.2 0, 40, .inl f11)), (q1, .inr (5, [.ref q4, .ref q10]))] H := hP
  have hD : va_D A [(q4, .inl (g.2 0, 384, .inl f5)), (q10, .inl (g.2 0, 40, .inl f11)), (q1, .inr (5, [.ref q4, .ref q10]))] := hD
  refine x_imul (v := 0) hx hb dX3_notesOf_32 (Int32.mul_zero) ?_
  exact x_zret hx hb hr rfl rfl hlocks hP hD hS hAe hsz (Nat.le_of_ble_eq_true rfl) (Nat.le_of_ble_eq_true rfl) (fun _ => 0) [0, 1, 2] (by decide) rfl dX3_notesOf_33

set_option maxHeartbeats 4000000 in
set_option maxRecDepth 100000 in
theorem c766_X3_putFigure (l : Launch) (g : gG) (q1 q4 : Nat) (w2 : Value) (f5 : Nat → Int32) (sz : Nat) : Met l yX3_putFigure [Cond.code yX3_putFigure cX3_putFigure 5 none] ({ frames := 0, cells := 0, slots := 0, locals := 0 } : Room) (va_Pc [.ref q1, .int 3, .int 3, .int 1] (PX g sz [(q4, .inl (g.2 0, 40, .inl f5)), (q1, .inr (5, [w2, .ref q4]))])) (QV g [(q4, .inl (g.2 0, 40, .inl f5)), (q1, .inr (5, [w2, .ref q4]))] sz (fun _ => [(q4, .inl (g.2 0, 40, .inl (upd f5 18 1))), (q1, .inr (5, [w2, .ref q4]))])) 0 0 (va_A [(q4, .inl (g.2 0, 40, .inl f5)), (q1, .inr (5, [w2, .ref q4]))] sz) := by
  refine ofN (by decide) (Nat.le_of_ble_eq_true rfl) rfl ?_
  intro p e s m args below meth c A ls hAe hsz hx hb hml hr hlocks hin hown hE hP hD hA hS hl
  have hown : s.vm.findClass RX3 = some m.cls := hown
  refine lv_iload_n hx hb dX3_putFigure_0 rfl (lv_at hl 1 rfl) ?_
  refine lv_iconst (v := 5) hx hb dX3_putFigure_1 (by decide) ?_
  refine x_imul (v := 15) hx hb dX3_putFigure_2 (by decide) ?_
  refine lv_iload_n hx hb dX3_putFigure_3 rfl (lv_at hl 2 rfl) ?_
  refine x_iadd (v := 18) hx hb dX3_putFigure_4 (by decide) ?_
  refine lv_istore (lv' := [(4, .int 18), (0, .ref q1), (1, .int 3), (2, .int 3), (3, .int 1)]) hx hb dX3_putFigure_5 hl (by decide) rfl (fun ls hl => ?_)
  refine lv_iload hx hb dX3_putFigure_7 (lv_at hl 0 rfl) ?_
  refine lv_if_lt (tgt := 30) hx hb dX3_putFigure_9 (by decide) (fun h => absurd h (by decide)) (fun _ => ?_)
  refine lv_iload hx hb dX3_putFigure_12 (lv_at hl 0 rfl) ?_
  refine lv_aload_n hx hb dX3_putFigure_14 rfl (lv_at hl 1 rfl) ?_
  refine gf_RX3_15 hx hb hown hE hP 1 rfl rfl dX3_putFigure_15 ?_
  refine x_aleni (v := 40) hx hb hE hP 0 rfl rfl dX3_putFigure_18 ?_
  refine lv_icmp_ge (tgt := 30) hx hb dX3_putFigure_19 (by decide) (fun h => absurd h (by decide)) (fun _ => ?_)
  refine lv_aload_n hx hb dX3_putFigure_22 rfl (lv_at hl 1 rfl) ?_
  refine gf_RX3_15 hx hb hown hE hP 1 rfl rfl dX3_putFigure_23 ?_
  refine lv_iload hx hb dX3_putFigure_26 (lv_at hl 0 rfl) ?_
  refine lv_iload_n hx hb dX3_putFigure_28 rfl (lv_at hl 4 rfl) ?_
  refine x_iast (ws' := [(q4, .inl (g.2 0, 40, .inl (upd f5 18 1))), (q1, .inr (5, [w2, .ref q4]))]) hx hb hE hP hD hS 0 rfl 18 (x_in (by decide)) (by decide) dX3_putFigure_29 rfl (fun H locs hP hD hS => ?_)
  exact x_vret hx hb hr hlocks hP hD hS hAe hsz (Nat.le_of_ble_eq_true rfl) (Nat.le_of_ble_eq_true rfl) (fun _ => 0) [0, 1] (by decide) rfl dX3_putFigure_30

set_option maxHeartbeats 4000000 in
set_option maxRecDepth 100000 in
theorem c767_X3_putFigure (l : Launch) (g : gG) (q1 q4 : Nat) (w2 : Value) (f5 : Nat → Int32) (sz : Nat) : Met l yX3_putFigure [Cond.code yX3_putFigure cX3_putFigure 5 none] ({ frames := 0, cells := 0, slots := 0, locals := 0 } : Room) (va_Pc [.ref q1, .int 3, .int 4, .int 2] (PX g sz [(q4, .inl (g.2 0, 40, .inl f5)), (q1, .inr (5, [w2, .ref q4]))])) (QV g [(q4, .inl (g.2 0, 40, .inl f5)), (q1, .inr (5, [w2, .ref q4]))] sz (fun _ => [(q4, .inl (g.2 0, 40, .inl (upd f5 19 2))), (q1, .inr (5, [w2, .ref q4]))])) 0 0 (va_A [(q4, .inl (g.2 0, 40, .inl f5)), (q1, .inr (5, [w2, .ref q4]))] sz) := by
  refine ofN (by decide) (Nat.le_of_ble_eq_true rfl) rfl ?_
  intro p e s m args below meth c A ls hAe hsz hx hb hml hr hlocks hin hown hE hP hD hA hS hl
  have hown : s.vm.findClass RX3 = some m.cls := hown
  refine lv_iload_n hx hb dX3_putFigure_0 rfl (lv_at hl 1 rfl) ?_
  refine lv_iconst (v := 5) hx hb dX3_putFigure_1 (by decide) ?_
  refine x_imul (v := 15) hx hb dX3_putFigure_2 (by decide) ?_
  refine lv_iload_n hx hb dX3_putFigure_3 rfl (lv_at hl 2 rfl) ?_
  refine x_iadd (v := 19) hx hb dX3_putFigure_4 (by decide) ?_
  refine lv_istore (lv' := [(4, .int 19), (0, .ref q1), (1, .int 3), (2, .int 4), (3, .int 2)]) hx hb dX3_putFigure_5 hl (by decide) rfl (fun ls hl => ?_)
  refine lv_iload hx hb dX3_putFigure_7 (lv_at hl 0 rfl) ?_
  refine lv_if_lt (tgt := 30) hx hb dX3_putFigure_9 (by decide) (fun h => absurd h (by decide)) (fun _ => ?_)
  refine lv_iload hx hb dX3_putFigure_12 (lv_at hl 0 rfl) ?_
  refine lv_aload_n hx hb dX3_putFigure_14 rfl (lv_at hl 1 rfl) ?_
  refine gf_RX3_15 hx hb hown hE hP 1 rfl rfl dX3_putFigure_15 ?_
  refine x_aleni (v := 40) hx hb hE hP 0 rfl rfl dX3_putFigure_18 ?_
  refine lv_icmp_ge (tgt := 30) hx hb dX3_putFigure_19 (by decide) (fun h => absurd h (by decide)) (fun _ => ?_)
  refine lv_aload_n hx hb dX3_putFigure_22 rfl (lv_at hl 1 rfl) ?_
  refine gf_RX3_15 hx hb hown hE hP 1 rfl rfl dX3_putFigure_23 ?_
  refine lv_iload hx hb dX3_putFigure_26 (lv_at hl 0 rfl) ?_
  refine lv_iload_n hx hb dX3_putFigure_28 rfl (lv_at hl 4 rfl) ?_
  refine x_iast (ws' := [(q4, .inl (g.2 0, 40, .inl (upd f5 19 2))), (q1, .inr (5, [w2, .ref q4]))]) hx hb hE hP hD hS 0 rfl 19 (x_in (by decide)) (by decide) dX3_putFigure_29 rfl (fun H locs hP hD hS => ?_)
  exact x_vret hx hb hr hlocks hP hD hS hAe hsz (Nat.le_of_ble_eq_true rfl) (Nat.le_of_ble_eq_true rfl) (fun _ => 0) [0, 1] (by decide) rfl dX3_putFigure_30

set_option maxHeartbeats 4000000 in
set_option maxRecDepth 100000 in
theorem c768_X3_measureOne (l : Launch) (g : gG) (q1 q4 q7 : Nat) (x10 : Int32) (f5 : Nat → Int32) (f8 : Nat → Int32) (hf6 : f5 15 = 1) (hf9 : f8 146 = x10) (hf11 : f8 144 = 2) (hf12 : f8 145 = 0) (hf13 : f5 1 = 0) (hf14 : f5 2 = 0) (hf15 : f5 3 = 0) (hf16 : f5 4 = 1) (hf17 : f5 16 = 0) (hf18 : f5 17 = 0) (sz : Nat) : Met l yX3_measureOne [Cond.code yX3_measureOne cX3_measureOne 9 none] ({ frames := 2, cells := 0, slots := 0, locals := 47 } : Room) (va_Pc [.ref q1, .int 3] (PX g sz [(q7, .inl (g.2 0, 384, .inl f8)), (q4, .inl (g.2 0, 40, .inl f5)), (q1, .inr (5, [.ref q7, .ref q4]))])) (QV g [(q7, .inl (g.2 0, 384, .inl f8)), (q4, .inl (g.2 0, 40, .inl f5)), (q1, .inr (5, [.ref q7, .ref q4]))] sz (fun _ => [(q7, .inl (g.2 0, 384, .inl f8)), (q4, .inl (g.2 0, 40, .inl (upd (upd f5 18 1) 19 2))), (q1, .inr (5, [.ref q7, .ref q4]))])) 0 0 (va_A [(q7, .inl (g.2 0, 384, .inl f8)), (q4, .inl (g.2 0, 40, .inl f5)), (q1, .inr (5, [.ref q7, .ref q4]))] sz) := by
  refine ofN (by decide) (Nat.le_of_ble_eq_true rfl) rfl ?_
  intro p e s m args below meth c A ls hAe hsz hx hb hml hr hlocks hin hown hE hP hD hA hS hl
  have hown : s.vm.findClass RX3 = some m.cls := hown
  refine lv_iconst (v := 0) hx hb dX3_measureOne_0 (by decide) ?_
  refine lv_istore_n (lv' := [(2, .int 0), (0, .ref q1), (1, .int 3)]) hx hb dX3_measureOne_1 rfl hl (by decide) rfl (fun ls hl => ?_)
  refine lv_iconst (v := 0) hx hb dX3_measureOne_2 (by decide) ?_
  refine lv_istore_n (lv' := [(3, .int 0), (2, .int 0), (0, .ref q1), (1, .int 3)]) hx hb dX3_measureOne_3 rfl hl (by decide) rfl (fun ls hl => ?_)
  refine lv_iconst (v := 0) hx hb dX3_measureOne_4 (by decide) ?_
  refine lv_istore (lv' := [(4, .int 0), (3, .int 0), (2, .int 0), (0, .ref q1), (1, .int 3)]) hx hb dX3_measureOne_5 hl (by decide) rfl (fun ls hl => ?_)
  refine lv_iconst (v := 1) hx hb dX3_measureOne_7 (by decide) ?_
  refine lv_istore (lv' := [(5, .int 1), (4, .int 0), (3, .int 0), (2, .int 0), (0, .ref q1), (1, .int 3)]) hx hb dX3_measureOne_8 hl (by decide) rfl (fun ls hl => ?_)
  refine lv_aload_n hx hb dX3_measureOne_10 rfl (lv_at hl 4 rfl) ?_
  refine lv_iload_n hx hb dX3_measureOne_11 rfl (lv_at hl 5 rfl) ?_
  refine lv_iconst (v := 0) hx hb dX3_measureOne_12 (by decide) ?_
  refine g_i (wr := [(q7, .inl (g.2 0, 384, .inl f8))]) (rV (rest := []) hx hb hml hown hE hP hD 2 rfl rfl (c293_X3_figure l g q1 q4 (.ref q7) f5 (hf6) s.heap.size) (kV_X3_figure hE (e343 hE) rfl rfl ⟨(Nat.le_of_ble_eq_true rfl), (Nat.le_of_ble_eq_true rfl)⟩) [1, 2] rfl (by decide) rfl hl.1 rfl (lv_room (Nat.le_of_ble_eq_true rfl)) dX3_measureOne_13 ⟨(Nat.le_of_ble_eq_true rfl), (Nat.le_of_ble_eq_true rfl)⟩) hP hD hS hA [1, 2] [0] rfl rfl (by decide) (by decide) (fun u1 H locs hP hD hS => ?_)
  have hP : va_P g.1 vwCl [(q7, .inl (g.2 0, 384, .inl f8)), (q4, .inl (g.2 0, 40, .inl f5)), (q1, .inr (5, [.ref q7, .ref q4]))] H := hP
  have hD : va_D A [(q7, .inl (g.2 0, 384, .inl f8)), (q4, .inl (g.2 0, 40, .inl f5)), (q1, .inr (5, [.ref q7, .ref q4]))] := hD
  refine lv_istore (lv' := [(6, .int 1), (5, .int 1), (4, .int 0), (3, .int 0), (2, .int 0), (0, .ref q1), (1, .int 3)]) hx hb dX3_measureOne_16 hl (by decide) rfl (fun ls hl => ?_)
  refine lv_iconst (v := 0) hx hb dX3_measureOne_18 (by decide) ?_
  refine lv_istore (lv' := [(7, .int 0), (6, .int 1), (5, .int 1), (4, .int 0), (3, .int 0), (2, .int 0), (0, .ref q1), (1, .int 3)]) hx hb dX3_measureOne_19 hl (by decide) rfl (fun ls hl => ?_)
  refine lv_iload hx hb dX3_measureOne_21 (lv_at hl 0 rfl) ?_
  refine lv_iload hx hb dX3_measureOne_23 (lv_at hl 1 rfl) ?_
  refine lv_icmp_ge (tgt := 109) hx hb dX3_measureOne_25 (by decide) (fun h => absurd h (by decide)) (fun _ => ?_)
  refine lv_iload_n hx hb dX3_measureOne_28 rfl (lv_at hl 5 rfl) ?_
  refine lv_aload_n hx hb dX3_measureOne_29 rfl (lv_at hl 6 rfl) ?_
  refine lv_iload_n hx hb dX3_measureOne_30 rfl (lv_at hl 7 rfl) ?_
  refine lv_iload hx hb dX3_measureOne_31 (lv_at hl 0 rfl) ?_
  refine g_i (wr := []) (rV (rest := [.int 0]) hx hb hml hown hE hP hD 2 rfl rfl (c764_X3_lengthOf l g q1 q7 q4 x10 f8 f5 (hf9) (hf11) (hf12) (hf13) H.size) (kV_X3_lengthOf hE (e352 hE) rfl rfl ⟨(Nat.le_of_ble_eq_true rfl), (Nat.le_of_ble_eq_true rfl)⟩) [1, 0, 2] rfl (by decide) rfl hl.1 rfl (lv_room (Nat.le_of_ble_eq_true rfl)) dX3_measureOne_33 ⟨(Nat.le_of_ble_eq_true rfl), (Nat.le_of_ble_eq_true rfl)⟩) hP hD hS hA [1, 0, 2] [] rfl rfl (by decide) (by decide) (fun u2 H locs hP hD hS => ?_)
  have hP : va_P g.1 vwCl [(q7, .inl (g.2 0, 384, .inl f8)), (q4, .inl (g.2 0, 40, .inl f5)), (q1, .inr (5, [.ref q7, .ref q4]))] H := hP
  have hD : va_D A [(q7, .inl (g.2 0, 384, .inl f8)), (q4, .inl (g.2 0, 40, .inl f5)), (q1, .inr (5, [.ref q7, .ref q4]))] := hD
  refine x_iadd (v := 0) hx hb dX3_measureOne_36 (by decide) ?_
  refine lv_istore_n (lv' := [(2, .int 0), (7, .int 0), (6, .int 1), (5, .int 1), (4, .int 0), (3, .int 0), (0, .ref q1), (1, .int 3)]) hx hb dX3_measureOne_37 rfl hl (by decide) rfl (fun ls hl => ?_)
  refine lv_iload_n hx hb dX3_measureOne_38 rfl (lv_at hl 5 rfl) ?_
  refine lv_aload_n hx hb dX3_measureOne_39 rfl (lv_at hl 6 rfl) ?_
  refine lv_iload_n hx hb dX3_measureOne_40 rfl (lv_at hl 7 rfl) ?_
  refine lv_iload hx hb dX3_measureOne_41 (lv_at hl 1 rfl) ?_
  refine g_i (wr := []) (rV (rest := [.int 0]) hx hb hml hown hE hP hD 2 rfl rfl (c765_X3_notesOf l g q1 q7 q4 x10 f8 f5 (hf11) (hf9) (hf12) (hf14) H.size) (kV_X3_notesOf hE (e344 hE) rfl rfl ⟨(Nat.le_of_ble_eq_true rfl), (Nat.le_of_ble_eq_true rfl)⟩) [1, 0, 2] rfl (by decide) rfl hl.1 rfl (lv_room (Nat.le_of_ble_eq_true rfl)) dX3_measureOne_43 ⟨(Nat.le_of_ble_eq_true rfl), (Nat.le_of_ble_eq_true rfl)⟩) hP hD hS hA [1, 0, 2] [] rfl rfl (by decide) (by decide) (fun u3 H locs hP hD hS => ?_)
  have hP : va_P g.1 vwCl [(q7, .inl (g.2 0, 384, .inl f8)), (q4, .inl (g.2 0, 40, .inl f5)), (q1, .inr (5, [.ref q7, .ref q4]))] H := hP
  have hD : va_D A [(q7, .inl (g.2 0, 384, .inl f8)), (q4, .inl (g.2 0, 40, .inl f5)), (q1, .inr (5, [.ref q7, .ref q4]))] := hD
  refine x_iadd (v := 0) hx hb dX3_measureOne_46 (by decide) ?_
  refine lv_istore_n (lv' := [(3, .int 0), (2, .int 0), (7, .int 0), (6, .int 1), (5, .int 1), (4, .int 0), (0, .ref q1), (1, .int 3)]) hx hb dX3_measureOne_47 rfl hl (by decide) rfl (fun ls hl => ?_)
  refine lv_aload_n hx hb dX3_measureOne_48 rfl (lv_at hl 6 rfl) ?_
  refine lv_iload_n hx hb dX3_measureOne_49 rfl (lv_at hl 7 rfl) ?_
  refine lv_iload hx hb dX3_measureOne_50 (lv_at hl 2 rfl) ?_
  refine lv_iconst (v := 0) hx hb dX3_measureOne_52 (by decide) ?_
  refine g_i (wr := [(q4, .inl (g.2 0, 40, .inl f5))]) (rV (rest := []) hx hb hml hown hE hP hD 2 rfl rfl (c762_X3_itemNumber l g q1 q7 (.ref q4) f8 (hf11) H.size) (kV_X3_itemNumber hE (e348 hE) rfl rfl ⟨(Nat.le_of_ble_eq_true rfl), (Nat.le_of_ble_eq_true rfl)⟩) [0, 2] rfl (by decide) rfl hl.1 rfl (lv_room (Nat.le_of_ble_eq_true rfl)) dX3_measureOne_53 ⟨(Nat.le_of_ble_eq_true rfl), (Nat.le_of_ble_eq_true rfl)⟩) hP hD hS hA [0, 2] [1] rfl rfl (by decide) (by decide) (fun u4 H locs hP hD hS => ?_)
  have hP : va_P g.1 vwCl [(q4, .inl (g.2 0, 40, .inl f5)), (q7, .inl (g.2 0, 384, .inl f8)), (q1, .inr (5, [.ref q7, .ref q4]))] H := hP
  have hD : va_D A [(q4, .inl (g.2 0, 40, .inl f5)), (q7, .inl (g.2 0, 384, .inl f8)), (q1, .inr (5, [.ref q7, .ref q4]))] := hD
  refine lv_iconst (v := 2) hx hb dX3_measureOne_56 (by decide) ?_
  refine lv_icmp_ne (tgt := 103) hx hb dX3_measureOne_57 (by decide) (fun h => absurd h (by decide)) (fun _ => ?_)
  refine lv_aload_n hx hb dX3_measureOne_60 rfl (lv_at hl 6 rfl) ?_
  refine lv_iload_n hx hb dX3_measureOne_61 rfl (lv_at hl 7 rfl) ?_
  refine lv_iload hx hb dX3_measureOne_62 (lv_at hl 2 rfl) ?_
  refine lv_iconst (v := 1) hx hb dX3_measureOne_64 (by decide) ?_
  refine g_i (wr := [(q4, .inl (g.2 0, 40, .inl f5))]) (rV (rest := []) hx hb hml hown hE hP hD 2 rfl rfl (c763_X3_itemNumber l g q1 q7 0 (.ref q4) f8 (hf12) H.size) (kV_X3_itemNumber hE (e348 hE) rfl rfl ⟨(Nat.le_of_ble_eq_true rfl), (Nat.le_of_ble_eq_true rfl)⟩) [1, 2] rfl (by decide) rfl hl.1 rfl (lv_room (Nat.le_of_ble_eq_true rfl)) dX3_measureOne_65 ⟨(Nat.le_of_ble_eq_true rfl), (Nat.le_of_ble_eq_true rfl)⟩) hP hD hS hA [1, 2] [0] rfl rfl (by decide) (by decide) (fun u5 H locs hP hD hS => ?_)
  have hP : va_P g.1 vwCl [(q4, .inl (g.2 0, 40, .inl f5)), (q7, .inl (g.2 0, 384, .inl f8)), (q1, .inr (5, [.ref q7, .ref q4]))] H := hP
  have hD : va_D A [(q4, .inl (g.2 0, 40, .inl f5)), (q7, .inl (g.2 0, 384, .inl f8)), (q1, .inr (5, [.ref q7, .ref q4]))] := hD
  refine lv_istore (lv' := [(8, .int 0), (3, .int 0), (2, .int 0), (7, .int 0), (6, .int 1), (5, .int 1), (4, .int 0), (0, .ref q1), (1, .int 3)]) hx hb dX3_measureOne_68 hl (by decide) rfl (fun ls hl => ?_)
  refine lv_iload hx hb dX3_measureOne_70 (lv_at hl 6 rfl) ?_
  refine lv_iconst (v := 1) hx hb dX3_measureOne_72 (by decide) ?_
  refine lv_iload hx hb dX3_measureOne_73 (lv_at hl 0 rfl) ?_
  refine lv_ishl hx hb dX3_measureOne_75 ?_
  refine x_top (v := 1) (by decide) ?_
  refine lv_aload_n hx hb dX3_measureOne_76 rfl (lv_at hl 7 rfl) ?_
  refine lv_iload hx hb dX3_measureOne_77 (lv_at hl 0 rfl) ?_
  refine lv_iconst (v := 3) hx hb dX3_measureOne_79 (by decide) ?_
  refine g_i (wr := [(q7, .inl (g.2 0, 384, .inl f8))]) (rV (rest := [.int 1, .int 0]) hx hb hml hown hE hP hD 2 rfl rfl (c668_X3_figure l g q1 q4 (.ref q7) f5 (hf15) H.size) (kV_X3_figure hE (e343 hE) rfl rfl ⟨(Nat.le_of_ble_eq_true rfl), (Nat.le_of_ble_eq_true rfl)⟩) [0, 2] rfl (by decide) rfl hl.1 rfl (lv_room (Nat.le_of_ble_eq_true rfl)) dX3_measureOne_80 ⟨(Nat.le_of_ble_eq_true rfl), (Nat.le_of_ble_eq_true rfl)⟩) hP hD hS hA [0, 2] [1] rfl rfl (by decide) (by decide) (fun u6 H locs hP hD hS => ?_)
  have hP : va_P g.1 vwCl [(q7, .inl (g.2 0, 384, .inl f8)), (q4, .inl (g.2 0, 40, .inl f5)), (q1, .inr (5, [.ref q7, .ref q4]))] H := hP
  have hD : va_D A [(q7, .inl (g.2 0, 384, .inl f8)), (q4, .inl (g.2 0, 40, .inl f5)), (q1, .inr (5, [.ref q7, .ref q4]))] := hD
  refine x_ior (v := 1) hx hb dX3_measureOne_83 (by decide) ?_
  refine x_ior (v := 1) hx hb dX3_measureOne_84 (by decide) ?_
  refine lv_istore (lv' := [(4, .int 1), (8, .int 0), (3, .int 0), (2, .int 0), (7, .int 0), (6, .int 1), (5, .int 1), (0, .ref q1), (1, .int 3)]) hx hb dX3_measureOne_85 hl (by decide) rfl (fun ls hl => ?_)
  refine lv_iload hx hb dX3_measureOne_87 (lv_at hl 6 rfl) ?_
  refine lv_iconst (v := 1) hx hb dX3_measureOne_89 (by decide) ?_
  refine lv_aload_n hx hb dX3_measureOne_90 rfl (lv_at hl 7 rfl) ?_
  refine lv_iload hx hb dX3_measureOne_91 (lv_at hl 1 rfl) ?_
  refine lv_iconst (v := 4) hx hb dX3_measureOne_93 (by decide) ?_
  refine g_i (wr := [(q7, .inl (g.2 0, 384, .inl f8))]) (rV (rest := [.int 1, .int 1]) hx hb hml hown hE hP hD 2 rfl rfl (c669_X3_figure l g q1 q4 (.ref q7) f5 (hf16) H.size) (kV_X3_figure hE (e343 hE) rfl rfl ⟨(Nat.le_of_ble_eq_true rfl), (Nat.le_of_ble_eq_true rfl)⟩) [1, 2] rfl (by decide) rfl hl.1 rfl (lv_room (Nat.le_of_ble_eq_true rfl)) dX3_measureOne_94 ⟨(Nat.le_of_ble_eq_true rfl), (Nat.le_of_ble_eq_true rfl)⟩) hP hD hS hA [1, 2] [0] rfl rfl (by decide) (by decide) (fun u7 H locs hP hD hS => ?_)
  have hP : va_P g.1 vwCl [(q7, .inl (g.2 0, 384, .inl f8)), (q4, .inl (g.2 0, 40, .inl f5)), (q1, .inr (5, [.ref q7, .ref q4]))] H := hP
  have hD : va_D A [(q7, .inl (g.2 0, 384, .inl f8)), (q4, .inl (g.2 0, 40, .inl f5)), (q1, .inr (5, [.ref q7, .ref q4]))] := hD
  refine x_iadd (v := 2) hx hb dX3_measureOne_97 (by decide) ?_
  refine x_mmax (v := 2) hx hb (by rw [hml]; exact hl.1.symm) hown (e702 hE) (e165 hE) (e9 hE) (e166 hE) (Nat.le_of_ble_eq_true rfl) (Nat.le_of_ble_eq_true rfl) (Nat.le_of_ble_eq_true rfl) (Nat.le_of_ble_eq_true rfl) (by decide) dX3_measureOne_98 ?_
  refine lv_istore (lv' := [(5, .int 2), (4, .int 1), (8, .int 0), (3, .int 0), (2, .int 0), (7, .int 0), (6, .int 1), (0, .ref q1), (1, .int 3)]) hx hb dX3_measureOne_101 hl (by decide) rfl (fun ls hl => ?_)
  refine lv_iinc (v := 1) (lv' := [(7, .int 1), (5, .int 2), (4, .int 1), (8, .int 0), (3, .int 0), (2, .int 0), (6, .int 1), (0, .ref q1), (1, .int 3)]) hx hb dX3_measureOne_103 hl (k := 5) rfl (by decide) (by decide) rfl (fun ls hl => ?_)
  refine lv_goto (tgt := 21) hx hb dX3_measureOne_106 (by decide) ?_
  refine lv_iload hx hb dX3_measureOne_21 (lv_at hl 0 rfl) ?_
  refine lv_iload hx hb dX3_measureOne_23 (lv_at hl 6 rfl) ?_
  refine lv_icmp_ge (tgt := 109) hx hb dX3_measureOne_25 (by decide) (fun _ => ?_) (fun h => absurd (by decide) h)
  refine lv_aload_n hx hb dX3_measureOne_109 rfl (lv_at hl 7 rfl) ?_
  refine lv_iload_n hx hb dX3_measureOne_110 rfl (lv_at hl 8 rfl) ?_
  refine lv_iconst (v := 1) hx hb dX3_measureOne_111 (by decide) ?_
  refine lv_iload_n hx hb dX3_measureOne_112 rfl (lv_at hl 5 rfl) ?_
  refine g_v (wr := [(q7, .inl (g.2 0, 384, .inl f8))]) (rV (rest := []) hx hb hml hown hE hP hD 2 rfl rfl (c159_X3_putFigure l g q1 q4 (.ref q7) f5 (hf17) H.size) (kV_X3_putFigure hE (e91 hE) rfl rfl ⟨(Nat.le_of_ble_eq_true rfl), (Nat.le_of_ble_eq_true rfl)⟩) [1, 2] rfl (by decide) rfl hl.1 rfl (lv_room (Nat.le_of_ble_eq_true rfl)) dX3_measureOne_113 ⟨(Nat.le_of_ble_eq_true rfl), (Nat.le_of_ble_eq_true rfl)⟩) hP hD hS hA [1, 2] [0] rfl rfl (by decide) (by decide) (fun u8 H locs hP hD hS => ?_)
  have hP : va_P g.1 vwCl [(q7, .inl (g.2 0, 384, .inl f8)), (q4, .inl (g.2 0, 40, .inl f5)), (q1, .inr (5, [.ref q7, .ref q4]))] H := hP
  have hD : va_D A [(q7, .inl (g.2 0, 384, .inl f8)), (q4, .inl (g.2 0, 40, .inl f5)), (q1, .inr (5, [.ref q7, .ref q4]))] := hD
  refine lv_aload_n hx hb dX3_measureOne_116 rfl (lv_at hl 7 rfl) ?_
  refine lv_iload_n hx hb dX3_measureOne_117 rfl (lv_at hl 8 rfl) ?_
  refine lv_iconst (v := 2) hx hb dX3_measureOne_118 (by decide) ?_
  refine lv_iload_n hx hb dX3_measureOne_119 rfl (lv_at hl 4 rfl) ?_
  refine g_v (wr := [(q7, .inl (g.2 0, 384, .inl f8))]) (rV (rest := []) hx hb hml hown hE hP hD 2 rfl rfl (c160_X3_putFigure l g q1 q4 (.ref q7) f5 (hf18) H.size) (kV_X3_putFigure hE (e91 hE) rfl rfl ⟨(Nat.le_of_ble_eq_true rfl), (Nat.le_of_ble_eq_true rfl)⟩) [1, 2] rfl (by decide) rfl hl.1 rfl (lv_room (Nat.le_of_ble_eq_true rfl)) dX3_measureOne_120 ⟨(Nat.le_of_ble_eq_true rfl), (Nat.le_of_ble_eq_true rfl)⟩) hP hD hS hA [1, 2] [0] rfl rfl (by decide) (by decide) (fun u9 H locs hP hD hS => ?_)
  have hP : va_P g.1 vwCl [(q7, .inl (g.2 0, 384, .inl f8)), (q4, .inl (g.2 0, 40, .inl f5)), (q1, .inr (5, [.ref q7, .ref q4]))] H := hP
  have hD : va_D A [(q7, .inl (g.2 0, 384, .inl f8)), (q4, .inl (g.2 0, 40, .inl f5)), (q1, .inr (5, [.ref q7, .ref q4]))] := hD
  refine lv_aload_n hx hb dX3_measureOne_123 rfl (lv_at hl 7 rfl) ?_
  refine lv_iload_n hx hb dX3_measureOne_124 rfl (lv_at hl 8 rfl) ?_
  refine lv_iconst (v := 3) hx hb dX3_measureOne_125 (by decide) ?_
  refine lv_iload hx hb dX3_measureOne_126 (lv_at hl 2 rfl) ?_
  refine g_v (wr := [(q7, .inl (g.2 0, 384, .inl f8))]) (rV (rest := []) hx hb hml hown hE hP hD 2 rfl rfl (c766_X3_putFigure l g q1 q4 (.ref q7) f5 H.size) (kV_X3_putFigure hE (e91 hE) rfl rfl ⟨(Nat.le_of_ble_eq_true rfl), (Nat.le_of_ble_eq_true rfl)⟩) [1, 2] rfl (by decide) rfl hl.1 rfl (lv_room (Nat.le_of_ble_eq_true rfl)) dX3_measureOne_128 ⟨(Nat.le_of_ble_eq_true rfl), (Nat.le_of_ble_eq_true rfl)⟩) hP hD hS hA [1, 2] [0] rfl rfl (by decide) (by decide) (fun u10 H locs hP hD hS => ?_)
  have hP : va_P g.1 vwCl [(q7, .inl (g.2 0, 384, .inl f8)), (q4, .inl (g.2 0, 40, .inl (upd f5 18 1))), (q1, .inr (5, [.ref q7, .ref q4]))] H := hP
  have hD : va_D A [(q7, .inl (g.2 0, 384, .inl f8)), (q4, .inl (g.2 0, 40, .inl (upd f5 18 1))), (q1, .inr (5, [.ref q7, .ref q4]))] := hD
  refine lv_aload_n hx hb dX3_measureOne_131 rfl (lv_at hl 7 rfl) ?_
  refine lv_iload_n hx hb dX3_measureOne_132 rfl (lv_at hl 8 rfl) ?_
  refine lv_iconst (v := 4) hx hb dX3_measureOne_133 (by decide) ?_
  refine lv_iload hx hb dX3_measureOne_134 (lv_at hl 1 rfl) ?_
  refine g_v (wr := [(q7, .inl (g.2 0, 384, .inl f8))]) (rV (rest := []) hx hb hml hown hE hP hD 2 rfl rfl (c767_X3_putFigure l g q1 q4 (.ref q7) (upd f5 18 1) H.size) (kV_X3_putFigure hE (e91 hE) rfl rfl ⟨(Nat.le_of_ble_eq_true rfl), (Nat.le_of_ble_eq_true rfl)⟩) [1, 2] rfl (by decide) rfl hl.1 rfl (lv_room (Nat.le_of_ble_eq_true rfl)) dX3_measureOne_136 ⟨(Nat.le_of_ble_eq_true rfl), (Nat.le_of_ble_eq_true rfl)⟩) hP hD hS hA [1, 2] [0] rfl rfl (by decide) (by decide) (fun u11 H locs hP hD hS => ?_)
  have hP : va_P g.1 vwCl [(q7, .inl (g.2 0, 384, .inl f8)), (q4, .inl (g.2 0, 40, .inl (upd (upd f5 18 1) 19 2))), (q1, .inr (5, [.ref q7, .ref q4]))] H := hP
  have hD : va_D A [(q7, .inl (g.2 0, 384, .inl f8)), (q4, .inl (g.2 0, 40, .inl (upd (upd f5 18 1) 19 2))), (q1, .inr (5, [.ref q7, .ref q4]))] := hD
  exact x_vret hx hb hr hlocks hP hD hS hAe hsz (Nat.le_of_ble_eq_true rfl) (Nat.le_of_ble_eq_true rfl) (fun _ => 0) [0, 1, 2] (by decide) rfl dX3_measureOne_139

set_option maxHeartbeats 4000000 in
set_option maxRecDepth 100000 in
theorem c769_X3_measure (l : Launch) (g : gG) (q1 q4 q5 : Nat) (x22 : Int32) (f6 : Nat → Int32) (f20 : Nat → Int32) (hf7 : f6 0 = 0) (hf8 : f6 2 = 0) (hf9 : f6 3 = 0) (hf10 : f6 5 = 0) (hf11 : f6 6 = 0) (hf12 : f6 7 = 0) (hf13 : f6 8 = 0) (hf14 : f6 10 = 0) (hf15 : f6 11 = 0) (hf16 : f6 12 = 0) (hf17 : f6 13 = 0) (hf18 : f6 15 = 1) (hf19 : f6 18 = 0) (hf21 : f20 146 = x22) (hf23 : f6 17 = 0) (hf24 : f20 144 = 2) (hf25 : f20 145 = 0) (hf26 : f6 16 = 0) (hf27 : f6 20 = 0) (hf28 : f6 21 = 0) (hf29 : f6 22 = 0) (hf30 : f6 23 = 0) (hf31 : f6 25 = 0) (hf32 : f6 26 = 0) (hf33 : f6 27 = 0) (hf34 : f6 28 = 0) (hf35 : f6 30 = 0) (hf36 : f6 31 = 0) (hf37 : f6 32 = 0) (hf38 : f6 33 = 0) (hf39 : f6 35 = 0) (hf40 : f6 36 = 0) (hf41 : f6 37 = 0) (hf42 : f6 38 = 0) (sz : Nat) : Met l yX3_measure [Cond.code yX3_measure cX3_measure 2 (some .boolean)] ({ frames := 3, cells := 0, slots := 0, locals := 75 } : Room) (va_Pc [.ref q1] (PX g sz [(q4, .inl (g.2 0, 384, .inl f20)), (q5, .inl (g.2 0, 40, .inl f6)), (q1, .inr (5, [.ref q4, .ref q5]))])) (QI g [(q4, .inl (g.2 0, 384, .inl f20)), (q5, .inl (g.2 0, 40, .inl f6)), (q1, .inr (5, [.ref q4, .ref q5]))] sz 1 (fun _ => [(q4, .inl (g.2 0, 384, .inl f20)), (q5, .inl (g.2 0, 40, .inl (upd (upd (upd (upd (upd (upd (upd (upd (upd (upd f6 1 0) 4 1) 9 1) 14 1) 18 1) 19 2) 24 1) 29 1) 34 1) 39 1))), (q1, .inr (5, [.ref q4, .ref q5]))])) 0 0 (va_A [(q4, .inl (g.2 0, 384, .inl f20)), (q5, .inl (g.2 0, 40, .inl f6)), (q1, .inr (5, [.ref q4, .ref q5]))] sz) := by
  refine ofN (by decide) (Nat.le_of_ble_eq_true rfl) rfl ?_
  intro p e s m args below meth c A ls hAe hsz hx hb hml hr hlocks hin hown hE hP hD hA hS hl
  have hown : s.vm.findClass RX3 = some m.cls := hown
  refine lv_iconst (v := 0) hx hb dX3_measure_0 (by decide) ?_
  refine lv_istore_n (lv' := [(1, .int 0), (0, .ref q1)]) hx hb dX3_measure_1 rfl hl (by decide) rfl (fun ls hl => ?_)
  refine lv_iload_n hx hb dX3_measure_2 rfl (lv_at hl 0 rfl) ?_
  refine lv_bipush (v := 8) hx hb dX3_measure_3 (by decide) ?_
  refine lv_icmp_ge (tgt := 33) hx hb dX3_measure_5 (by decide) (fun h => absurd h (by decide)) (fun _ => ?_)
  refine lv_aload_n hx hb dX3_measure_8 rfl (lv_at hl 1 rfl) ?_
  refine lv_iload_n hx hb dX3_measure_9 rfl (lv_at hl 0 rfl) ?_
  refine g_v (wr := [(q4, .inl (g.2 0, 384, .inl f20))]) (rV (rest := []) hx hb hml hown hE hP hD 2 rfl rfl (c231_X3_measureOne l g q1 q5 (.ref q4) f6 (hf7) (hf8) (hf9) s.heap.size) (kV_X3_measureOne hE (e698 hE) rfl rfl ⟨(Nat.le_of_ble_eq_true rfl), (Nat.le_of_ble_eq_true rfl)⟩) [1, 2] rfl (by decide) rfl hl.1 rfl (lv_room (Nat.le_of_ble_eq_true rfl)) dX3_measure_10 ⟨(Nat.le_of_ble_eq_true rfl), (Nat.le_of_ble_eq_true rfl)⟩) hP hD hS hA [1, 2] [0] rfl rfl (by decide) (by decide) (fun u1 H locs hP hD hS => ?_)
  have hP : va_P g.1 vwCl [(q4, .inl (g.2 0, 384, .inl f20)), (q5, .inl (g.2 0, 40, .inl (upd (upd f6 1 0) 4 1))), (q1, .inr (5, [.ref q4, .ref q5]))] H := hP
  have hD : va_D A [(q4, .inl (g.2 0, 384, .inl f20)), (q5, .inl (g.2 0, 40, .inl (upd (upd f6 1 0) 4 1))), (q1, .inr (5, [.ref q4, .ref q5]))] := hD
  refine lv_aload_n hx hb dX3_measure_13 rfl (lv_at hl 1 rfl) ?_
  refine lv_iload_n hx hb dX3_measure_14 rfl (lv_at hl 0 rfl) ?_
  refine lv_iconst (v := 1) hx hb dX3_measure_15 (by decide) ?_
  refine g_i (wr := [(q4, .inl (g.2 0, 384, .inl f20))]) (rV (rest := []) hx hb hml hown hE hP hD 2 rfl rfl (c145_X3_figure l g q1 q5 0 (.ref q4) (upd (upd f6 1 0) 4 1) (((pk_un (by decide)).trans pk_us)) H.size) (kV_X3_figure hE (e343 hE) rfl rfl ⟨(Nat.le_of_ble_eq_true rfl), (Nat.le_of_ble_eq_true rfl)⟩) [1, 2] rfl (by decide) rfl hl.1 rfl (lv_room (Nat.le_of_ble_eq_true rfl)) dX3_measure_16 ⟨(Nat.le_of_ble_eq_true rfl), (Nat.le_of_ble_eq_true rfl)⟩) hP hD hS hA [1, 2] [0] rfl rfl (by decide) (by decide) (fun u2 H locs hP hD hS => ?_)
  have hP : va_P g.1 vwCl [(q4, .inl (g.2 0, 384, .inl f20)), (q5, .inl (g.2 0, 40, .inl (upd (upd f6 1 0) 4 1))), (q1, .inr (5, [.ref q4, .ref q5]))] H := hP
  have hD : va_D A [(q4, .inl (g.2 0, 384, .inl f20)), (q5, .inl (g.2 0, 40, .inl (upd (upd f6 1 0) 4 1))), (q1, .inr (5, [.ref q4, .ref q5]))] := hD
  refine lv_sipush (v := 20000) hx hb dX3_measure_19 (by decide) ?_
  refine lv_icmp_le (tgt := 27) hx hb dX3_measure_22 (by decide) (fun _ => ?_) (fun h => absurd (by decide) h)
  refine lv_iinc (v := 1) (lv' := [(1, .int 1), (0, .ref q1)]) hx hb dX3_measure_27 hl (k := 0) rfl (by decide) (by decide) rfl (fun ls hl => ?_)
  refine lv_goto (tgt := 2) hx hb dX3_measure_30 (by decide) ?_
  refine lv_iload_n hx hb dX3_measure_2 rfl (lv_at hl 0 rfl) ?_
  refine lv_bipush (v := 8) hx hb dX3_measure_3 (by decide) ?_
  refine lv_icmp_ge (tgt := 33) hx hb dX3_measure_5 (by decide) (fun h => absurd h (by decide)) (fun _ => ?_)
  refine lv_aload_n hx hb dX3_measure_8 rfl (lv_at hl 1 rfl) ?_
  refine lv_iload_n hx hb dX3_measure_9 rfl (lv_at hl 0 rfl) ?_
  refine g_v (wr := [(q4, .inl (g.2 0, 384, .inl f20))]) (rV (rest := []) hx hb hml hown hE hP hD 2 rfl rfl (c150_X3_measureOne l g q1 q5 (.ref q4) (upd (upd f6 1 0) 4 1) (((pk_un (by decide)).trans ((pk_un (by decide)).trans hf10))) (((pk_un (by decide)).trans ((pk_un (by decide)).trans hf11))) (((pk_un (by decide)).trans ((pk_un (by decide)).trans hf12))) (((pk_un (by decide)).trans ((pk_un (by decide)).trans hf13))) H.size) (kV_X3_measureOne hE (e698 hE) rfl rfl ⟨(Nat.le_of_ble_eq_true rfl), (Nat.le_of_ble_eq_true rfl)⟩) [1, 2] rfl (by decide) rfl hl.1 rfl (lv_room (Nat.le_of_ble_eq_true rfl)) dX3_measure_10 ⟨(Nat.le_of_ble_eq_true rfl), (Nat.le_of_ble_eq_true rfl)⟩) hP hD hS hA [1, 2] [0] rfl rfl (by decide) (by decide) (fun u3 H locs hP hD hS => ?_)
  have hP : va_P g.1 vwCl [(q4, .inl (g.2 0, 384, .inl f20)), (q5, .inl (g.2 0, 40, .inl (upd (upd (upd f6 1 0) 4 1) 9 1))), (q1, .inr (5, [.ref q4, .ref q5]))] H := hP
  have hD : va_D A [(q4, .inl (g.2 0, 384, .inl f20)), (q5, .inl (g.2 0, 40, .inl (upd (upd (upd f6 1 0) 4 1) 9 1))), (q1, .inr (5, [.ref q4, .ref q5]))] := hD
  refine lv_aload_n hx hb dX3_measure_13 rfl (lv_at hl 1 rfl) ?_
  refine lv_iload_n hx hb dX3_measure_14 rfl (lv_at hl 0 rfl) ?_
  refine lv_iconst (v := 1) hx hb dX3_measure_15 (by decide) ?_
  refine g_i (wr := [(q4, .inl (g.2 0, 384, .inl f20))]) (rV (rest := []) hx hb hml hown hE hP hD 2 rfl rfl (c151_X3_figure l g q1 q5 (.ref q4) (upd (upd (upd f6 1 0) 4 1) 9 1) (((pk_un (by decide)).trans ((pk_un (by decide)).trans ((pk_un (by decide)).trans hf11)))) H.size) (kV_X3_figure hE (e343 hE) rfl rfl ⟨(Nat.le_of_ble_eq_true rfl), (Nat.le_of_ble_eq_true rfl)⟩) [1, 2] rfl (by decide) rfl hl.1 rfl (lv_room (Nat.le_of_ble_eq_true rfl)) dX3_measure_16 ⟨(Nat.le_of_ble_eq_true rfl), (Nat.le_of_ble_eq_true rfl)⟩) hP hD hS hA [1, 2] [0] rfl rfl (by decide) (by decide) (fun u4 H locs hP hD hS => ?_)
  have hP : va_P g.1 vwCl [(q4, .inl (g.2 0, 384, .inl f20)), (q5, .inl (g.2 0, 40, .inl (upd (upd (upd f6 1 0) 4 1) 9 1))), (q1, .inr (5, [.ref q4, .ref q5]))] H := hP
  have hD : va_D A [(q4, .inl (g.2 0, 384, .inl f20)), (q5, .inl (g.2 0, 40, .inl (upd (upd (upd f6 1 0) 4 1) 9 1))), (q1, .inr (5, [.ref q4, .ref q5]))] := hD
  refine lv_sipush (v := 20000) hx hb dX3_measure_19 (by decide) ?_
  refine lv_icmp_le (tgt := 27) hx hb dX3_measure_22 (by decide) (fun _ => ?_) (fun h => absurd (by decide) h)
  refine lv_iinc (v := 2) (lv' := [(1, .int 2), (0, .ref q1)]) hx hb dX3_measure_27 hl (k := 0) rfl (by decide) (by decide) rfl (fun ls hl => ?_)
  refine lv_goto (tgt := 2) hx hb dX3_measure_30 (by decide) ?_
  refine lv_iload_n hx hb dX3_measure_2 rfl (lv_at hl 0 rfl) ?_
  refine lv_bipush (v := 8) hx hb dX3_measure_3 (by decide) ?_
  refine lv_icmp_ge (tgt := 33) hx hb dX3_measure_5 (by decide) (fun h => absurd h (by decide)) (fun _ => ?_)
  refine lv_aload_n hx hb dX3_measure_8 rfl (lv_at hl 1 rfl) ?_
  refine lv_iload_n hx hb dX3_measure_9 rfl (lv_at hl 0 rfl) ?_
  refine g_v (wr := [(q4, .inl (g.2 0, 384, .inl f20))]) (rV (rest := []) hx hb hml hown hE hP hD 2 rfl rfl (c156_X3_measureOne l g q1 q5 (.ref q4) (upd (upd (upd f6 1 0) 4 1) 9 1) (((pk_un (by decide)).trans ((pk_un (by decide)).trans ((pk_un (by decide)).trans hf14)))) (((pk_un (by decide)).trans ((pk_un (by decide)).trans ((pk_un (by decide)).trans hf15)))) (((pk_un (by decide)).trans ((pk_un (by decide)).trans ((pk_un (by decide)).trans hf16)))) (((pk_un (by decide)).trans ((pk_un (by decide)).trans ((pk_un (by decide)).trans hf17)))) H.size) (kV_X3_measureOne hE (e698 hE) rfl rfl ⟨(Nat.le_of_ble_eq_true rfl), (Nat.le_of_ble_eq_true rfl)⟩) [1, 2] rfl (by decide) rfl hl.1 rfl (lv_room (Nat.le_of_ble_eq_true rfl)) dX3_measure_10 ⟨(Nat.le_of_ble_eq_true rfl), (Nat.le_of_ble_eq_true rfl)⟩) hP hD hS hA [1, 2] [0] rfl rfl (by decide) (by decide) (fun u5 H locs hP hD hS => ?_)
  have hP : va_P g.1 vwCl [(q4, .inl (g.2 0, 384, .inl f20)), (q5, .inl (g.2 0, 40, .inl (upd (upd (upd (upd f6 1 0) 4 1) 9 1) 14 1))), (q1, .inr (5, [.ref q4, .ref q5]))] H := hP
  have hD : va_D A [(q4, .inl (g.2 0, 384, .inl f20)), (q5, .inl (g.2 0, 40, .inl (upd (upd (upd (upd f6 1 0) 4 1) 9 1) 14 1))), (q1, .inr (5, [.ref q4, .ref q5]))] := hD
  refine lv_aload_n hx hb dX3_measure_13 rfl (lv_at hl 1 rfl) ?_
  refine lv_iload_n hx hb dX3_measure_14 rfl (lv_at hl 0 rfl) ?_
  refine lv_iconst (v := 1) hx hb dX3_measure_15 (by decide) ?_
  refine g_i (wr := [(q4, .inl (g.2 0, 384, .inl f20))]) (rV (rest := []) hx hb hml hown hE hP hD 2 rfl rfl (c157_X3_figure l g q1 q5 (.ref q4) (upd (upd (upd (upd f6 1 0) 4 1) 9 1) 14 1) (((pk_un (by decide)).trans ((pk_un (by decide)).trans ((pk_un (by decide)).trans ((pk_un (by decide)).trans hf15))))) H.size) (kV_X3_figure hE (e343 hE) rfl rfl ⟨(Nat.le_of_ble_eq_true rfl), (Nat.le_of_ble_eq_true rfl)⟩) [1, 2] rfl (by decide) rfl hl.1 rfl (lv_room (Nat.le_of_ble_eq_true rfl)) dX3_measure_16 ⟨(Nat.le_of_ble_eq_true rfl), (Nat.le_of_ble_eq_true rfl)⟩) hP hD hS hA [1, 2] [0] rfl rfl (by decide) (by decide) (fun u6 H locs hP hD hS => ?_)
  have hP : va_P g.1 vwCl [(q4, .inl (g.2 0, 384, .inl f20)), (q5, .inl (g.2 0, 40, .inl (upd (upd (upd (upd f6 1 0) 4 1) 9 1) 14 1))), (q1, .inr (5, [.ref q4, .ref q5]))] H := hP
  have hD : va_D A [(q4, .inl (g.2 0, 384, .inl f20)), (q5, .inl (g.2 0, 40, .inl (upd (upd (upd (upd f6 1 0) 4 1) 9 1) 14 1))), (q1, .inr (5, [.ref q4, .ref q5]))] := hD
  refine lv_sipush (v := 20000) hx hb dX3_measure_19 (by decide) ?_
  refine lv_icmp_le (tgt := 27) hx hb dX3_measure_22 (by decide) (fun _ => ?_) (fun h => absurd (by decide) h)
  refine lv_iinc (v := 3) (lv' := [(1, .int 3), (0, .ref q1)]) hx hb dX3_measure_27 hl (k := 0) rfl (by decide) (by decide) rfl (fun ls hl => ?_)
  refine lv_goto (tgt := 2) hx hb dX3_measure_30 (by decide) ?_
  refine lv_iload_n hx hb dX3_measure_2 rfl (lv_at hl 0 rfl) ?_
  refine lv_bipush (v := 8) hx hb dX3_measure_3 (by decide) ?_
  refine lv_icmp_ge (tgt := 33) hx hb dX3_measure_5 (by decide) (fun h => absurd h (by decide)) (fun _ => ?_)
  refine lv_aload_n hx hb dX3_measure_8 rfl (lv_at hl 1 rfl) ?_
  refine lv_iload_n hx hb dX3_measure_9 rfl (lv_at hl 0 rfl) ?_
  refine g_v (wr := []) (rV (rest := []) hx hb hml hown hE hP hD 2 rfl rfl (c768_X3_measureOne l g q1 q5 q4 x22 (upd (upd (upd (upd f6 1 0) 4 1) 9 1) 14 1) f20 (((pk_un (by decide)).trans ((pk_un (by decide)).trans ((pk_un (by decide)).trans ((pk_un (by decide)).trans hf18))))) (hf21) (hf24) (hf25) (((pk_un (by decide)).trans ((pk_un (by decide)).trans ((pk_un (by decide)).trans pk_us)))) (((pk_un (by decide)).trans ((pk_un (by decide)).trans ((pk_un (by decide)).trans ((pk_un (by decide)).trans hf8))))) (((pk_un (by decide)).trans ((pk_un (by decide)).trans ((pk_un (by decide)).trans ((pk_un (by decide)).trans hf9))))) (((pk_un (by decide)).trans ((pk_un (by decide)).trans pk_us))) (((pk_un (by decide)).trans ((pk_un (by decide)).trans ((pk_un (by decide)).trans ((pk_un (by decide)).trans hf26))))) (((pk_un (by decide)).trans ((pk_un (by decide)).trans ((pk_un (by decide)).trans ((pk_un (by decide)).trans hf23))))) H.size) (kV_X3_measureOne hE (e698 hE) rfl rfl ⟨(Nat.le_of_ble_eq_true rfl), (Nat.le_of_ble_eq_true rfl)⟩) [0, 1, 2] rfl (by decide) rfl hl.1 rfl (lv_room (Nat.le_of_ble_eq_true rfl)) dX3_measure_10 ⟨(Nat.le_of_ble_eq_true rfl), (Nat.le_of_ble_eq_true rfl)⟩) hP hD hS hA [0, 1, 2] [] rfl rfl (by decide) (by decide) (fun u7 H locs hP hD hS => ?_)
  have hP : va_P g.1 vwCl [(q4, .inl (g.2 0, 384, .inl f20)), (q5, .inl (g.2 0, 40, .inl (upd (upd (upd (upd (upd (upd f6 1 0) 4 1) 9 1) 14 1) 18 1) 19 2))), (q1, .inr (5, [.ref q4, .ref q5]))] H := hP
  have hD : va_D A [(q4, .inl (g.2 0, 384, .inl f20)), (q5, .inl (g.2 0, 40, .inl (upd (upd (upd (upd (upd (upd f6 1 0) 4 1) 9 1) 14 1) 18 1) 19 2))), (q1, .inr (5, [.ref q4, .ref q5]))] := hD
  refine lv_aload_n hx hb dX3_measure_13 rfl (lv_at hl 1 rfl) ?_
  refine lv_iload_n hx hb dX3_measure_14 rfl (lv_at hl 0 rfl) ?_
  refine lv_iconst (v := 1) hx hb dX3_measure_15 (by decide) ?_
  refine g_i (wr := [(q4, .inl (g.2 0, 384, .inl f20))]) (rV (rest := []) hx hb hml hown hE hP hD 2 rfl rfl (c163_X3_figure l g q1 q5 (.ref q4) (upd (upd (upd (upd (upd (upd f6 1 0) 4 1) 9 1) 14 1) 18 1) 19 2) (((pk_un (by decide)).trans ((pk_un (by decide)).trans ((pk_un (by decide)).trans ((pk_un (by decide)).trans ((pk_un (by decide)).trans ((pk_un (by decide)).trans hf26))))))) H.size) (kV_X3_figure hE (e343 hE) rfl rfl ⟨(Nat.le_of_ble_eq_true rfl), (Nat.le_of_ble_eq_true rfl)⟩) [1, 2] rfl (by decide) rfl hl.1 rfl (lv_room (Nat.le_of_ble_eq_true rfl)) dX3_measure_16 ⟨(Nat.le_of_ble_eq_true rfl), (Nat.le_of_ble_eq_true rfl)⟩) hP hD hS hA [1, 2] [0] rfl rfl (by decide) (by decide) (fun u8 H locs hP hD hS => ?_)
  have hP : va_P g.1 vwCl [(q4, .inl (g.2 0, 384, .inl f20)), (q5, .inl (g.2 0, 40, .inl (upd (upd (upd (upd (upd (upd f6 1 0) 4 1) 9 1) 14 1) 18 1) 19 2))), (q1, .inr (5, [.ref q4, .ref q5]))] H := hP
  have hD : va_D A [(q4, .inl (g.2 0, 384, .inl f20)), (q5, .inl (g.2 0, 40, .inl (upd (upd (upd (upd (upd (upd f6 1 0) 4 1) 9 1) 14 1) 18 1) 19 2))), (q1, .inr (5, [.ref q4, .ref q5]))] := hD
  refine lv_sipush (v := 20000) hx hb dX3_measure_19 (by decide) ?_
  refine lv_icmp_le (tgt := 27) hx hb dX3_measure_22 (by decide) (fun _ => ?_) (fun h => absurd (by decide) h)
  refine lv_iinc (v := 4) (lv' := [(1, .int 4), (0, .ref q1)]) hx hb dX3_measure_27 hl (k := 0) rfl (by decide) (by decide) rfl (fun ls hl => ?_)
  refine lv_goto (tgt := 2) hx hb dX3_measure_30 (by decide) ?_
  refine lv_iload_n hx hb dX3_measure_2 rfl (lv_at hl 0 rfl) ?_
  refine lv_bipush (v := 8) hx hb dX3_measure_3 (by decide) ?_
  refine lv_icmp_ge (tgt := 33) hx hb dX3_measure_5 (by decide) (fun h => absurd h (by decide)) (fun _ => ?_)
  refine lv_aload_n hx hb dX3_measure_8 rfl (lv_at hl 1 rfl) ?_
  refine lv_iload_n hx hb dX3_measure_9 rfl (lv_at hl 0 rfl) ?_
  refine g_v (wr := [(q4, .inl (g.2 0, 384, .inl f20))]) (rV (rest := []) hx hb hml hown hE hP hD 2 rfl rfl (c168_X3_measureOne l g q1 q5 (.ref q4) (upd (upd (upd (upd (upd (upd f6 1 0) 4 1) 9 1) 14 1) 18 1) 19 2) (((pk_un (by decide)).trans ((pk_un (by decide)).trans ((pk_un (by decide)).trans ((pk_un (by decide)).trans ((pk_un (by decide)).trans ((pk_un (by decide)).trans hf27))))))) (((pk_un (by decide)).trans ((pk_un (by decide)).trans ((pk_un (by decide)).trans ((pk_un (by decide)).trans ((pk_un (by decide)).trans ((pk_un (by decide)).trans hf28))))))) (((pk_un (by decide)).trans ((pk_un (by decide)).trans ((pk_un (by decide)).trans ((pk_un (by decide)).trans ((pk_un (by decide)).trans ((pk_un (by decide)).trans hf29))))))) (((pk_un (by decide)).trans ((pk_un (by decide)).trans ((pk_un (by decide)).trans ((pk_un (by decide)).trans ((pk_un (by decide)).trans ((pk_un (by decide)).trans hf30))))))) H.size) (kV_X3_measureOne hE (e698 hE) rfl rfl ⟨(Nat.le_of_ble_eq_true rfl), (Nat.le_of_ble_eq_true rfl)⟩) [1, 2] rfl (by decide) rfl hl.1 rfl (lv_room (Nat.le_of_ble_eq_true rfl)) dX3_measure_10 ⟨(Nat.le_of_ble_eq_true rfl), (Nat.le_of_ble_eq_true rfl)⟩) hP hD hS hA [1, 2] [0] rfl rfl (by decide) (by decide) (fun u9 H locs hP hD hS => ?_)
  have hP : va_P g.1 vwCl [(q4, .inl (g.2 0, 384, .inl f20)), (q5, .inl (g.2 0, 40, .inl (upd (upd (upd (upd (upd (upd (upd f6 1 0) 4 1) 9 1) 14 1) 18 1) 19 2) 24 1))), (q1, .inr (5, [.ref q4, .ref q5]))] H := hP
  have hD : va_D A [(q4, .inl (g.2 0, 384, .inl f20)), (q5, .inl (g.2 0, 40, .inl (upd (upd (upd (upd (upd (upd (upd f6 1 0) 4 1) 9 1) 14 1) 18 1) 19 2) 24 1))), (q1, .inr (5, [.ref q4, .ref q5]))] := hD
  refine lv_aload_n hx hb dX3_measure_13 rfl (lv_at hl 1 rfl) ?_
  refine lv_iload_n hx hb dX3_measure_14 rfl (lv_at hl 0 rfl) ?_
  refine lv_iconst (v := 1) hx hb dX3_measure_15 (by decide) ?_
  refine g_i (wr := [(q4, .inl (g.2 0, 384, .inl f20))]) (rV (rest := []) hx hb hml hown hE hP hD 2 rfl rfl (c169_X3_figure l g q1 q5 (.ref q4) (upd (upd (upd (upd (upd (upd (upd f6 1 0) 4 1) 9 1) 14 1) 18 1) 19 2) 24 1) (((pk_un (by decide)).trans ((pk_un (by decide)).trans ((pk_un (by decide)).trans ((pk_un (by decide)).trans ((pk_un (by decide)).trans ((pk_un (by decide)).trans ((pk_un (by decide)).trans hf28)))))))) H.size) (kV_X3_figure hE (e343 hE) rfl rfl ⟨(Nat.le_of_ble_eq_true rfl), (Nat.le_of_ble_eq_true rfl)⟩) [1, 2] rfl (by decide) rfl hl.1 rfl (lv_room (Nat.le_of_ble_eq_true rfl)) dX3_measure_16 ⟨(Nat.le_of_ble_eq_true rfl), (Nat.le_of_ble_eq_true rfl)⟩) hP hD hS hA [1, 2] [0] rfl rfl (by decide) (by decide) (fun u10 H locs hP hD hS => ?_)
  have hP : va_P g.1 vwCl [(q4, .inl (g.2 0, 384, .inl f20)), (q5, .inl (g.2 0, 40, .inl (upd (upd (upd (upd (upd (upd (upd f6 1 0) 4 1) 9 1) 14 1) 18 1) 19 2) 24 1))), (q1, .inr (5, [.ref q4, .ref q5]))] H := hP
  have hD : va_D A [(q4, .inl (g.2 0, 384, .inl f20)), (q5, .inl (g.2 0, 40, .inl (upd (upd (upd (upd (upd (upd (upd f6 1 0) 4 1) 9 1) 14 1) 18 1) 19 2) 24 1))), (q1, .inr (5, [.ref q4, .ref q5]))] := hD
  refine lv_sipush (v := 20000) hx hb dX3_measure_19 (by decide) ?_
  refine lv_icmp_le (tgt := 27) hx hb dX3_measure_22 (by decide) (fun _ => ?_) (fun h => absurd (by decide) h)
  refine lv_iinc (v := 5) (lv' := [(1, .int 5), (0, .ref q1)]) hx hb dX3_measure_27 hl (k := 0) rfl (by decide) (by decide) rfl (fun ls hl => ?_)
  refine lv_goto (tgt := 2) hx hb dX3_measure_30 (by decide) ?_
  refine lv_iload_n hx hb dX3_measure_2 rfl (lv_at hl 0 rfl) ?_
  refine lv_bipush (v := 8) hx hb dX3_measure_3 (by decide) ?_
  refine lv_icmp_ge (tgt := 33) hx hb dX3_measure_5 (by decide) (fun h => absurd h (by decide)) (fun _ => ?_)
  refine lv_aload_n hx hb dX3_measure_8 rfl (lv_at hl 1 rfl) ?_
  refine lv_iload_n hx hb dX3_measure_9 rfl (lv_at hl 0 rfl) ?_
  refine g_v (wr := [(q4, .inl (g.2 0, 384, .inl f20))]) (rV (rest := []) hx hb hml hown hE hP hD 2 rfl rfl (c174_X3_measureOne l g q1 q5 (.ref q4) (upd (upd (upd (upd (upd (upd (upd f6 1 0) 4 1) 9 1) 14 1) 18 1) 19 2) 24 1) (((pk_un (by decide)).trans ((pk_un (by decide)).trans ((pk_un (by decide)).trans ((pk_un (by decide)).trans ((pk_un (by decide)).trans ((pk_un (by decide)).trans ((pk_un (by decide)).trans hf31)))))))) (((pk_un (by decide)).trans ((pk_un (by decide)).trans ((pk_un (by decide)).trans ((pk_un (by decide)).trans ((pk_un (by decide)).trans ((pk_un (by decide)).trans ((pk_un (by decide)).trans hf32)))))))) (((pk_un (by decide)).trans ((pk_un (by decide)).trans ((pk_un (by decide)).trans ((pk_un (by decide)).trans ((pk_un (by decide)).trans ((pk_un (by decide)).trans ((pk_un (by decide)).trans hf33)))))))) (((pk_un (by decide)).trans ((pk_un (by decide)).trans ((pk_un (by decide)).trans ((pk_un (by decide)).trans ((pk_un (by decide)).trans ((pk_un (by decide)).trans ((pk_un (by decide)).trans hf34)))))))) H.size) (kV_X3_measureOne hE (e698 hE) rfl rfl ⟨(Nat.le_of_ble_eq_true rfl), (Nat.le_of_ble_eq_true rfl)⟩) [1, 2] rfl (by decide) rfl hl.1 rfl (lv_room (Nat.le_of_ble_eq_true rfl)) dX3_measure_10 ⟨(Nat.le_of_ble_eq_true rfl), (Nat.le_of_ble_eq_true rfl)⟩) hP hD hS hA [1, 2] [0] rfl rfl (by decide) (by decide) (fun u11 H locs hP hD hS => ?_)
  have hP : va_P g.1 vwCl [(q4, .inl (g.2 0, 384, .inl f20)), (q5, .inl (g.2 0, 40, .inl (upd (upd (upd (upd (upd (upd (upd (upd f6 1 0) 4 1) 9 1) 14 1) 18 1) 19 2) 24 1) 29 1))), (q1, .inr (5, [.ref q4, .ref q5]))] H := hP
  have hD : va_D A [(q4, .inl (g.2 0, 384, .inl f20)), (q5, .inl (g.2 0, 40, .inl (upd (upd (upd (upd (upd (upd (upd (upd f6 1 0) 4 1) 9 1) 14 1) 18 1) 19 2) 24 1) 29 1))), (q1, .inr (5, [.ref q4, .ref q5]))] := hD
  refine lv_aload_n hx hb dX3_measure_13 rfl (lv_at hl 1 rfl) ?_
  refine lv_iload_n hx hb dX3_measure_14 rfl (lv_at hl 0 rfl) ?_
  refine lv_iconst (v := 1) hx hb dX3_measure_15 (by decide) ?_
  refine g_i (wr := [(q4, .inl (g.2 0, 384, .inl f20))]) (rV (rest := []) hx hb hml hown hE hP hD 2 rfl rfl (c175_X3_figure l g q1 q5 (.ref q4) (upd (upd (upd (upd (upd (upd (upd (upd f6 1 0) 4 1) 9 1) 14 1) 18 1) 19 2) 24 1) 29 1) (((pk_un (by decide)).trans ((pk_un (by decide)).trans ((pk_un (by decide)).trans ((pk_un (by decide)).trans ((pk_un (by decide)).trans ((pk_un (by decide)).trans ((pk_un (by decide)).trans ((pk_un (by decide)).trans hf32))))))))) H.size) (kV_X3_figure hE (e343 hE) rfl rfl ⟨(Nat.le_of_ble_eq_true rfl), (Nat.le_of_ble_eq_true rfl)⟩) [1, 2] rfl (by decide) rfl hl.1 rfl (lv_room (Nat.le_of_ble_eq_true rfl)) dX3_measure_16 ⟨(Nat.le_of_ble_eq_true rfl), (Nat.le_of_ble_eq_true rfl)⟩) hP hD hS hA [1, 2] [0] rfl rfl (by decide) (by decide) (fun u12 H locs hP hD hS => ?_)
  have hP : va_P g.1 vwCl [(q4, .inl (g.2 0, 384, .inl f20)), (q5, .inl (g.2 0, 40, .inl (upd (upd (upd (upd (upd (upd (upd (upd f6 1 0) 4 1) 9 1) 14 1) 18 1) 19 2) 24 1) 29 1))), (q1, .inr (5, [.ref q4, .ref q5]))] H := hP
  have hD : va_D A [(q4, .inl (g.2 0, 384, .inl f20)), (q5, .inl (g.2 0, 40, .inl (upd (upd (upd (upd (upd (upd (upd (upd f6 1 0) 4 1) 9 1) 14 1) 18 1) 19 2) 24 1) 29 1))), (q1, .inr (5, [.ref q4, .ref q5]))] := hD
  refine lv_sipush (v := 20000) hx hb dX3_measure_19 (by decide) ?_
  refine lv_icmp_le (tgt := 27) hx hb dX3_measure_22 (by decide) (fun _ => ?_) (fun h => absurd (by decide) h)
  refine lv_iinc (v := 6) (lv' := [(1, .int 6), (0, .ref q1)]) hx hb dX3_measure_27 hl (k := 0) rfl (by decide) (by decide) rfl (fun ls hl => ?_)
  refine lv_goto (tgt := 2) hx hb dX3_measure_30 (by decide) ?_
  refine lv_iload_n hx hb dX3_measure_2 rfl (lv_at hl 0 rfl) ?_
  refine lv_bipush (v := 8) hx hb dX3_measure_3 (by decide) ?_
  refine lv_icmp_ge (tgt := 33) hx hb dX3_measure_5 (by decide) (fun h => absurd h (by decide)) (fun _ => ?_)
  refine lv_aload_n hx hb dX3_measure_8 rfl (lv_at hl 1 rfl) ?_
  refine lv_iload_n hx hb dX3_measure_9 rfl (lv_at hl 0 rfl) ?_
  refine g_v (wr := [(q4, .inl (g.2 0, 384, .inl f20))]) (rV (rest := []) hx hb hml hown hE hP hD 2 rfl rfl (c180_X3_measureOne l g q1 q5 (.ref q4) (upd (upd (upd (upd (upd (upd (upd (upd f6 1 0) 4 1) 9 1) 14 1) 18 1) 19 2) 24 1) 29 1) (((pk_un (by decide)).trans ((pk_un (by decide)).trans ((pk_un (by decide)).trans ((pk_un (by decide)).trans ((pk_un (by decide)).trans ((pk_un (by decide)).trans ((pk_un (by decide)).trans ((pk_un (by decide)).trans hf35))))))))) (((pk_un (by decide)).trans ((pk_un (by decide)).trans ((pk_un (by decide)).trans ((pk_un (by decide)).trans ((pk_un (by decide)).trans ((pk_un (by decide)).trans ((pk_un (by decide)).trans ((pk_un (by decide)).trans hf36))))))))) (((pk_un (by decide)).trans ((pk_un (by decide)).trans ((pk_un (by decide)).trans ((pk_un (by decide)).trans ((pk_un (by decide)).trans ((pk_un (by decide)).trans ((pk_un (by decide)).trans ((pk_un (by decide)).trans hf37))))))))) (((pk_un (by decide)).trans ((pk_un (by decide)).trans ((pk_un (by decide)).trans ((pk_un (by decide)).trans ((pk_un (by decide)).trans ((pk_un (by decide)).trans ((pk_un (by decide)).trans ((pk_un (by decide)).trans hf38))))))))) H.size) (kV_X3_measureOne hE (e698 hE) rfl rfl ⟨(Nat.le_of_ble_eq_true rfl), (Nat.le_of_ble_eq_true rfl)⟩) [1, 2] rfl (by decide) rfl hl.1 rfl (lv_room (Nat.le_of_ble_eq_true rfl)) dX3_measure_10 ⟨(Nat.le_of_ble_eq_true rfl), (Nat.le_of_ble_eq_true rfl)⟩) hP hD hS hA [1, 2] [0] rfl rfl (by decide) (by decide) (fun u13 H locs hP hD hS => ?_)
  have hP : va_P g.1 vwCl [(q4, .inl (g.2 0, 384, .inl f20)), (q5, .inl (g.2 0, 40, .inl (upd (upd (upd (upd (upd (upd (upd (upd (upd f6 1 0) 4 1) 9 1) 14 1) 18 1) 19 2) 24 1) 29 1) 34 1))), (q1, .inr (5, [.ref q4, .ref q5]))] H := hP
  have hD : va_D A [(q4, .inl (g.2 0, 384, .inl f20)), (q5, .inl (g.2 0, 40, .inl (upd (upd (upd (upd (upd (upd (upd (upd (upd f6 1 0) 4 1) 9 1) 14 1) 18 1) 19 2) 24 1) 29 1) 34 1))), (q1, .inr (5, [.ref q4, .ref q5]))] := hD
  refine lv_aload_n hx hb dX3_measure_13 rfl (lv_at hl 1 rfl) ?_
  refine lv_iload_n hx hb dX3_measure_14 rfl (lv_at hl 0 rfl) ?_
  refine lv_iconst (v := 1) hx hb dX3_measure_15 (by decide) ?_
  refine g_i (wr := [(q4, .inl (g.2 0, 384, .inl f20))]) (rV (rest := []) hx hb hml hown hE hP hD 2 rfl rfl (c181_X3_figure l g q1 q5 (.ref q4) (upd (upd (upd (upd (upd (upd (upd (upd (upd f6 1 0) 4 1) 9 1) 14 1) 18 1) 19 2) 24 1) 29 1) 34 1) (((pk_un (by decide)).trans ((pk_un (by decide)).trans ((pk_un (by decide)).trans ((pk_un (by decide)).trans ((pk_un (by decide)).trans ((pk_un (by decide)).trans ((pk_un (by decide)).trans ((pk_un (by decide)).trans ((pk_un (by decide)).trans hf36)))))))))) H.size) (kV_X3_figure hE (e343 hE) rfl rfl ⟨(Nat.le_of_ble_eq_true rfl), (Nat.le_of_ble_eq_true rfl)⟩) [1, 2] rfl (by decide) rfl hl.1 rfl (lv_room (Nat.le_of_ble_eq_true rfl)) dX3_measure_16 ⟨(Nat.le_of_ble_eq_true rfl), (Nat.le_of_ble_eq_true rfl)⟩) hP hD hS hA [1, 2] [0] rfl rfl (by decide) (by decide) (fun u14 H locs hP hD hS => ?_)
  have hP : va_P g.1 vwCl [(q4, .inl (g.2 0, 384, .inl f20)), (q5, .inl (g.2 0, 40, .inl (upd (upd (upd (upd (upd (upd (upd (upd (upd f6 1 0) 4 1) 9 1) 14 1) 18 1) 19 2) 24 1) 29 1) 34 1))), (q1, .inr (5, [.ref q4, .ref q5]))] H := hP
  have hD : va_D A [(q4, .inl (g.2 0, 384, .inl f20)), (q5, .inl (g.2 0, 40, .inl (upd (upd (upd (upd (upd (upd (upd (upd (upd f6 1 0) 4 1) 9 1) 14 1) 18 1) 19 2) 24 1) 29 1) 34 1))), (q1, .inr (5, [.ref q4, .ref q5]))] := hD
  refine lv_sipush (v := 20000) hx hb dX3_measure_19 (by decide) ?_
  refine lv_icmp_le (tgt := 27) hx hb dX3_measure_22 (by decide) (fun _ => ?_) (fun h => absurd (by decide) h)
  refine lv_iinc (v := 7) (lv' := [(1, .int 7), (0, .ref q1)]) hx hb dX3_measure_27 hl (k := 0) rfl (by decide) (by decide) rfl (fun ls hl => ?_)
  refine lv_goto (tgt := 2) hx hb dX3_measure_30 (by decide) ?_
  refine lv_iload_n hx hb dX3_measure_2 rfl (lv_at hl 0 rfl) ?_
  refine lv_bipush (v := 8) hx hb dX3_measure_3 (by decide) ?_
  refine lv_icmp_ge (tgt := 33) hx hb dX3_measure_5 (by decide) (fun h => absurd h (by decide)) (fun _ => ?_)
  refine lv_aload_n hx hb dX3_measure_8 rfl (lv_at hl 1 rfl) ?_
  refine lv_iload_n hx hb dX3_measure_9 rfl (lv_at hl 0 rfl) ?_
  refine g_v (wr := [(q4, .inl (g.2 0, 384, .inl f20))]) (rV (rest := []) hx hb hml hown hE hP hD 2 rfl rfl (c186_X3_measureOne l g q1 q5 (.ref q4) (upd (upd (upd (upd (upd (upd (upd (upd (upd f6 1 0) 4 1) 9 1) 14 1) 18 1) 19 2) 24 1) 29 1) 34 1) (((pk_un (by decide)).trans ((pk_un (by decide)).trans ((pk_un (by decide)).trans ((pk_un (by decide)).trans ((pk_un (by decide)).trans ((pk_un (by decide)).trans ((pk_un (by decide)).trans ((pk_un (by decide)).trans ((pk_un (by decide)).trans hf39)))))))))) (((pk_un (by decide)).trans ((pk_un (by decide)).trans ((pk_un (by decide)).trans ((pk_un (by decide)).trans ((pk_un (by decide)).trans ((pk_un (by decide)).trans ((pk_un (by decide)).trans ((pk_un (by decide)).trans ((pk_un (by decide)).trans hf40)))))))))) (((pk_un (by decide)).trans ((pk_un (by decide)).trans ((pk_un (by decide)).trans ((pk_un (by decide)).trans ((pk_un (by decide)).trans ((pk_un (by decide)).trans ((pk_un (by decide)).trans ((pk_un (by decide)).trans ((pk_un (by decide)).trans hf41)))))))))) (((pk_un (by decide)).trans ((pk_un (by decide)).trans ((pk_un (by decide)).trans ((pk_un (by decide)).trans ((pk_un (by decide)).trans ((pk_un (by decide)).trans ((pk_un (by decide)).trans ((pk_un (by decide)).trans ((pk_un (by decide)).trans hf42)))))))))) H.size) (kV_X3_measureOne hE (e698 hE) rfl rfl ⟨(Nat.le_of_ble_eq_true rfl), (Nat.le_of_ble_eq_true rfl)⟩) [1, 2] rfl (by decide) rfl hl.1 rfl (lv_room (Nat.le_of_ble_eq_true rfl)) dX3_measure_10 ⟨(Nat.le_of_ble_eq_true rfl), (Nat.le_of_ble_eq_true rfl)⟩) hP hD hS hA [1, 2] [0] rfl rfl (by decide) (by decide) (fun u15 H locs hP hD hS => ?_)
  have hP : va_P g.1 vwCl [(q4, .inl (g.2 0, 384, .inl f20)), (q5, .inl (g.2 0, 40, .inl (upd (upd (upd (upd (upd (upd (upd (upd (upd (upd f6 1 0) 4 1) 9 1) 14 1) 18 1) 19 2) 24 1) 29 1) 34 1) 39 1))), (q1, .inr (5, [.ref q4, .ref q5]))] H := hP
  have hD : va_D A [(q4, .inl (g.2 0, 384, .inl f20)), (q5, .inl (g.2 0, 40, .inl (upd (upd (upd (upd (upd (upd (upd (upd (upd (upd f6 1 0) 4 1) 9 1) 14 1) 18 1) 19 2) 24 1) 29 1) 34 1) 39 1))), (q1, .inr (5, [.ref q4, .ref q5]))] := hD
  refine lv_aload_n hx hb dX3_measure_13 rfl (lv_at hl 1 rfl) ?_
  refine lv_iload_n hx hb dX3_measure_14 rfl (lv_at hl 0 rfl) ?_
  refine lv_iconst (v := 1) hx hb dX3_measure_15 (by decide) ?_
  refine g_i (wr := [(q4, .inl (g.2 0, 384, .inl f20))]) (rV (rest := []) hx hb hml hown hE hP hD 2 rfl rfl (c187_X3_figure l g q1 q5 (.ref q4) (upd (upd (upd (upd (upd (upd (upd (upd (upd (upd f6 1 0) 4 1) 9 1) 14 1) 18 1) 19 2) 24 1) 29 1) 34 1) 39 1) (((pk_un (by decide)).trans ((pk_un (by decide)).trans ((pk_un (by decide)).trans ((pk_un (by decide)).trans ((pk_un (by decide)).trans ((pk_un (by decide)).trans ((pk_un (by decide)).trans ((pk_un (by decide)).trans ((pk_un (by decide)).trans ((pk_un (by decide)).trans hf40))))))))))) H.size) (kV_X3_figure hE (e343 hE) rfl rfl ⟨(Nat.le_of_ble_eq_true rfl), (Nat.le_of_ble_eq_true rfl)⟩) [1, 2] rfl (by decide) rfl hl.1 rfl (lv_room (Nat.le_of_ble_eq_true rfl)) dX3_measure_16 ⟨(Nat.le_of_ble_eq_true rfl), (Nat.le_of_ble_eq_true rfl)⟩) hP hD hS hA [1, 2] [0] rfl rfl (by decide) (by decide) (fun u16 H locs hP hD hS => ?_)
  have hP : va_P g.1 vwCl [(q4, .inl (g.2 0, 384, .inl f20)), (q5, .inl (g.2 0, 40, .inl (upd (upd (upd (upd (upd (upd (upd (upd (upd (upd f6 1 0) 4 1) 9 1) 14 1) 18 1) 19 2) 24 1) 29 1) 34 1) 39 1))), (q1, .inr (5, [.ref q4, .ref q5]))] H := hP
  have hD : va_D A [(q4, .inl (g.2 0, 384, .inl f20)), (q5, .inl (g.2 0, 40, .inl (upd (upd (upd (upd (upd (upd (upd (upd (upd (upd f6 1 0) 4 1) 9 1) 14 1) 18 1) 19 2) 24 1) 29 1) 34 1) 39 1))), (q1, .inr (5, [.ref q4, .ref q5]))] := hD
  refine lv_sipush (v := 20000) hx hb dX3_measure_19 (by decide) ?_
  refine lv_icmp_le (tgt := 27) hx hb dX3_measure_22 (by decide) (fun _ => ?_) (fun h => absurd (by decide) h)
  refine lv_iinc (v := 8) (lv' := [(1, .int 8), (0, .ref q1)]) hx hb dX3_measure_27 hl (k := 0) rfl (by decide) (by decide) rfl (fun ls hl => ?_)
  refine lv_goto (tgt := 2) hx hb dX3_measure_30 (by decide) ?_
  refine lv_iload_n hx hb dX3_measure_2 rfl (lv_at hl 0 rfl) ?_
  refine lv_bipush (v := 8) hx hb dX3_measure_3 (by decide) ?_
  refine lv_icmp_ge (tgt := 33) hx hb dX3_measure_5 (by decide) (fun _ => ?_) (fun h => absurd (by decide) h)
  refine lv_iconst (v := 1) hx hb dX3_measure_33 (by decide) ?_
  exact x_zret hx hb hr rfl rfl hlocks hP hD hS hAe hsz (Nat.le_of_ble_eq_true rfl) (Nat.le_of_ble_eq_true rfl) (fun _ => 0) [0, 1, 2] (by decide) rfl dX3_measure_34

set_option maxHeartbeats 4000000 in
set_option maxRecDepth 100000 in
theorem c770_X9_acceptIfFitting (l : Launch) (g : gG) (q1 q2 q10 q13 q14 q63 : Nat) (x47 : Int32) (w4 w5 w6 w8 w9 w53 w54 w55 w56 w57 w58 w59 w60 w61 w62 w64 : Value) (f15 : Nat → Int32) (f45 : Nat → Int32) (hf16 : f15 0 = 0) (hf17 : f15 2 = 0) (hf18 : f15 3 = 0) (hf19 : f15 5 = 0) (hf20 : f15 6 = 0) (hf21 : f15 7 = 0) (hf22 : f15 8 = 0) (hf23 : f15 10 = 0) (hf24 : f15 11 = 0) (hf25 : f15 12 = 0) (hf26 : f15 13 = 0) (hf27 : f15 15 = 1) (hf28 : f15 18 = 0) (hf29 : f15 20 = 0) (hf30 : f15 21 = 0) (hf31 : f15 22 = 0) (hf32 : f15 23 = 0) (hf33 : f15 25 = 0) (hf34 : f15 26 = 0) (hf35 : f15 27 = 0) (hf36 : f15 28 = 0) (hf37 : f15 30 = 0) (hf38 : f15 31 = 0) (hf39 : f15 32 = 0) (hf40 : f15 33 = 0) (hf41 : f15 35 = 0) (hf42 : f15 36 = 0) (hf43 : f15 37 = 0) (hf44 : f15 38 = 0) (hf46 : f45 146 = x47) (hf48 : f15 17 = 0) (hf49 : f45 144 = 2) (hf50 : f45 145 = 0) (hf51 : f15 16 = 0) (sz : Nat) : Met l yX9_acceptIfFitting [Cond.code yX9_acceptIfFitting cX9_acceptIfFitting 2 none] ({ frames := 4, cells := 0, slots := 0, locals := 96 } : Room) (va_Pc [.ref q1, .ref q2] (PX g sz [(q63, .inr (10, [w64, .int 0, .int 0])), (q1, .inr (11, [.ref q63, w53, w54, w55, w56, w57, w58, w59, w60, w61, w62])), (q13, .inl (g.2 0, 384, .inl f45)), (q14, .inl (g.2 0, 40, .inl f15)), (q10, .inr (5, [.ref q13, .ref q14])), (q2, .inr (8, [.ref q10, w4, w5, w6, .int 0, w8, w9]))])) (QV g [(q63, .inr (10, [w64, .int 0, .int 0])), (q1, .inr (11, [.ref q63, w53, w54, w55, w56, w57, w58, w59, w60, w61, w62])), (q13, .inl (g.2 0, 384, .inl f45)), (q14, .inl (g.2 0, 40, .inl f15)), (q10, .inr (5, [.ref q13, .ref q14])), (q2, .inr (8, [.ref q10, w4, w5, w6, .int 0, w8, w9]))] sz (fun _ => [(q13, .inl (g.2 0, 384, .inl f45)), (q14, .inl (g.2 0, 40, .inl (upd (upd (upd (upd (upd (upd (upd (upd (upd (upd f15 1 0) 4 1) 9 1) 14 1) 18 1) 19 2) 24 1) 29 1) 34 1) 39 1))), (q10, .inr (5, [.ref q13, .ref q14])), (q2, .inr (8, [.ref q10, w4, w5, w6, .int 0, w8, w9])), (q63, .inr (10, [w64, .int 1, .int 1])), (q1, .inr (11, [.ref q63, w53, w54, w55, w56, w57, w58, w59, .int 0, .int 0, w62]))])) 0 0 (va_A [(q63, .inr (10, [w64, .int 0, .int 0])), (q1, .inr (11, [.ref q63, w53, w54, w55, w56, w57, w58, w59, w60, w61, w62])), (q13, .inl (g.2 0, 384, .inl f45)), (q14, .inl (g.2 0, 40, .inl f15)), (q10, .inr (5, [.ref q13, .ref q14])), (q2, .inr (8, [.ref q10, w4, w5, w6, .int 0, w8, w9]))] sz) := by
  refine ofN (by decide) (Nat.le_of_ble_eq_true rfl) rfl ?_
  intro p e s m args below meth c A ls hAe hsz hx hb hml hr hlocks hin hown hE hP hD hA hS hl
  have hown : s.vm.findClass RX9 = some m.cls := hown
  refine lv_aload_n hx hb dX9_acceptIfFitting_0 rfl (lv_at hl 1 rfl) ?_
  refine gf_RX9_108 hx hb hown hE hP 5 rfl rfl dX9_acceptIfFitting_1 ?_
  refine g_i (wr := [(q63, .inr (10, [w64, .int 0, .int 0])), (q1, .inr (11, [.ref q63, w53, w54, w55, w56, w57, w58, w59, w60, w61, w62])), (q2, .inr (8, [.ref q10, w4, w5, w6, .int 0, w8, w9]))]) (rV (rest := []) hx hb hml hown hE hP hD 4 rfl rfl (c769_X3_measure l g q10 q13 q14 x47 f15 f45 (hf16) (hf17) (hf18) (hf19) (hf20) (hf21) (hf22) (hf23) (hf24) (hf25) (hf26) (hf27) (hf28) (hf46) (hf48) (hf49) (hf50) (hf51) (hf29) (hf30) (hf31) (hf32) (hf33) (hf34) (hf35) (hf36) (hf37) (hf38) (hf39) (hf40) (hf41) (hf42) (hf43) (hf44) s.heap.size) (kV_X3_measure hE (e694 hE) rfl rfl ⟨(Nat.le_of_ble_eq_true rfl), (Nat.le_of_ble_eq_true rfl)⟩) [2, 3, 4] rfl (by decide) rfl hl.1 rfl (lv_room (Nat.le_of_ble_eq_true rfl)) dX9_acceptIfFitting_4 ⟨(Nat.le_of_ble_eq_true rfl), (Nat.le_of_ble_eq_true rfl)⟩) hP hD hS hA [2, 3, 4] [0, 1, 5] rfl rfl (by decide) (by decide) (fun u1 H locs hP hD hS => ?_)
  have hP : va_P g.1 vwCl [(q63, .inr (10, [w64, .int 0, .int 0])), (q1, .inr (11, [.ref q63, w53, w54, w55, w56, w57, w58, w59, w60, w61, w62])), (q2, .inr (8, [.ref q10, w4, w5, w6, .int 0, w8, w9])), (q13, .inl (g.2 0, 384, .inl f45)), (q14, .inl (g.2 0, 40, .inl (upd (upd (upd (upd (upd (upd (upd (upd (upd (upd f15 1 0) 4 1) 9 1) 14 1) 18 1) 19 2) 24 1) 29 1) 34 1) 39 1))), (q10, .inr (5, [.ref q13, .ref q14]))] H := hP
  have hD : va_D A [(q63, .inr (10, [w64, .int 0, .int 0])), (q1, .inr (11, [.ref q63, w53, w54, w55, w56, w57, w58, w59, w60, w61, w62])), (q2, .inr (8, [.ref q10, w4, w5, w6, .int 0, w8, w9])), (q13, .inl (g.2 0, 384, .inl f45)), (q14, .inl (g.2 0, 40, .inl (upd (upd (upd (upd (upd (upd (upd (upd (upd (upd f15 1 0) 4 1) 9 1) 14 1) 18 1) 19 2) 24 1) 29 1) 34 1) 39 1))), (q10, .inr (5, [.ref q13, .ref q14]))] := hD
  refine lv_if_eq (tgt := 17) hx hb dX9_acceptIfFitting_7 (by decide) (fun h => absurd h (by decide)) (fun _ => ?_)
  refine lv_aload_n hx hb dX9_acceptIfFitting_10 rfl (lv_at hl 1 rfl) ?_
  refine g_i (wr := [(q63, .inr (10, [w64, .int 0, .int 0])), (q1, .inr (11, [.ref q63, w53, w54, w55, w56, w57, w58, w59, w60, w61, w62])), (q13, .inl (g.2 0, 384, .inl f45)), (q14, .inl (g.2 0, 40, .inl (upd (upd (upd (upd (upd (upd (upd (upd (upd (upd f15 1 0) 4 1) 9 1) 14 1) 18 1) 19 2) 24 1) 29 1) 34 1) 39 1))), (q10, .inr (5, [.ref q13, .ref q14]))]) (rV (rest := []) hx hb hml hown hE hP hD 2 rfl rfl (c189_X6_hasFittingClips l g q2 (.ref q10) w4 w5 w6 w8 w9 H.size) (kV_X6_hasFittingClips hE (e703 hE) rfl rfl ⟨(Nat.le_of_ble_eq_true rfl), (Nat.le_of_ble_eq_true rfl)⟩) [2] rfl (by decide) rfl hl.1 rfl (lv_room (Nat.le_of_ble_eq_true rfl)) dX9_acceptIfFitting_11 ⟨(Nat.le_of_ble_eq_true rfl), (Nat.le_of_ble_eq_true rfl)⟩) hP hD hS hA [2] [0, 1, 3, 4, 5] rfl rfl (by decide) (by decide) (fun u2 H locs hP hD hS => ?_)
  have hP : va_P g.1 vwCl [(q63, .inr (10, [w64, .int 0, .int 0])), (q1, .inr (11, [.ref q63, w53, w54, w55, w56, w57, w58, w59, w60, w61, w62])), (q13, .inl (g.2 0, 384, .inl f45)), (q14, .inl (g.2 0, 40, .inl (upd (upd (upd (upd (upd (upd (upd (upd (upd (upd f15 1 0) 4 1) 9 1) 14 1) 18 1) 19 2) 24 1) 29 1) 34 1) 39 1))), (q10, .inr (5, [.ref q13, .ref q14])), (q2, .inr (8, [.ref q10, w4, w5, w6, .int 0, w8, w9]))] H := hP
  have hD : va_D A [(q63, .inr (10, [w64, .int 0, .int 0])), (q1, .inr (11, [.ref q63, w53, w54, w55, w56, w57, w58, w59, w60, w61, w62])), (q13, .inl (g.2 0, 384, .inl f45)), (q14, .inl (g.2 0, 40, .inl (upd (upd (upd (upd (upd (upd (upd (upd (upd (upd f15 1 0) 4 1) 9 1) 14 1) 18 1) 19 2) 24 1) 29 1) 34 1) 39 1))), (q10, .inr (5, [.ref q13, .ref q14])), (q2, .inr (8, [.ref q10, w4, w5, w6, .int 0, w8, w9]))] := hD
  refine lv_if_ne (tgt := 28) hx hb dX9_acceptIfFitting_14 (by decide) (fun _ => ?_) (fun h => absurd h (by decide))
  refine lv_aload_n hx hb dX9_acceptIfFitting_28 rfl (lv_at hl 0 rfl) ?_
  refine g_v (wr := [(q13, .inl (g.2 0, 384, .inl f45)), (q14, .inl (g.2 0, 40, .inl (upd (upd (upd (upd (upd (upd (upd (upd (upd (upd f15 1 0) 4 1) 9 1) 14 1) 18 1) 19 2) 24 1) 29 1) 34 1) 39 1))), (q10, .inr (5, [.ref q13, .ref q14])), (q2, .inr (8, [.ref q10, w4, w5, w6, .int 0, w8, w9]))]) (rV (rest := []) hx hb hml hown hE hP hD 1 rfl rfl (c191_X9_accept l g q1 q63 w53 w54 w55 w56 w57 w58 w59 w60 w61 w62 w64 H.size) (kV_X9_accept hE (e718 hE) rfl rfl ⟨(Nat.le_of_ble_eq_true rfl), (Nat.le_of_ble_eq_true rfl)⟩) [0, 1] rfl (by decide) rfl hl.1 rfl (lv_room (Nat.le_of_ble_eq_true rfl)) dX9_acceptIfFitting_29 ⟨(Nat.le_of_ble_eq_true rfl), (Nat.le_of_ble_eq_true rfl)⟩) hP hD hS hA [0, 1] [2, 3, 4, 5] rfl rfl (by decide) (by decide) (fun u3 H locs hP hD hS => ?_)
  have hP : va_P g.1 vwCl [(q13, .inl (g.2 0, 384, .inl f45)), (q14, .inl (g.2 0, 40, .inl (upd (upd (upd (upd (upd (upd (upd (upd (upd (upd f15 1 0) 4 1) 9 1) 14 1) 18 1) 19 2) 24 1) 29 1) 34 1) 39 1))), (q10, .inr (5, [.ref q13, .ref q14])), (q2, .inr (8, [.ref q10, w4, w5, w6, .int 0, w8, w9])), (q63, .inr (10, [w64, .int 1, .int 1])), (q1, .inr (11, [.ref q63, w53, w54, w55, w56, w57, w58, w59, .int 0, .int 0, w62]))] H := hP
  have hD : va_D A [(q13, .inl (g.2 0, 384, .inl f45)), (q14, .inl (g.2 0, 40, .inl (upd (upd (upd (upd (upd (upd (upd (upd (upd (upd f15 1 0) 4 1) 9 1) 14 1) 18 1) 19 2) 24 1) 29 1) 34 1) 39 1))), (q10, .inr (5, [.ref q13, .ref q14])), (q2, .inr (8, [.ref q10, w4, w5, w6, .int 0, w8, w9])), (q63, .inr (10, [w64, .int 1, .int 1])), (q1, .inr (11, [.ref q63, w53, w54, w55, w56, w57, w58, w59, .int 0, .int 0, w62]))] := hD
  exact x_vret hx hb hr hlocks hP hD hS hAe hsz (Nat.le_of_ble_eq_true rfl) (Nat.le_of_ble_eq_true rfl) (fun _ => 0) [0, 1, 2, 3, 4, 5] (by decide) rfl dX9_acceptIfFitting_32

set_option maxHeartbeats 4000000 in
set_option maxRecDepth 100000 in
theorem c771_X9_addOneItem (l : Launch) (g : gG) (q1 q14 q18 q21 q23 q31 q32 q33 q34 q42 q43 q44 q45 q48 q49 q52 q53 q60 q61 q66 q67 : Nat) (x2 : Int32) (w4 w5 w6 w7 w8 w9 w10 w11 w12 w13 w28 w29 w30 w64 w65 : Value) (f19 : Nat → Option Nat) (f54 : Nat → Int32) (f55 : Nat → Int32) (f68 : Nat → Int32) (f69 : Nat → Int32) (hf20 : f19 1 = some q21) (hf22 : f19 0 = some q23) (hf70 : f55 15 = 0) (hf71 : f55 0 = 0) (hf72 : f55 2 = 0) (hf73 : f55 3 = 0) (hf74 : f55 5 = 0) (hf75 : f55 6 = 0) (hf76 : f55 7 = 0) (hf77 : f55 8 = 0) (hf78 : f55 10 = 0) (hf79 : f55 11 = 0) (hf80 : f55 12 = 0) (hf81 : f55 13 = 0) (hf82 : f55 18 = 0) (hf83 : f55 20 = 0) (hf84 : f55 21 = 0) (hf85 : f55 22 = 0) (hf86 : f55 23 = 0) (hf87 : f55 25 = 0) (hf88 : f55 26 = 0) (hf89 : f55 27 = 0) (hf90 : f55 28 = 0) (hf91 : f55 30 = 0) (hf92 : f55 31 = 0) (hf93 : f55 32 = 0) (hf94 : f55 33 = 0) (hf95 : f55 35 = 0) (hf96 : f55 36 = 0) (hf97 : f55 37 = 0) (hf98 : f55 38 = 0) (hf99 : f55 17 = 0) (hf100 : f55 16 = 0) (sz : Nat) : Met l yX9_addOneItem [Cond.code yX9_addOneItem cX9_addOneItem 7 (some .int)] ({ frames := 5, cells := 0, slots := 0, locals := 148 } : Room) (va_Pc [.ref q1, .int 3, .int 2, .int 0, .int x2, .int (-1)] (PX g sz [(q34, .inl (g.2 0, 20, .inl f69)), (q45, .inl (g.2 0, 20, .inl f69)), (q33, .inl (g.2 0, 60, .inl f54)), (q44, .inl (g.2 0, 60, .inl f54)), (q67, .inl (g.2 0, 10, .inl f68)), (q61, .inl (g.2 0, 10, .inl f68)), (q66, .inl (g.2 0, 10, .inl f54)), (q60, .inl (g.2 0, 10, .inl f54)), (q32, .inr (9, [.ref q66, .ref q67, w64, w65])), (q43, .inr (9, [.ref q60, .ref q61, .int 1, .int 0])), (q53, .inl (g.2 0, 40, .inl f55)), (q49, .inl (g.2 0, 40, .inl f55)), (q52, .inl (g.2 0, 384, .inl f54)), (q48, .inl (g.2 0, 384, .inl f54)), (q31, .inr (5, [.ref q52, .ref q53])), (q42, .inr (5, [.ref q48, .ref q49])), (q23, .inr (8, [.ref q42, .ref q43, .ref q44, .ref q45, .int 0, .int 4, .int 0])), (q21, .inr (8, [.ref q31, .ref q32, .ref q33, .ref q34, w28, w29, w30])), (q18, .inl (g.2 3, 10, .inr (.inr (.inr (.inr f19))))), (q14, .inr (10, [.ref q18, .int 0, .int 0])), (q1, .inr (11, [.ref q14, w4, w5, w6, w7, w8, w9, w10, w11, w12, w13]))])) (QI g [(q34, .inl (g.2 0, 20, .inl f69)), (q45, .inl (g.2 0, 20, .inl f69)), (q33, .inl (g.2 0, 60, .inl f54)), (q44, .inl (g.2 0, 60, .inl f54)), (q67, .inl (g.2 0, 10, .inl f68)), (q61, .inl (g.2 0, 10, .inl f68)), (q66, .inl (g.2 0, 10, .inl f54)), (q60, .inl (g.2 0, 10, .inl f54)), (q32, .inr (9, [.ref q66, .ref q67, w64, w65])), (q43, .inr (9, [.ref q60, .ref q61, .int 1, .int 0])), (q53, .inl (g.2 0, 40, .inl f55)), (q49, .inl (g.2 0, 40, .inl f55)), (q52, .inl (g.2 0, 384, .inl f54)), (q48, .inl (g.2 0, 384, .inl f54)), (q31, .inr (5, [.ref q52, .ref q53])), (q42, .inr (5, [.ref q48, .ref q49])), (q23, .inr (8, [.ref q42, .ref q43, .ref q44, .ref q45, .int 0, .int 4, .int 0])), (q21, .inr (8, [.ref q31, .ref q32, .ref q33, .ref q34, w28, w29, w30])), (q18, .inl (g.2 3, 10, .inr (.inr (.inr (.inr f19))))), (q14, .inr (10, [.ref q18, .int 0, .int 0])), (q1, .inr (11, [.ref q14, w4, w5, w6, w7, w8, w9, w10, w11, w12, w13]))] sz 1 (fun _ => [(q18, .inl (g.2 3, 10, .inr (.inr (.inr (.inr f19))))), (q23, .inr (8, [.ref q42, .ref q43, .ref q44, .ref q45, .int 0, .int 4, .int 0])), (q42, .inr (5, [.ref q48, .ref q49])), (q48, .inl (g.2 0, 384, .inl f54)), (q49, .inl (g.2 0, 40, .inl f55)), (q32, .inr (9, [.ref q66, .ref q67, .int 1, .int 0])), (q43, .inr (9, [.ref q60, .ref q61, .int 1, .int 0])), (q66, .inl (g.2 0, 10, .inl f54)), (q60, .inl (g.2 0, 10, .inl f54)), (q67, .inl (g.2 0, 10, .inl f68)), (q61, .inl (g.2 0, 10, .inl f68)), (q33, .inl (g.2 0, 60, .inl f54)), (q44, .inl (g.2 0, 60, .inl f54)), (q34, .inl (g.2 0, 20, .inl f69)), (q45, .inl (g.2 0, 20, .inl f69)), (q52, .inl (g.2 0, 384, .inl (upd (upd (upd (upd f54 144 2) 145 0) 146 x2) 147 (-1)))), (q21, .inr (8, [.ref q31, .ref q32, .ref q33, .ref q34, .int 0, .int 4, .int 0])), (q14, .inr (10, [.ref q18, .int 1, .int 1])), (q1, .inr (11, [.ref q14, w4, w5, w6, w7, w8, w9, w10, .int 0, .int 0, w13])), (q53, .inl (g.2 0, 40, .inl (upd (upd (upd (upd (upd (upd (upd (upd (upd (upd (upd f55 15 1) 1 0) 4 1) 9 1) 14 1) 18 1) 19 2) 24 1) 29 1) 34 1) 39 1))), (q31, .inr (5, [.ref q52, .ref q53]))])) 0 0 (va_A [(q34, .inl (g.2 0, 20, .inl f69)), (q45, .inl (g.2 0, 20, .inl f69)), (q33, .inl (g.2 0, 60, .inl f54)), (q44, .inl (g.2 0, 60, .inl f54)), (q67, .inl (g.2 0, 10, .inl f68)), (q61, .inl (g.2 0, 10, .inl f68)), (q66, .inl (g.2 0, 10, .inl f54)), (q60, .inl (g.2 0, 10, .inl f54)), (q32, .inr (9, [.ref q66, .ref q67, w64, w65])), (q43, .inr (9, [.ref q60, .ref q61, .int 1, .int 0])), (q53, .inl (g.2 0, 40, .inl f55)), (q49, .inl (g.2 0, 40, .inl f55)), (q52, .inl (g.2 0, 384, .inl f54)), (q48, .inl (g.2 0, 384, .inl f54)), (q31, .inr (5, [.ref q52, .ref q53])), (q42, .inr (5, [.ref q48, .ref q49])), (q23, .inr (8, [.ref q42, .ref q43, .ref q44, .ref q45, .int 0, .int 4, .int 0])), (q21, .inr (8, [.ref q31, .ref q32, .ref q33, .ref q34, w28, w29, w30])), (q18, .inl (g.2 3, 10, .inr (.inr (.inr (.inr f19))))), (q14, .inr (10, [.ref q18, .int 0, .int 0])), (q1, .inr (11, [.ref q14, w4, w5, w6, w7, w8, w9, w10, w11, w12, w13]))] sz) := by
  refine ofN (by decide) (Nat.le_of_ble_eq_true rfl) rfl ?_
  intro p e s m args below meth c A ls hAe hsz hx hb hml hr hlocks hin hown hE hP hD hA hS hl
  have hown : s.vm.findClass RX9 = some m.cls := hown
  refine lv_aload_n hx hb dX9_addOneItem_0 rfl (lv_at hl 0 rfl) ?_
  refine gf_RX9_12 hx hb hown hE hP 20 rfl rfl dX9_addOneItem_1 ?_
  refine g_r (wr := [(q1, .inr (11, [.ref q14, w4, w5, w6, w7, w8, w9, w10, w11, w12, w13]))]) (rV (rest := []) hx hb hml hown hE hP hD 19 rfl rfl (c127_X8_draft l g q14 q18 q21 q23 q31 q42 q48 q52 q49 q53 q32 q43 q60 q66 q61 q67 q44 q33 q45 q34 (.int 0) w28 w29 w30 w64 w65 f19 f54 f55 f68 f69 (hf20) (hf22) s.heap.size) (kV_X8_draft hE (e659 hE) rfl rfl ⟨(Nat.le_of_ble_eq_true rfl), (Nat.le_of_ble_eq_true rfl)⟩) [0, 1, 2, 3, 4, 5, 6, 7, 8, 9, 10, 11, 12, 13, 14, 15, 16, 17, 18, 19] rfl (by decide) rfl hl.1 rfl (lv_room (Nat.le_of_ble_eq_true rfl)) dX9_addOneItem_4 ⟨(Nat.le_of_ble_eq_true rfl), (Nat.le_of_ble_eq_true rfl)⟩) hP hD hS hA [0, 1, 2, 3, 4, 5, 6, 7, 8, 9, 10, 11, 12, 13, 14, 15, 16, 17, 18, 19] [20] rfl rfl (by decide) (by decide) (fun u1 H locs hP hD hS => ?_)
  have hP : va_P g.1 vwCl [(q1, .inr (11, [.ref q14, w4, w5, w6, w7, w8, w9, w10, w11, w12, w13])), (q18, .inl (g.2 3, 10, .inr (.inr (.inr (.inr f19))))), (q14, .inr (10, [.ref q18, .int 0, .int 0])), (q23, .inr (8, [.ref q42, .ref q43, .ref q44, .ref q45, .int 0, .int 4, .int 0])), (q21, .inr (8, [.ref q31, .ref q32, .ref q33, .ref q34, .int 0, .int 4, .int 0])), (q31, .inr (5, [.ref q52, .ref q53])), (q42, .inr (5, [.ref q48, .ref q49])), (q52, .inl (g.2 0, 384, .inl f54)), (q48, .inl (g.2 0, 384, .inl f54)), (q53, .inl (g.2 0, 40, .inl f55)), (q49, .inl (g.2 0, 40, .inl f55)), (q32, .inr (9, [.ref q66, .ref q67, .int 1, .int 0])), (q43, .inr (9, [.ref q60, .ref q61, .int 1, .int 0])), (q66, .inl (g.2 0, 10, .inl f54)), (q60, .inl (g.2 0, 10, .inl f54)), (q67, .inl (g.2 0, 10, .inl f68)), (q61, .inl (g.2 0, 10, .inl f68)), (q33, .inl (g.2 0, 60, .inl f54)), (q44, .inl (g.2 0, 60, .inl f54)), (q34, .inl (g.2 0, 20, .inl f69)), (q45, .inl (g.2 0, 20, .inl f69))] H := hP
  have hD : va_D A [(q1, .inr (11, [.ref q14, w4, w5, w6, w7, w8, w9, w10, w11, w12, w13])), (q18, .inl (g.2 3, 10, .inr (.inr (.inr (.inr f19))))), (q14, .inr (10, [.ref q18, .int 0, .int 0])), (q23, .inr (8, [.ref q42, .ref q43, .ref q44, .ref q45, .int 0, .int 4, .int 0])), (q21, .inr (8, [.ref q31, .ref q32, .ref q33, .ref q34, .int 0, .int 4, .int 0])), (q31, .inr (5, [.ref q52, .ref q53])), (q42, .inr (5, [.ref q48, .ref q49])), (q52, .inl (g.2 0, 384, .inl f54)), (q48, .inl (g.2 0, 384, .inl f54)), (q53, .inl (g.2 0, 40, .inl f55)), (q49, .inl (g.2 0, 40, .inl f55)), (q32, .inr (9, [.ref q66, .ref q67, .int 1, .int 0])), (q43, .inr (9, [.ref q60, .ref q61, .int 1, .int 0])), (q66, .inl (g.2 0, 10, .inl f54)), (q60, .inl (g.2 0, 10, .inl f54)), (q67, .inl (g.2 0, 10, .inl f68)), (q61, .inl (g.2 0, 10, .inl f68)), (q33, .inl (g.2 0, 60, .inl f54)), (q44, .inl (g.2 0, 60, .inl f54)), (q34, .inl (g.2 0, 20, .inl f69)), (q45, .inl (g.2 0, 20, .inl f69))] := hD
  refine lv_astore (lv' := [(6, .ref q21), (0, .ref q1), (1, .int 3), (2, .int 2), (3, .int 0), (4, .int x2), (5, .int (-1))]) hx hb dX9_addOneItem_7 hl (by decide) rfl (fun ls hl => ?_)
  refine lv_aload hx hb dX9_addOneItem_9 (lv_at hl 0 rfl) ?_
  refine lv_iload_n hx hb dX9_addOneItem_11 rfl (lv_at hl 2 rfl) ?_
  refine lv_iload_n hx hb dX9_addOneItem_12 rfl (lv_at hl 3 rfl) ?_
  refine lv_iload_n hx hb dX9_addOneItem_13 rfl (lv_at hl 4 rfl) ?_
  refine lv_iload hx hb dX9_addOneItem_14 (lv_at hl 5 rfl) ?_
  refine lv_iload hx hb dX9_addOneItem_16 (lv_at hl 6 rfl) ?_
  refine g_v (wr := [(q1, .inr (11, [.ref q14, w4, w5, w6, w7, w8, w9, w10, w11, w12, w13])), (q18, .inl (g.2 3, 10, .inr (.inr (.inr (.inr f19))))), (q14, .inr (10, [.ref q18, .int 0, .int 0])), (q23, .inr (8, [.ref q42, .ref q43, .ref q44, .ref q45, .int 0, .int 4, .int 0])), (q42, .inr (5, [.ref q48, .ref q49])), (q48, .inl (g.2 0, 384, .inl f54)), (q49, .inl (g.2 0, 40, .inl f55)), (q32, .inr (9, [.ref q66, .ref q67, .int 1, .int 0])), (q43, .inr (9, [.ref q60, .ref q61, .int 1, .int 0])), (q66, .inl (g.2 0, 10, .inl f54)), (q60, .inl (g.2 0, 10, .inl f54)), (q67, .inl (g.2 0, 10, .inl f68)), (q61, .inl (g.2 0, 10, .inl f68)), (q33, .inl (g.2 0, 60, .inl f54)), (q44, .inl (g.2 0, 60, .inl f54)), (q34, .inl (g.2 0, 20, .inl f69)), (q45, .inl (g.2 0, 20, .inl f69))]) (rS (rest := []) hx hb hml hown hE hP hD (c761_X9_putItem l g q21 q31 q53 q52 0 x2 (.ref q32) (.ref q33) (.ref q34) (.int 0) (.int 4) (.int 0) f55 f54 (hf70) H.size) (kS_X9_putItem hE (e665 hE) rfl rfl ⟨(Nat.le_of_ble_eq_true rfl), (Nat.le_of_ble_eq_true rfl)⟩) [7, 9, 5, 4] rfl (by decide) rfl hl.1 rfl (lv_room (Nat.le_of_ble_eq_true rfl)) dX9_addOneItem_18 ⟨(Nat.le_of_ble_eq_true rfl), (Nat.le_of_ble_eq_true rfl)⟩) hP hD hS hA [7, 9, 5, 4] [0, 1, 2, 3, 6, 8, 10, 11, 12, 13, 14, 15, 16, 17, 18, 19, 20] rfl rfl (by decide) (by decide) (fun u2 H locs hP hD hS => ?_)
  have hP : va_P g.1 vwCl [(q1, .inr (11, [.ref q14, w4, w5, w6, w7, w8, w9, w10, w11, w12, w13])), (q18, .inl (g.2 3, 10, .inr (.inr (.inr (.inr f19))))), (q14, .inr (10, [.ref q18, .int 0, .int 0])), (q23, .inr (8, [.ref q42, .ref q43, .ref q44, .ref q45, .int 0, .int 4, .int 0])), (q42, .inr (5, [.ref q48, .ref q49])), (q48, .inl (g.2 0, 384, .inl f54)), (q49, .inl (g.2 0, 40, .inl f55)), (q32, .inr (9, [.ref q66, .ref q67, .int 1, .int 0])), (q43, .inr (9, [.ref q60, .ref q61, .int 1, .int 0])), (q66, .inl (g.2 0, 10, .inl f54)), (q60, .inl (g.2 0, 10, .inl f54)), (q67, .inl (g.2 0, 10, .inl f68)), (q61, .inl (g.2 0, 10, .inl f68)), (q33, .inl (g.2 0, 60, .inl f54)), (q44, .inl (g.2 0, 60, .inl f54)), (q34, .inl (g.2 0, 20, .inl f69)), (q45, .inl (g.2 0, 20, .inl f69)), (q21, .inr (8, [.ref q31, .ref q32, .ref q33, .ref q34, .int 0, .int 4, .int 0])), (q52, .inl (g.2 0, 384, .inl (upd (upd (upd (upd f54 144 2) 145 0) 146 x2) 147 (-1)))), (q53, .inl (g.2 0, 40, .inl (upd f55 15 1))), (q31, .inr (5, [.ref q52, .ref q53]))] H := hP
  have hD : va_D A [(q1, .inr (11, [.ref q14, w4, w5, w6, w7, w8, w9, w10, w11, w12, w13])), (q18, .inl (g.2 3, 10, .inr (.inr (.inr (.inr f19))))), (q14, .inr (10, [.ref q18, .int 0, .int 0])), (q23, .inr (8, [.ref q42, .ref q43, .ref q44, .ref q45, .int 0, .int 4, .int 0])), (q42, .inr (5, [.ref q48, .ref q49])), (q48, .inl (g.2 0, 384, .inl f54)), (q49, .inl (g.2 0, 40, .inl f55)), (q32, .inr (9, [.ref q66, .ref q67, .int 1, .int 0])), (q43, .inr (9, [.ref q60, .ref q61, .int 1, .int 0])), (q66, .inl (g.2 0, 10, .inl f54)), (q60, .inl (g.2 0, 10, .inl f54)), (q67, .inl (g.2 0, 10, .inl f68)), (q61, .inl (g.2 0, 10, .inl f68)), (q33, .inl (g.2 0, 60, .inl f54)), (q44, .inl (g.2 0, 60, .inl f54)), (q34, .inl (g.2 0, 20, .inl f69)), (q45, .inl (g.2 0, 20, .inl f69)), (q21, .inr (8, [.ref q31, .ref q32, .ref q33, .ref q34, .int 0, .int 4, .int 0])), (q52, .inl (g.2 0, 384, .inl (upd (upd (upd (upd f54 144 2) 145 0) 146 x2) 147 (-1)))), (q53, .inl (g.2 0, 40, .inl (upd f55 15 1))), (q31, .inr (5, [.ref q52, .ref q53]))] := hD
  refine lv_aload_n hx hb dX9_addOneItem_21 rfl (lv_at hl 1 rfl) ?_
  refine lv_aload hx hb dX9_addOneItem_22 (lv_at hl 0 rfl) ?_
  refine g_v (wr := [(q18, .inl (g.2 3, 10, .inr (.inr (.inr (.inr f19))))), (q23, .inr (8, [.ref q42, .ref q43, .ref q44, .ref q45, .int 0, .int 4, .int 0])), (q42, .inr (5, [.ref q48, .ref q49])), (q48, .inl (g.2 0, 384, .inl f54)), (q49, .inl (g.2 0, 40, .inl f55)), (q32, .inr (9, [.ref q66, .ref q67, .int 1, .int 0])), (q43, .inr (9, [.ref q60, .ref q61, .int 1, .int 0])), (q66, .inl (g.2 0, 10, .inl f54)), (q60, .inl (g.2 0, 10, .inl f54)), (q67, .inl (g.2 0, 10, .inl f68)), (q61, .inl (g.2 0, 10, .inl f68)), (q33, .inl (g.2 0, 60, .inl f54)), (q44, .inl (g.2 0, 60, .inl f54)), (q34, .inl (g.2 0, 20, .inl f69)), (q45, .inl (g.2 0, 20, .inl f69))]) (rV (rest := []) hx hb hml hown hE hP hD 0 rfl rfl (c770_X9_acceptIfFitting l g q1 q21 q31 q52 q53 q14 x2 (.ref q32) (.ref q33) (.ref q34) (.int 4) (.int 0) w4 w5 w6 w7 w8 w9 w10 w11 w12 w13 (.ref q18) (upd f55 15 1) (upd (upd (upd (upd f54 144 2) 145 0) 146 x2) 147 (-1)) (((pk_un (by decide)).trans hf71)) (((pk_un (by decide)).trans hf72)) (((pk_un (by decide)).trans hf73)) (((pk_un (by decide)).trans hf74)) (((pk_un (by decide)).trans hf75)) (((pk_un (by decide)).trans hf76)) (((pk_un (by decide)).trans hf77)) (((pk_un (by decide)).trans hf78)) (((pk_un (by decide)).trans hf79)) (((pk_un (by decide)).trans hf80)) (((pk_un (by decide)).trans hf81)) (pk_us) (((pk_un (by decide)).trans hf82)) (((pk_un (by decide)).trans hf83)) (((pk_un (by decide)).trans hf84)) (((pk_un (by decide)).trans hf85)) (((pk_un (by decide)).trans hf86)) (((pk_un (by decide)).trans hf87)) (((pk_un (by decide)).trans hf88)) (((pk_un (by decide)).trans hf89)) (((pk_un (by decide)).trans hf90)) (((pk_un (by decide)).trans hf91)) (((pk_un (by decide)).trans hf92)) (((pk_un (by decide)).trans hf93)) (((pk_un (by decide)).trans hf94)) (((pk_un (by decide)).trans hf95)) (((pk_un (by decide)).trans hf96)) (((pk_un (by decide)).trans hf97)) (((pk_un (by decide)).trans hf98)) (((pk_un (by decide)).trans pk_us)) (((pk_un (by decide)).trans hf99)) (((pk_un (by decide)).trans ((pk_un (by decide)).trans ((pk_un (by decide)).trans pk_us)))) (((pk_un (by decide)).trans ((pk_un (by decide)).trans pk_us))) (((pk_un (by decide)).trans hf100)) H.size) (kV_X9_acceptIfFitting hE (e690 hE) rfl rfl ⟨(Nat.le_of_ble_eq_true rfl), (Nat.le_of_ble_eq_true rfl)⟩) [2, 0, 18, 19, 20, 17] rfl (by decide) rfl hl.1 rfl (lv_room (Nat.le_of_ble_eq_true rfl)) dX9_addOneItem_24 ⟨(Nat.le_of_ble_eq_true rfl), (Nat.le_of_ble_eq_true rfl)⟩) hP hD hS hA [2, 0, 18, 19, 20, 17] [1, 3, 4, 5, 6, 7, 8, 9, 10, 11, 12, 13, 14, 15, 16] rfl rfl (by decide) (by decide) (fun u3 H locs hP hD hS => ?_)
  have hP : va_P g.1 vwCl [(q18, .inl (g.2 3, 10, .inr (.inr (.inr (.inr f19))))), (q23, .inr (8, [.ref q42, .ref q43, .ref q44, .ref q45, .int 0, .int 4, .int 0])), (q42, .inr (5, [.ref q48, .ref q49])), (q48, .inl (g.2 0, 384, .inl f54)), (q49, .inl (g.2 0, 40, .inl f55)), (q32, .inr (9, [.ref q66, .ref q67, .int 1, .int 0])), (q43, .inr (9, [.ref q60, .ref q61, .int 1, .int 0])), (q66, .inl (g.2 0, 10, .inl f54)), (q60, .inl (g.2 0, 10, .inl f54)), (q67, .inl (g.2 0, 10, .inl f68)), (q61, .inl (g.2 0, 10, .inl f68)), (q33, .inl (g.2 0, 60, .inl f54)), (q44, .inl (g.2 0, 60, .inl f54)), (q34, .inl (g.2 0, 20, .inl f69)), (q45, .inl (g.2 0, 20, .inl f69)), (q52, .inl (g.2 0, 384, .inl (upd (upd (upd (upd f54 144 2) 145 0) 146 x2) 147 (-1)))), (q53, .inl (g.2 0, 40, .inl (upd (upd (upd (upd (upd (upd (upd (upd (upd (upd (upd f55 15 1) 1 0) 4 1) 9 1) 14 1) 18 1) 19 2) 24 1) 29 1) 34 1) 39 1))), (q31, .inr (5, [.ref q52, .ref q53])), (q21, .inr (8, [.ref q31, .ref q32, .ref q33, .ref q34, .int 0, .int 4, .int 0])), (q14, .inr (10, [.ref q18, .int 1, .int 1])), (q1, .inr (11, [.ref q14, w4, w5, w6, w7, w8, w9, w10, .int 0, .int 0, w13]))] H := hP
  have hD : va_D A [(q18, .inl (g.2 3, 10, .inr (.inr (.inr (.inr f19))))), (q23, .inr (8, [.ref q42, .ref q43, .ref q44, .ref q45, .int 0, .int 4, .int 0])), (q42, .inr (5, [.ref q48, .ref q49])), (q48, .inl (g.2 0, 384, .inl f54)), (q49, .inl (g.2 0, 40, .inl f55)), (q32, .inr (9, [.ref q66, .ref q67, .int 1, .int 0])), (q43, .inr (9, [.ref q60, .ref q61, .int 1, .int 0])), (q66, .inl (g.2 0, 10, .inl f54)), (q60, .inl (g.2 0, 10, .inl f54)), (q67, .inl (g.2 0, 10, .inl f68)), (q61, .inl (g.2 0, 10, .inl f68)), (q33, .inl (g.2 0, 60, .inl f54)), (q44, .inl (g.2 0, 60, .inl f54)), (q34, .inl (g.2 0, 20, .inl f69)), (q45, .inl (g.2 0, 20, .inl f69)), (q52, .inl (g.2 0, 384, .inl (upd (upd (upd (upd f54 144 2) 145 0) 146 x2) 147 (-1)))), (q53, .inl (g.2 0, 40, .inl (upd (upd (upd (upd (upd (upd (upd (upd (upd (upd (upd f55 15 1) 1 0) 4 1) 9 1) 14 1) 18 1) 19 2) 24 1) 29 1) 34 1) 39 1))), (q31, .inr (5, [.ref q52, .ref q53])), (q21, .inr (8, [.ref q31, .ref q32, .ref q33, .ref q34, .int 0, .int 4, .int 0])), (q14, .inr (10, [.ref q18, .int 1, .int 1])), (q1, .inr (11, [.ref q14, w4, w5, w6, w7, w8, w9, w10, .int 0, .int 0, w13]))] := hD
  refine lv_aload hx hb dX9_addOneItem_27 (lv_at hl 0 rfl) ?_
  refine gf_RX9_108 hx hb hown hE hP 18 rfl rfl dX9_addOneItem_29 ?_
  refine lv_iload_n hx hb dX9_addOneItem_32 rfl (lv_at hl 2 rfl) ?_
  refine lv_iconst (v := 0) hx hb dX9_addOneItem_33 (by decide) ?_
  refine g_i (wr := [(q18, .inl (g.2 3, 10, .inr (.inr (.inr (.inr f19))))), (q23, .inr (8, [.ref q42, .ref q43, .ref q44, .ref q45, .int 0, .int 4, .int 0])), (q42, .inr (5, [.ref q48, .ref q49])), (q48, .inl (g.2 0, 384, .inl f54)), (q49, .inl (g.2 0, 40, .inl f55)), (q32, .inr (9, [.ref q66, .ref q67, .int 1, .int 0])), (q43, .inr (9, [.ref q60, .ref q61, .int 1, .int 0])), (q66, .inl (g.2 0, 10, .inl f54)), (q60, .inl (g.2 0, 10, .inl f54)), (q67, .inl (g.2 0, 10, .inl f68)), (q61, .inl (g.2 0, 10, .inl f68)), (q33, .inl (g.2 0, 60, .inl f54)), (q44, .inl (g.2 0, 60, .inl f54)), (q34, .inl (g.2 0, 20, .inl f69)), (q45, .inl (g.2 0, 20, .inl f69)), (q52, .inl (g.2 0, 384, .inl (upd (upd (upd (upd f54 144 2) 145 0) 146 x2) 147 (-1)))), (q21, .inr (8, [.ref q31, .ref q32, .ref q33, .ref q34, .int 0, .int 4, .int 0])), (q14, .inr (10, [.ref q18, .int 1, .int 1])), (q1, .inr (11, [.ref q14, w4, w5, w6, w7, w8, w9, w10, .int 0, .int 0, w13]))]) (rV (rest := []) hx hb hml hown hE hP hD 17 rfl rfl (c293_X3_figure l g q31 q53 (.ref q52) (upd (upd (upd (upd (upd (upd (upd (upd (upd (upd (upd f55 15 1) 1 0) 4 1) 9 1) 14 1) 18 1) 19 2) 24 1) 29 1) 34 1) 39 1) (((pk_un (by decide)).trans ((pk_un (by decide)).trans ((pk_un (by decide)).trans ((pk_un (by decide)).trans ((pk_un (by decide)).trans ((pk_un (by decide)).trans ((pk_un (by decide)).trans ((pk_un (by decide)).trans ((pk_un (by decide)).trans ((pk_un (by decide)).trans pk_us))))))))))) H.size) (kV_X3_figure hE (e668 hE) rfl rfl ⟨(Nat.le_of_ble_eq_true rfl), (Nat.le_of_ble_eq_true rfl)⟩) [16, 17] rfl (by decide) rfl hl.1 rfl (lv_room (Nat.le_of_ble_eq_true rfl)) dX9_addOneItem_34 ⟨(Nat.le_of_ble_eq_true rfl), (Nat.le_of_ble_eq_true rfl)⟩) hP hD hS hA [16, 17] [0, 1, 2, 3, 4, 5, 6, 7, 8, 9, 10, 11, 12, 13, 14, 15, 18, 19, 20] rfl rfl (by decide) (by decide) (fun u4 H locs hP hD hS => ?_)
  have hP : va_P g.1 vwCl [(q18, .inl (g.2 3, 10, .inr (.inr (.inr (.inr f19))))), (q23, .inr (8, [.ref q42, .ref q43, .ref q44, .ref q45, .int 0, .int 4, .int 0])), (q42, .inr (5, [.ref q48, .ref q49])), (q48, .inl (g.2 0, 384, .inl f54)), (q49, .inl (g.2 0, 40, .inl f55)), (q32, .inr (9, [.ref q66, .ref q67, .int 1, .int 0])), (q43, .inr (9, [.ref q60, .ref q61, .int 1, .int 0])), (q66, .inl (g.2 0, 10, .inl f54)), (q60, .inl (g.2 0, 10, .inl f54)), (q67, .inl (g.2 0, 10, .inl f68)), (q61, .inl (g.2 0, 10, .inl f68)), (q33, .inl (g.2 0, 60, .inl f54)), (q44, .inl (g.2 0, 60, .inl f54)), (q34, .inl (g.2 0, 20, .inl f69)), (q45, .inl (g.2 0, 20, .inl f69)), (q52, .inl (g.2 0, 384, .inl (upd (upd (upd (upd f54 144 2) 145 0) 146 x2) 147 (-1)))), (q21, .inr (8, [.ref q31, .ref q32, .ref q33, .ref q34, .int 0, .int 4, .int 0])), (q14, .inr (10, [.ref q18, .int 1, .int 1])), (q1, .inr (11, [.ref q14, w4, w5, w6, w7, w8, w9, w10, .int 0, .int 0, w13])), (q53, .inl (g.2 0, 40, .inl (upd (upd (upd (upd (upd (upd (upd (upd (upd (upd (upd f55 15 1) 1 0) 4 1) 9 1) 14 1) 18 1) 19 2) 24 1) 29 1) 34 1) 39 1))), (q31, .inr (5, [.ref q52, .ref q53]))] H := hP
  have hD : va_D A [(q18, .inl (g.2 3, 10, .inr (.inr (.inr (.inr f19))))), (q23, .inr (8, [.ref q42, .ref q43, .ref q44, .ref q45, .int 0, .int 4, .int 0])), (q42, .inr (5, [.ref q48, .ref q49])), (q48, .inl (g.2 0, 384, .inl f54)), (q49, .inl (g.2 0, 40, .inl f55)), (q32, .inr (9, [.ref q66, .ref q67, .int 1, .int 0])), (q43, .inr (9, [.ref q60, .ref q61, .int 1, .int 0])), (q66, .inl (g.2 0, 10, .inl f54)), (q60, .inl (g.2 0, 10, .inl f54)), (q67, .inl (g.2 0, 10, .inl f68)), (q61, .inl (g.2 0, 10, .inl f68)), (q33, .inl (g.2 0, 60, .inl f54)), (q44, .inl (g.2 0, 60, .inl f54)), (q34, .inl (g.2 0, 20, .inl f69)), (q45, .inl (g.2 0, 20, .inl f69)), (q52, .inl (g.2 0, 384, .inl (upd (upd (upd (upd f54 144 2) 145 0) 146 x2) 147 (-1)))), (q21, .inr (8, [.ref q31, .ref q32, .ref q33, .ref q34, .int 0, .int 4, .int 0])), (q14, .inr (10, [.ref q18, .int 1, .int 1])), (q1, .inr (11, [.ref q14, w4, w5, w6, w7, w8, w9, w10, .int 0, .int 0, w13])), (q53, .inl (g.2 0, 40, .inl (upd (upd (upd (upd (upd (upd (upd (upd (upd (upd (upd f55 15 1) 1 0) 4 1) 9 1) 14 1) 18 1) 19 2) 24 1) 29 1) 34 1) 39 1))), (q31, .inr (5, [.ref q52, .ref q53]))] := hD
  exact x_zret hx hb hr rfl rfl hlocks hP hD hS hAe hsz (Nat.le_of_ble_eq_true rfl) (Nat.le_of_ble_eq_true rfl) (fun _ => 0) [0, 1, 2, 3, 4, 5, 6, 7, 8, 9, 10, 11, 12, 13, 14, 15, 16, 17, 18, 19, 20] (by decide) rfl dX9_addOneItem_37

set_option maxHeartbeats 4000000 in
set_option maxRecDepth 100000 in
theorem c772_X9_addCall (l : Launch) (g : gG) (q1 q16 q20 q23 q25 q33 q34 q35 q36 q44 q45 q46 q47 q50 q51 q54 q55 q62 q63 q68 q69 : Nat) (x2 : Int32) (w6 w7 w8 w9 w10 w11 w12 w13 w14 w15 w30 w31 w32 w66 w67 : Value) (f21 : Nat → Option Nat) (f56 : Nat → Int32) (f57 : Nat → Int32) (f70 : Nat → Int32) (f71 : Nat → Int32) (hf22 : f21 1 = some q23) (hf24 : f21 0 = some q25) (hf72 : f57 15 = 0) (hf73 : f57 0 = 0) (hf74 : f57 2 = 0) (hf75 : f57 3 = 0) (hf76 : f57 5 = 0) (hf77 : f57 6 = 0) (hf78 : f57 7 = 0) (hf79 : f57 8 = 0) (hf80 : f57 10 = 0) (hf81 : f57 11 = 0) (hf82 : f57 12 = 0) (hf83 : f57 13 = 0) (hf84 : f57 18 = 0) (hf85 : f57 20 = 0) (hf86 : f57 21 = 0) (hf87 : f57 22 = 0) (hf88 : f57 23 = 0) (hf89 : f57 25 = 0) (hf90 : f57 26 = 0) (hf91 : f57 27 = 0) (hf92 : f57 28 = 0) (hf93 : f57 30 = 0) (hf94 : f57 31 = 0) (hf95 : f57 32 = 0) (hf96 : f57 33 = 0) (hf97 : f57 35 = 0) (hf98 : f57 36 = 0) (hf99 : f57 37 = 0) (hf100 : f57 38 = 0) (hf101 : f57 17 = 0) (hf102 : f57 16 = 0) (h3 : (1 : Int32) ≤ x2) (h4 : x2 ≤ 9) (sz : Nat) : Met l yX9_addCall [Cond.code yX9_addCall cX9_addCall 4 (some .int)] ({ frames := 6, cells := 0, slots := 0, locals := 174 } : Room) (va_Pc [.ref q1, .int 3, .int 0, .int x2] (PX g sz [(q36, .inl (g.2 0, 20, .inl f71)), (q47, .inl (g.2 0, 20, .inl f71)), (q35, .inl (g.2 0, 60, .inl f56)), (q46, .inl (g.2 0, 60, .inl f56)), (q69, .inl (g.2 0, 10, .inl f70)), (q63, .inl (g.2 0, 10, .inl f70)), (q68, .inl (g.2 0, 10, .inl f56)), (q62, .inl (g.2 0, 10, .inl f56)), (q34, .inr (9, [.ref q68, .ref q69, w66, w67])), (q45, .inr (9, [.ref q62, .ref q63, .int 1, .int 0])), (q55, .inl (g.2 0, 40, .inl f57)), (q51, .inl (g.2 0, 40, .inl f57)), (q54, .inl (g.2 0, 384, .inl f56)), (q50, .inl (g.2 0, 384, .inl f56)), (q33, .inr (5, [.ref q54, .ref q55])), (q44, .inr (5, [.ref q50, .ref q51])), (q25, .inr (8, [.ref q44, .ref q45, .ref q46, .ref q47, .int 0, .int 4, .int 0])), (q23, .inr (8, [.ref q33, .ref q34, .ref q35, .ref q36, w30, w31, w32])), (q20, .inl (g.2 3, 10, .inr (.inr (.inr (.inr f21))))), (q16, .inr (10, [.ref q20, .int 0, .int 0])), (q1, .inr (11, [.ref q16, w6, w7, w8, w9, w10, w11, w12, w13, w14, w15]))])) (QI g [(q36, .inl (g.2 0, 20, .inl f71)), (q47, .inl (g.2 0, 20, .inl f71)), (q35, .inl (g.2 0, 60, .inl f56)), (q46, .inl (g.2 0, 60, .inl f56)), (q69, .inl (g.2 0, 10, .inl f70)), (q63, .inl (g.2 0, 10, .inl f70)), (q68, .inl (g.2 0, 10, .inl f56)), (q62, .inl (g.2 0, 10, .inl f56)), (q34, .inr (9, [.ref q68, .ref q69, w66, w67])), (q45, .inr (9, [.ref q62, .ref q63, .int 1, .int 0])), (q55, .inl (g.2 0, 40, .inl f57)), (q51, .inl (g.2 0, 40, .inl f57)), (q54, .inl (g.2 0, 384, .inl f56)), (q50, .inl (g.2 0, 384, .inl f56)), (q33, .inr (5, [.ref q54, .ref q55])), (q44, .inr (5, [.ref q50, .ref q51])), (q25, .inr (8, [.ref q44, .ref q45, .ref q46, .ref q47, .int 0, .int 4, .int 0])), (q23, .inr (8, [.ref q33, .ref q34, .ref q35, .ref q36, w30, w31, w32])), (q20, .inl (g.2 3, 10, .inr (.inr (.inr (.inr f21))))), (q16, .inr (10, [.ref q20, .int 0, .int 0])), (q1, .inr (11, [.ref q16, w6, w7, w8, w9, w10, w11, w12, w13, w14, w15]))] sz 1 (fun _ => [(q20, .inl (g.2 3, 10, .inr (.inr (.inr (.inr f21))))), (q25, .inr (8, [.ref q44, .ref q45, .ref q46, .ref q47, .int 0, .int 4, .int 0])), (q44, .inr (5, [.ref q50, .ref q51])), (q50, .inl (g.2 0, 384, .inl f56)), (q51, .inl (g.2 0, 40, .inl f57)), (q34, .inr (9, [.ref q68, .ref q69, .int 1, .int 0])), (q45, .inr (9, [.ref q62, .ref q63, .int 1, .int 0])), (q68, .inl (g.2 0, 10, .inl f56)), (q62, .inl (g.2 0, 10, .inl f56)), (q69, .inl (g.2 0, 10, .inl f70)), (q63, .inl (g.2 0, 10, .inl f70)), (q35, .inl (g.2 0, 60, .inl f56)), (q46, .inl (g.2 0, 60, .inl f56)), (q36, .inl (g.2 0, 20, .inl f71)), (q47, .inl (g.2 0, 20, .inl f71)), (q54, .inl (g.2 0, 384, .inl (upd (upd (upd (upd f56 144 2) 145 0) 146 x2) 147 (-1)))), (q23, .inr (8, [.ref q33, .ref q34, .ref q35, .ref q36, .int 0, .int 4, .int 0])), (q16, .inr (10, [.ref q20, .int 1, .int 1])), (q1, .inr (11, [.ref q16, w6, w7, w8, w9, w10, w11, w12, .int 0, .int 0, w15])), (q55, .inl (g.2 0, 40, .inl (upd (upd (upd (upd (upd (upd (upd (upd (upd (upd (upd f57 15 1) 1 0) 4 1) 9 1) 14 1) 18 1) 19 2) 24 1) 29 1) 34 1) 39 1))), (q33, .inr (5, [.ref q54, .ref q55]))])) 0 0 (va_A [(q36, .inl (g.2 0, 20, .inl f71)), (q47, .inl (g.2 0, 20, .inl f71)), (q35, .inl (g.2 0, 60, .inl f56)), (q46, .inl (g.2 0, 60, .inl f56)), (q69, .inl (g.2 0, 10, .inl f70)), (q63, .inl (g.2 0, 10, .inl f70)), (q68, .inl (g.2 0, 10, .inl f56)), (q62, .inl (g.2 0, 10, .inl f56)), (q34, .inr (9, [.ref q68, .ref q69, w66, w67])), (q45, .inr (9, [.ref q62, .ref q63, .int 1, .int 0])), (q55, .inl (g.2 0, 40, .inl f57)), (q51, .inl (g.2 0, 40, .inl f57)), (q54, .inl (g.2 0, 384, .inl f56)), (q50, .inl (g.2 0, 384, .inl f56)), (q33, .inr (5, [.ref q54, .ref q55])), (q44, .inr (5, [.ref q50, .ref q51])), (q25, .inr (8, [.ref q44, .ref q45, .ref q46, .ref q47, .int 0, .int 4, .int 0])), (q23, .inr (8, [.ref q33, .ref q34, .ref q35, .ref q36, w30, w31, w32])), (q20, .inl (g.2 3, 10, .inr (.inr (.inr (.inr f21))))), (q16, .inr (10, [.ref q20, .int 0, .int 0])), (q1, .inr (11, [.ref q16, w6, w7, w8, w9, w10, w11, w12, w13, w14, w15]))] sz) := by
  refine ofN (by decide) (Nat.le_of_ble_eq_true rfl) rfl ?_
  intro p e s m args below meth c A ls hAe hsz hx hb hml hr hlocks hin hown hE hP hD hA hS hl
  have hown : s.vm.findClass RX9 = some m.cls := hown
  refine lv_iload_n hx hb dX9_addCall_0 rfl (lv_at hl 1 rfl) ?_
  refine g0_v (rS (rest := []) hx hb hml hown hE hP hD (c89_X9_requirePattern l g 3 (by decide) (by decide) s.heap.size) (kS_X9_requirePattern hE (e617 hE) rfl rfl ⟨(Nat.le_of_ble_eq_true rfl), (Nat.le_of_ble_eq_true rfl)⟩) [] rfl (by decide) rfl hl.1 rfl (lv_room (Nat.le_of_ble_eq_true rfl)) dX9_addCall_1 ⟨(Nat.le_of_ble_eq_true rfl), (Nat.le_of_ble_eq_true rfl)⟩) hP hD hS hA (fun u9 H locs hP hS => ?_)
  refine lv_iload_n hx hb dX9_addCall_4 rfl (lv_at hl 2 rfl) ?_
  refine lv_iconst (v := 0) hx hb dX9_addCall_5 (by decide) ?_
  refine lv_iload_n hx hb dX9_addCall_6 rfl (lv_at hl 1 rfl) ?_
  refine lv_iconst (v := 1) hx hb dX9_addCall_7 (by decide) ?_
  refine x_isub (v := 2) hx hb dX9_addCall_8 (by decide) ?_
  refine g0_v (rS (rest := []) hx hb hml hown hE hP hD (c752_X9_requireRange l g 0 (by decide) (by decide) H.size) (kS_X9_requireRange hE (e636 hE) rfl rfl ⟨(Nat.le_of_ble_eq_true rfl), (Nat.le_of_ble_eq_true rfl)⟩) [] rfl (by decide) rfl hl.1 rfl (lv_room (Nat.le_of_ble_eq_true rfl)) dX9_addCall_9 ⟨(Nat.le_of_ble_eq_true rfl), (Nat.le_of_ble_eq_true rfl)⟩) hP hD hS hA (fun u9 H locs hP hS => ?_)
  refine lv_iload_n hx hb dX9_addCall_12 rfl (lv_at hl 3 rfl) ?_
  refine lv_iconst (v := 1) hx hb dX9_addCall_13 (by decide) ?_
  refine lv_bipush (v := 9) hx hb dX9_addCall_14 (by decide) ?_
  refine g0_v (rS (rest := []) hx hb hml hown hE hP hD (c117_X9_requireRange l g x2 h3 h4 H.size) (kS_X9_requireRange hE (e636 hE) rfl rfl ⟨(Nat.le_of_ble_eq_true rfl), (Nat.le_of_ble_eq_true rfl)⟩) [] rfl (by decide) rfl hl.1 rfl (lv_room (Nat.le_of_ble_eq_true rfl)) dX9_addCall_16 ⟨(Nat.le_of_ble_eq_true rfl), (Nat.le_of_ble_eq_true rfl)⟩) hP hD hS hA (fun u9 H locs hP hS => ?_)
  refine lv_aload_n hx hb dX9_addCall_19 rfl (lv_at hl 0 rfl) ?_
  refine lv_iload_n hx hb dX9_addCall_20 rfl (lv_at hl 1 rfl) ?_
  refine lv_iconst (v := 2) hx hb dX9_addCall_21 (by decide) ?_
  refine lv_iload_n hx hb dX9_addCall_22 rfl (lv_at hl 2 rfl) ?_
  refine lv_iload_n hx hb dX9_addCall_23 rfl (lv_at hl 3 rfl) ?_
  refine lv_iconst (v := (-1)) hx hb dX9_addCall_24 (by decide) ?_
  refine g_i (wr := []) (rV (rest := []) hx hb hml hown hE hP hD 20 rfl rfl (c771_X9_addOneItem l g q1 q16 q20 q23 q25 q33 q34 q35 q36 q44 q45 q46 q47 q50 q51 q54 q55 q62 q63 q68 q69 x2 w6 w7 w8 w9 w10 w11 w12 w13 w14 w15 w30 w31 w32 w66 w67 f21 f56 f57 f70 f71 (hf22) (hf24) (hf72) (hf73) (hf74) (hf75) (hf76) (hf77) (hf78) (hf79) (hf80) (hf81) (hf82) (hf83) (hf84) (hf85) (hf86) (hf87) (hf88) (hf89) (hf90) (hf91) (hf92) (hf93) (hf94) (hf95) (hf96) (hf97) (hf98) (hf99) (hf100) (hf101) (hf102) H.size) (kV_X9_addOneItem hE (e655 hE) rfl rfl ⟨(Nat.le_of_ble_eq_true rfl), (Nat.le_of_ble_eq_true rfl)⟩) [0, 1, 2, 3, 4, 5, 6, 7, 8, 9, 10, 11, 12, 13, 14, 15, 16, 17, 18, 19, 20] rfl (by decide) rfl hl.1 rfl (lv_room (Nat.le_of_ble_eq_true rfl)) dX9_addCall_25 ⟨(Nat.le_of_ble_eq_true rfl), (Nat.le_of_ble_eq_true rfl)⟩) hP hD hS hA [0, 1, 2, 3, 4, 5, 6, 7, 8, 9, 10, 11, 12, 13, 14, 15, 16, 17, 18, 19, 20] [] rfl rfl (by decide) (by decide) (fun u4 H locs hP hD hS => ?_)
  have hP : va_P g.1 vwCl [(q20, .inl (g.2 3, 10, .inr (.inr (.inr (.inr f21))))), (q25, .inr (8, [.ref q44, .ref q45, .ref q46, .ref q47, .int 0, .int 4, .int 0])), (q44, .inr (5, [.ref q50, .ref q51])), (q50, .inl (g.2 0, 384, .inl f56)), (q51, .inl (g.2 0, 40, .inl f57)), (q34, .inr (9, [.ref q68, .ref q69, .int 1, .int 0])), (q45, .inr (9, [.ref q62, .ref q63, .int 1, .int 0])), (q68, .inl (g.2 0, 10, .inl f56)), (q62, .inl (g.2 0, 10, .inl f56)), (q69, .inl (g.2 0, 10, .inl f70)), (q63, .inl (g.2 0, 10, .inl f70)), (q35, .inl (g.2 0, 60, .inl f56)), (q46, .inl (g.2 0, 60, .inl f56)), (q36, .inl (g.2 0, 20, .inl f71)), (q47, .inl (g.2 0, 20, .inl f71)), (q54, .inl (g.2 0, 384, .inl (upd (upd (upd (upd f56 144 2) 145 0) 146 x2) 147 (-1)))), (q23, .inr (8, [.ref q33, .ref q34, .ref q35, .ref q36, .int 0, .int 4, .int 0])), (q16, .inr (10, [.ref q20, .int 1, .int 1])), (q1, .inr (11, [.ref q16, w6, w7, w8, w9, w10, w11, w12, .int 0, .int 0, w15])), (q55, .inl (g.2 0, 40, .inl (upd (upd (upd (upd (upd (upd (upd (upd (upd (upd (upd f57 15 1) 1 0) 4 1) 9 1) 14 1) 18 1) 19 2) 24 1) 29 1) 34 1) 39 1))), (q33, .inr (5, [.ref q54, .ref q55]))] H := hP
  have hD : va_D A [(q20, .inl (g.2 3, 10, .inr (.inr (.inr (.inr f21))))), (q25, .inr (8, [.ref q44, .ref q45, .ref q46, .ref q47, .int 0, .int 4, .int 0])), (q44, .inr (5, [.ref q50, .ref q51])), (q50, .inl (g.2 0, 384, .inl f56)), (q51, .inl (g.2 0, 40, .inl f57)), (q34, .inr (9, [.ref q68, .ref q69, .int 1, .int 0])), (q45, .inr (9, [.ref q62, .ref q63, .int 1, .int 0])), (q68, .inl (g.2 0, 10, .inl f56)), (q62, .inl (g.2 0, 10, .inl f56)), (q69, .inl (g.2 0, 10, .inl f70)), (q63, .inl (g.2 0, 10, .inl f70)), (q35, .inl (g.2 0, 60, .inl f56)), (q46, .inl (g.2 0, 60, .inl f56)), (q36, .inl (g.2 0, 20, .inl f71)), (q47, .inl (g.2 0, 20, .inl f71)), (q54, .inl (g.2 0, 384, .inl (upd (upd (upd (upd f56 144 2) 145 0) 146 x2) 147 (-1)))), (q23, .inr (8, [.ref q33, .ref q34, .ref q35, .ref q36, .int 0, .int 4, .int 0])), (q16, .inr (10, [.ref q20, .int 1, .int 1])), (q1, .inr (11, [.ref q16, w6, w7, w8, w9, w10, w11, w12, .int 0, .int 0, w15])), (q55, .inl (g.2 0, 40, .inl (upd (upd (upd (upd (upd (upd (upd (upd (upd (upd (upd f57 15 1) 1 0) 4 1) 9 1) 14 1) 18 1) 19 2) 24 1) 29 1) 34 1) 39 1))), (q33, .inr (5, [.ref q54, .ref q55]))] := hD
  exact x_zret hx hb hr rfl rfl hlocks hP hD hS hAe hsz (Nat.le_of_ble_eq_true rfl) (Nat.le_of_ble_eq_true rfl) (fun _ => 0) [0, 1, 2, 3, 4, 5, 6, 7, 8, 9, 10, 11, 12, 13, 14, 15, 16, 17, 18, 19, 20] (by decide) rfl dX9_addCall_28

set_option maxHeartbeats 4000000 in
set_option maxRecDepth 100000 in
theorem c773_L_addCall (l : Launch) (g : gG) (hlx : l.stackTraces = false) (q1 q3 q17 q21 q24 q26 q34 q35 q36 q37 q45 q46 q47 q48 q51 q52 q55 q56 q63 q64 q69 q70 : Nat) (x2 : Int32) (w7 w8 w9 w10 w11 w12 w13 w14 w15 w16 w31 w32 w33 w67 w68 : Value) (f22 : Nat → Option Nat) (f57 : Nat → Int32) (f58 : Nat → Int32) (f71 : Nat → Int32) (f72 : Nat → Int32) (f104 : Nat → Int64) (hf23 : f22 1 = some q24) (hf25 : f22 0 = some q26) (hf73 : f58 15 = 0) (hf74 : f58 0 = 0) (hf75 : f58 2 = 0) (hf76 : f58 3 = 0) (hf77 : f58 5 = 0) (hf78 : f58 6 = 0) (hf79 : f58 7 = 0) (hf80 : f58 8 = 0) (hf81 : f58 10 = 0) (hf82 : f58 11 = 0) (hf83 : f58 12 = 0) (hf84 : f58 13 = 0) (hf85 : f58 18 = 0) (hf86 : f58 20 = 0) (hf87 : f58 21 = 0) (hf88 : f58 22 = 0) (hf89 : f58 23 = 0) (hf90 : f58 25 = 0) (hf91 : f58 26 = 0) (hf92 : f58 27 = 0) (hf93 : f58 28 = 0) (hf94 : f58 30 = 0) (hf95 : f58 31 = 0) (hf96 : f58 32 = 0) (hf97 : f58 33 = 0) (hf98 : f58 35 = 0) (hf99 : f58 36 = 0) (hf100 : f58 37 = 0) (hf101 : f58 38 = 0) (hf102 : f58 17 = 0) (hf103 : f58 16 = 0) (h4 : (1 : Int32) ≤ x2) (h5 : x2 ≤ 9) (sz : Nat) : Met l yL_addCall [Cond.codeWith yL_addCall cL_addCall 6 (some .int) [(0, 12, 15, 13), (0, 12, 19, 15), (0, 12, 23, 17)]] ({ frames := 7, cells := 0, slots := 0, locals := 197 } : Room) (va_Pc [.ref q1, .int 3, .int 0, .int x2, .ref q3] (PZ g sz [(q3, .inl (g.2 1, 1, .inr (.inl f104))), (q37, .inl (g.2 0, 20, .inl f72)), (q48, .inl (g.2 0, 20, .inl f72)), (q36, .inl (g.2 0, 60, .inl f57)), (q47, .inl (g.2 0, 60, .inl f57)), (q70, .inl (g.2 0, 10, .inl f71)), (q64, .inl (g.2 0, 10, .inl f71)), (q69, .inl (g.2 0, 10, .inl f57)), (q63, .inl (g.2 0, 10, .inl f57)), (q35, .inr (9, [.ref q69, .ref q70, w67, w68])), (q46, .inr (9, [.ref q63, .ref q64, .int 1, .int 0])), (q56, .inl (g.2 0, 40, .inl f58)), (q52, .inl (g.2 0, 40, .inl f58)), (q55, .inl (g.2 0, 384, .inl f57)), (q51, .inl (g.2 0, 384, .inl f57)), (q34, .inr (5, [.ref q55, .ref q56])), (q45, .inr (5, [.ref q51, .ref q52])), (q26, .inr (8, [.ref q45, .ref q46, .ref q47, .ref q48, .int 0, .int 4, .int 0])), (q24, .inr (8, [.ref q34, .ref q35, .ref q36, .ref q37, w31, w32, w33])), (q21, .inl (g.2 3, 10, .inr (.inr (.inr (.inr f22))))), (q17, .inr (10, [.ref q21, .int 0, .int 0])), (q1, .inr (11, [.ref q17, w7, w8, w9, w10, w11, w12, w13, w14, w15, w16]))])) (QI g [(q3, .inl (g.2 1, 1, .inr (.inl f104))), (q37, .inl (g.2 0, 20, .inl f72)), (q48, .inl (g.2 0, 20, .inl f72)), (q36, .inl (g.2 0, 60, .inl f57)), (q47, .inl (g.2 0, 60, .inl f57)), (q70, .inl (g.2 0, 10, .inl f71)), (q64, .inl (g.2 0, 10, .inl f71)), (q69, .inl (g.2 0, 10, .inl f57)), (q63, .inl (g.2 0, 10, .inl f57)), (q35, .inr (9, [.ref q69, .ref q70, w67, w68])), (q46, .inr (9, [.ref q63, .ref q64, .int 1, .int 0])), (q56, .inl (g.2 0, 40, .inl f58)), (q52, .inl (g.2 0, 40, .inl f58)), (q55, .inl (g.2 0, 384, .inl f57)), (q51, .inl (g.2 0, 384, .inl f57)), (q34, .inr (5, [.ref q55, .ref q56])), (q45, .inr (5, [.ref q51, .ref q52])), (q26, .inr (8, [.ref q45, .ref q46, .ref q47, .ref q48, .int 0, .int 4, .int 0])), (q24, .inr (8, [.ref q34, .ref q35, .ref q36, .ref q37, w31, w32, w33])), (q21, .inl (g.2 3, 10, .inr (.inr (.inr (.inr f22))))), (q17, .inr (10, [.ref q21, .int 0, .int 0])), (q1, .inr (11, [.ref q17, w7, w8, w9, w10, w11, w12, w13, w14, w15, w16]))] sz 0 (fun _ => [(q3, .inl (g.2 1, 1, .inr (.inl (vp_updL f104 0 1))))])) 0 0 (va_A [(q3, .inl (g.2 1, 1, .inr (.inl f104))), (q37, .inl (g.2 0, 20, .inl f72)), (q48, .inl (g.2 0, 20, .inl f72)), (q36, .inl (g.2 0, 60, .inl f57)), (q47, .inl (g.2 0, 60, .inl f57)), (q70, .inl (g.2 0, 10, .inl f71)), (q64, .inl (g.2 0, 10, .inl f71)), (q69, .inl (g.2 0, 10, .inl f57)), (q63, .inl (g.2 0, 10, .inl f57)), (q35, .inr (9, [.ref q69, .ref q70, w67, w68])), (q46, .inr (9, [.ref q63, .ref q64, .int 1, .int 0])), (q56, .inl (g.2 0, 40, .inl f58)), (q52, .inl (g.2 0, 40, .inl f58)), (q55, .inl (g.2 0, 384, .inl f57)), (q51, .inl (g.2 0, 384, .inl f57)), (q34, .inr (5, [.ref q55, .ref q56])), (q45, .inr (5, [.ref q51, .ref q52])), (q26, .inr (8, [.ref q45, .ref q46, .ref q47, .ref q48, .int 0, .int 4, .int 0])), (q24, .inr (8, [.ref q34, .ref q35, .ref q36, .ref q37, w31, w32, w33])), (q21, .inl (g.2 3, 10, .inr (.inr (.inr (.inr f22))))), (q17, .inr (10, [.ref q21, .int 0, .int 0])), (q1, .inr (11, [.ref q17, w7, w8, w9, w10, w11, w12, w13, w14, w15, w16]))] sz) := by
  refine ofH (by decide) (Nat.le_of_ble_eq_true rfl) rfl ?_
  intro p e s m args below meth c A ls hAe hsz hx hb hml hr hlocks hin hown hE hP hD hA hS hl htb hz
  have hown : s.vm.findClass RL = some m.cls := hown
  refine lv_aload hx hb dL_addCall_0 (lv_at hl 4 rfl) ?_
  refine lv_iconst (v := 0) hx hb dL_addCall_2 (by decide) ?_
  refine lv_aload_n hx hb dL_addCall_3 rfl (lv_at hl 0 rfl) ?_
  refine lv_iload_n hx hb dL_addCall_4 rfl (lv_at hl 1 rfl) ?_
  refine lv_iload_n hx hb dL_addCall_5 rfl (lv_at hl 2 rfl) ?_
  refine lv_iload_n hx hb dL_addCall_6 rfl (lv_at hl 3 rfl) ?_
  refine g_i (wr := [(q3, .inl (g.2 1, 1, .inr (.inl f104)))]) (rV (rest := [.int 0, .ref q3]) hx hb hml hown hE hP hD 21 rfl rfl (c772_X9_addCall l g q1 q17 q21 q24 q26 q34 q35 q36 q37 q45 q46 q47 q48 q51 q52 q55 q56 q63 q64 q69 q70 x2 w7 w8 w9 w10 w11 w12 w13 w14 w15 w16 w31 w32 w33 w67 w68 f22 f57 f58 f71 f72 (hf23) (hf25) (hf73) (hf74) (hf75) (hf76) (hf77) (hf78) (hf79) (hf80) (hf81) (hf82) (hf83) (hf84) (hf85) (hf86) (hf87) (hf88) (hf89) (hf90) (hf91) (hf92) (hf93) (hf94) (hf95) (hf96) (hf97) (hf98) (hf99) (hf100) (hf101) (hf102) (hf103) h4 h5 s.heap.size) (kV_X9_addCall hE (e737 hE) rfl rfl ⟨(Nat.le_of_ble_eq_true rfl), (Nat.le_of_ble_eq_true rfl)⟩) [1, 2, 3, 4, 5, 6, 7, 8, 9, 10, 11, 12, 13, 14, 15, 16, 17, 18, 19, 20, 21] rfl (by decide) rfl hl.1 rfl (lv_room (Nat.le_of_ble_eq_true rfl)) dL_addCall_7 ⟨(Nat.le_of_ble_eq_true rfl), (Nat.le_of_ble_eq_true rfl)⟩) hP hD hS hA [1, 2, 3, 4, 5, 6, 7, 8, 9, 10, 11, 12, 13, 14, 15, 16, 17, 18, 19, 20, 21] [0] rfl rfl (by decide) (by decide) (fun u1 H locs hP hD hS => ?_)
  have hP : va_P g.1 vwCl [(q3, .inl (g.2 1, 1, .inr (.inl f104))), (q21, .inl (g.2 3, 10, .inr (.inr (.inr (.inr f22))))), (q26, .inr (8, [.ref q45, .ref q46, .ref q47, .ref q48, .int 0, .int 4, .int 0])), (q45, .inr (5, [.ref q51, .ref q52])), (q51, .inl (g.2 0, 384, .inl f57)), (q52, .inl (g.2 0, 40, .inl f58)), (q35, .inr (9, [.ref q69, .ref q70, .int 1, .int 0])), (q46, .inr (9, [.ref q63, .ref q64, .int 1, .int 0])), (q69, .inl (g.2 0, 10, .inl f57)), (q63, .inl (g.2 0, 10, .inl f57)), (q70, .inl (g.2 0, 10, .inl f71)), (q64, .inl (g.2 0, 10, .inl f71)), (q36, .inl (g.2 0, 60, .inl f57)), (q47, .inl (g.2 0, 60, .inl f57)), (q37, .inl (g.2 0, 20, .inl f72)), (q48, .inl (g.2 0, 20, .inl f72)), (q55, .inl (g.2 0, 384, .inl (upd (upd (upd (upd f57 144 2) 145 0) 146 x2) 147 (-1)))), (q24, .inr (8, [.ref q34, .ref q35, .ref q36, .ref q37, .int 0, .int 4, .int 0])), (q17, .inr (10, [.ref q21, .int 1, .int 1])), (q1, .inr (11, [.ref q17, w7, w8, w9, w10, w11, w12, w13, .int 0, .int 0, w16])), (q56, .inl (g.2 0, 40, .inl (upd (upd (upd (upd (upd (upd (upd (upd (upd (upd (upd f58 15 1) 1 0) 4 1) 9 1) 14 1) 18 1) 19 2) 24 1) 29 1) 34 1) 39 1))), (q34, .inr (5, [.ref q55, .ref q56]))] H := hP
  have hD : va_D A [(q3, .inl (g.2 1, 1, .inr (.inl f104))), (q21, .inl (g.2 3, 10, .inr (.inr (.inr (.inr f22))))), (q26, .inr (8, [.ref q45, .ref q46, .ref q47, .ref q48, .int 0, .int 4, .int 0])), (q45, .inr (5, [.ref q51, .ref q52])), (q51, .inl (g.2 0, 384, .inl f57)), (q52, .inl (g.2 0, 40, .inl f58)), (q35, .inr (9, [.ref q69, .ref q70, .int 1, .int 0])), (q46, .inr (9, [.ref q63, .ref q64, .int 1, .int 0])), (q69, .inl (g.2 0, 10, .inl f57)), (q63, .inl (g.2 0, 10, .inl f57)), (q70, .inl (g.2 0, 10, .inl f71)), (q64, .inl (g.2 0, 10, .inl f71)), (q36, .inl (g.2 0, 60, .inl f57)), (q47, .inl (g.2 0, 60, .inl f57)), (q37, .inl (g.2 0, 20, .inl f72)), (q48, .inl (g.2 0, 20, .inl f72)), (q55, .inl (g.2 0, 384, .inl (upd (upd (upd (upd f57 144 2) 145 0) 146 x2) 147 (-1)))), (q24, .inr (8, [.ref q34, .ref q35, .ref q36, .ref q37, .int 0, .int 4, .int 0])), (q17, .inr (10, [.ref q21, .int 1, .int 1])), (q1, .inr (11, [.ref q17, w7, w8, w9, w10, w11, w12, w13, .int 0, .int 0, w16])), (q56, .inl (g.2 0, 40, .inl (upd (upd (upd (upd (upd (upd (upd (upd (upd (upd (upd f58 15 1) 1 0) 4 1) 9 1) 14 1) 18 1) 19 2) 24 1) 29 1) 34 1) 39 1))), (q34, .inr (5, [.ref q55, .ref q56]))] := hD
  refine lv_i2l (v := 1) hx hb dL_addCall_10 (by decide) ?_
  refine x_last (ws' := [(q3, .inl (g.2 1, 1, .inr (.inl (vp_updL f104 0 1)))), (q21, .inl (g.2 3, 10, .inr (.inr (.inr (.inr f22))))), (q26, .inr (8, [.ref q45, .ref q46, .ref q47, .ref q48, .int 0, .int 4, .int 0])), (q45, .inr (5, [.ref q51, .ref q52])), (q51, .inl (g.2 0, 384, .inl f57)), (q52, .inl (g.2 0, 40, .inl f58)), (q35, .inr (9, [.ref q69, .ref q70, .int 1, .int 0])), (q46, .inr (9, [.ref q63, .ref q64, .int 1, .int 0])), (q69, .inl (g.2 0, 10, .inl f57)), (q63, .inl (g.2 0, 10, .inl f57)), (q70, .inl (g.2 0, 10, .inl f71)), (q64, .inl (g.2 0, 10, .inl f71)), (q36, .inl (g.2 0, 60, .inl f57)), (q47, .inl (g.2 0, 60, .inl f57)), (q37, .inl (g.2 0, 20, .inl f72)), (q48, .inl (g.2 0, 20, .inl f72)), (q55, .inl (g.2 0, 384, .inl (upd (upd (upd (upd f57 144 2) 145 0) 146 x2) 147 (-1)))), (q24, .inr (8, [.ref q34, .ref q35, .ref q36, .ref q37, .int 0, .int 4, .int 0])), (q17, .inr (10, [.ref q21, .int 1, .int 1])), (q1, .inr (11, [.ref q17, w7, w8, w9, w10, w11, w12, w13, .int 0, .int 0, w16])), (q56, .inl (g.2 0, 40, .inl (upd (upd (upd (upd (upd (upd (upd (upd (upd (upd (upd f58 15 1) 1 0) 4 1) 9 1) 14 1) 18 1) 19 2) 24 1) 29 1) 34 1) 39 1))), (q34, .inr (5, [.ref q55, .ref q56]))]) hx hb hE hP hD hS 0 rfl 0 (x_in (by decide)) (by decide) dL_addCall_11 rfl (fun H locs hP hD hS => ?_)
  refine lv_goto (tgt := 27) hx hb dL_addCall_12 (by decide) ?_
  refine lv_iconst (v := 0) hx hb dL_addCall_27 (by decide) ?_
  exact x_zret hx hb hr rfl rfl hlocks hP hD hS hAe hsz (Nat.le_of_ble_eq_true rfl) (Nat.le_of_ble_eq_true rfl) (fun _ => 0) [0] (by decide) rfl dL_addCall_28

set_option maxHeartbeats 4000000 in
set_option maxRecDepth 100000 in
theorem c774_X10_isRanged (l : Launch) (g : gG) (x1 x2 : Int32) (h3 : (0 : Int32) ≤ x1) (h4 : x1 ≤ 2) (h5 : (1 : Int32) ≤ x2) (h6 : x2 ≤ 9) (sz : Nat) : Met l yX10_isRanged [Cond.code yX10_isRanged cX10_isRanged 5 (some .boolean)] ({ frames := 1, cells := 0, slots := 0, locals := 22 } : Room) (va_Pc [.int 3, .int 2, .int x1, .int x2, .int (-1)] (PX g sz [])) (QI g [] sz 1 (fun _ => [])) 0 0 (va_A [] sz) := by
  refine ofN (by decide) (Nat.le_of_ble_eq_true rfl) rfl ?_
  intro p e s m args below meth c A ls hAe hsz hx hb hml hr hlocks hin hown hE hP hD hA hS hl
  have hown : s.vm.findClass RX10 = some m.cls := hown
  refine lv_iload_n hx hb dX10_isRanged_0 rfl (lv_at hl 1 rfl) ?_
  refine lv_if_ne (tgt := 43) hx hb dX10_isRanged_1 (by decide) (fun _ => ?_) (fun h => absurd h (by decide))
  refine lv_iload_n hx hb dX10_isRanged_43 rfl (lv_at hl 1 rfl) ?_
  refine lv_iconst (v := 1) hx hb dX10_isRanged_44 (by decide) ?_
  refine lv_icmp_ne (tgt := 58) hx hb dX10_isRanged_45 (by decide) (fun _ => ?_) (fun h => absurd h (by decide))
  refine lv_iload_n hx hb dX10_isRanged_58 rfl (lv_at hl 2 rfl) ?_
  refine lv_iconst (v := 0) hx hb dX10_isRanged_59 (by decide) ?_
  refine lv_iload_n hx hb dX10_isRanged_60 rfl (lv_at hl 0 rfl) ?_
  refine lv_iconst (v := 1) hx hb dX10_isRanged_61 (by decide) ?_
  refine x_isub (v := 2) hx hb dX10_isRanged_62 (by decide) ?_
  refine g0_i (rS (rest := []) hx hb hml hown hE hP hD (c755_X10_in l g x1 h3 h4 s.heap.size) (kS_X10_in hE (e1431 hE) rfl rfl ⟨(Nat.le_of_ble_eq_true rfl), (Nat.le_of_ble_eq_true rfl)⟩) [] rfl (by decide) rfl hl.1 rfl (lv_room (Nat.le_of_ble_eq_true rfl)) dX10_isRanged_63 ⟨(Nat.le_of_ble_eq_true rfl), (Nat.le_of_ble_eq_true rfl)⟩) hP hD hS hA (fun u9 H locs hP hS => ?_)
  refine lv_if_eq (tgt := 83) hx hb dX10_isRanged_66 (by decide) (fun h => absurd h (by decide)) (fun _ => ?_)
  refine lv_iload_n hx hb dX10_isRanged_69 rfl (lv_at hl 3 rfl) ?_
  refine lv_iconst (v := 1) hx hb dX10_isRanged_70 (by decide) ?_
  refine lv_bipush (v := 9) hx hb dX10_isRanged_71 (by decide) ?_
  refine g0_i (rS (rest := []) hx hb hml hown hE hP hD (c196_X10_in l g x2 h5 h6 H.size) (kS_X10_in hE (e1431 hE) rfl rfl ⟨(Nat.le_of_ble_eq_true rfl), (Nat.le_of_ble_eq_true rfl)⟩) [] rfl (by decide) rfl hl.1 rfl (lv_room (Nat.le_of_ble_eq_true rfl)) dX10_isRanged_73 ⟨(Nat.le_of_ble_eq_true rfl), (Nat.le_of_ble_eq_true rfl)⟩) hP hD hS hA (fun u9 H locs hP hS => ?_)
  refine lv_if_eq (tgt := 83) hx hb dX10_isRanged_76 (by decide) (fun h => absurd h (by decide)) (fun _ => ?_)
  refine lv_iconst (v := 1) hx hb dX10_isRanged_79 (by decide) ?_
  refine lv_goto (tgt := 84) hx hb dX10_isRanged_80 (by decide) ?_
  exact x_zret hx hb hr rfl rfl hlocks hP hD hS hAe hsz (Nat.le_of_ble_eq_true rfl) (Nat.le_of_ble_eq_true rfl) (fun _ => 0) [] (by decide) rfl dX10_isRanged_84

set_option maxHeartbeats 4000000 in
set_option maxRecDepth 100000 in
theorem c775_X10_of (l : Launch) (g : gG) (q1 q39 : Nat) (w3 w4 w5 w6 w7 w8 w9 w10 w11 w12 w13 w14 w15 w16 w17 w18 w19 w20 w21 w22 w23 w24 w25 w26 w27 w28 w29 w30 w31 w32 w33 w34 w35 w36 w37 w38 : Value) (f40 : Nat → Int32) (hf41 : f40 148 = 2) (sz : Nat) : Met l yX10_of [Cond.code yX10_of cX10_of 4 (some .int)] ({ frames := 1, cells := 0, slots := 0, locals := 20 } : Room) (va_Pc [.ref q1, .int 3, .int 0, .int 0] (PX g sz [(q39, .inl (g.2 0, 497, .inl f40)), (q1, .inr (12, [.ref q39, w3, w4, w5, w6, w7, w8, w9, w10, w11, w12, w13, w14, w15, w16, w17, w18, w19, w20, w21, w22, w23, w24, w25, w26, w27, w28, w29, w30, w31, w32, w33, w34, w35, w36, w37, w38]))])) (QI g [(q39, .inl (g.2 0, 497, .inl f40)), (q1, .inr (12, [.ref q39, w3, w4, w5, w6, w7, w8, w9, w10, w11, w12, w13, w14, w15, w16, w17, w18, w19, w20, w21, w22, w23, w24, w25, w26, w27, w28, w29, w30, w31, w32, w33, w34, w35, w36, w37, w38]))] sz 2 (fun _ => [(q39, .inl (g.2 0, 497, .inl f40)), (q1, .inr (12, [.ref q39, w3, w4, w5, w6, w7, w8, w9, w10, w11, w12, w13, w14, w15, w16, w17, w18, w19, w20, w21, w22, w23, w24, w25, w26, w27, w28, w29, w30, w31, w32, w33, w34, w35, w36, w37, w38]))])) 0 0 (va_A [(q39, .inl (g.2 0, 497, .inl f40)), (q1, .inr (12, [.ref q39, w3, w4, w5, w6, w7, w8, w9, w10, w11, w12, w13, w14, w15, w16, w17, w18, w19, w20, w21, w22, w23, w24, w25, w26, w27, w28, w29, w30, w31, w32, w33, w34, w35, w36, w37, w38]))] sz) := by
  refine ofN (by decide) (Nat.le_of_ble_eq_true rfl) rfl ?_
  intro p e s m args below meth c A ls hAe hsz hx hb hml hr hlocks hin hown hE hP hD hA hS hl
  have hown : s.vm.findClass RX10 = some m.cls := hown
  refine lv_aload_n hx hb dX10_of_0 rfl (lv_at hl 0 rfl) ?_
  refine gf_RX10_9 hx hb hown hE hP 1 rfl rfl dX10_of_1 ?_
  refine lv_iload_n hx hb dX10_of_4 rfl (lv_at hl 1 rfl) ?_
  refine g0_i (rS (rest := [.ref q39]) hx hb hml hown hE hP hD (c207_X10_itemsAt l g s.heap.size) (kS_X10_itemsAt hE (e1445 hE) rfl rfl ⟨(Nat.le_of_ble_eq_true rfl), (Nat.le_of_ble_eq_true rfl)⟩) [] rfl (by decide) rfl hl.1 rfl (lv_room (Nat.le_of_ble_eq_true rfl)) dX10_of_5 ⟨(Nat.le_of_ble_eq_true rfl), (Nat.le_of_ble_eq_true rfl)⟩) hP hD hS hA (fun u9 H locs hP hS => ?_)
  refine lv_iconst (v := 1) hx hb dX10_of_8 (by decide) ?_
  refine x_iadd (v := 148) hx hb dX10_of_9 (by decide) ?_
  refine lv_iconst (v := 4) hx hb dX10_of_10 (by decide) ?_
  refine lv_iload_n hx hb dX10_of_11 rfl (lv_at hl 2 rfl) ?_
  refine x_imul (v := 0) hx hb dX10_of_12 (by decide) ?_
  refine x_iadd (v := 148) hx hb dX10_of_13 (by decide) ?_
  refine lv_iload_n hx hb dX10_of_14 rfl (lv_at hl 3 rfl) ?_
  refine x_iadd (v := 148) hx hb dX10_of_15 (by decide) ?_
  refine x_iald (v := 2) hx hb hE hP 0 rfl 148 (x_in (by decide)) (by decide) hf41 dX10_of_16 ?_
  exact x_zret hx hb hr rfl rfl hlocks hP hD hS hAe hsz (Nat.le_of_ble_eq_true rfl) (Nat.le_of_ble_eq_true rfl) (fun _ => 0) [0, 1] (by decide) rfl dX10_of_17

set_option maxHeartbeats 4000000 in
set_option maxRecDepth 100000 in
theorem c776_X10_of (l : Launch) (g : gG) (q1 q39 : Nat) (x42 : Int32) (w3 w4 w5 w6 w7 w8 w9 w10 w11 w12 w13 w14 w15 w16 w17 w18 w19 w20 w21 w22 w23 w24 w25 w26 w27 w28 w29 w30 w31 w32 w33 w34 w35 w36 w37 w38 : Value) (f40 : Nat → Int32) (hf41 : f40 149 = x42) (sz : Nat) : Met l yX10_of [Cond.code yX10_of cX10_of 4 (some .int)] ({ frames := 1, cells := 0, slots := 0, locals := 20 } : Room) (va_Pc [.ref q1, .int 3, .int 0, .int 1] (PX g sz [(q39, .inl (g.2 0, 497, .inl f40)), (q1, .inr (12, [.ref q39, w3, w4, w5, w6, w7, w8, w9, w10, w11, w12, w13, w14, w15, w16, w17, w18, w19, w20, w21, w22, w23, w24, w25, w26, w27, w28, w29, w30, w31, w32, w33, w34, w35, w36, w37, w38]))])) (QI g [(q39, .inl (g.2 0, 497, .inl f40)), (q1, .inr (12, [.ref q39, w3, w4, w5, w6, w7, w8, w9, w10, w11, w12, w13, w14, w15, w16, w17, w18, w19, w20, w21, w22, w23, w24, w25, w26, w27, w28, w29, w30, w31, w32, w33, w34, w35, w36, w37, w38]))] sz x42 (fun _ => [(q39, .inl (g.2 0, 497, .inl f40)), (q1, .inr (12, [.ref q39, w3, w4, w5, w6, w7, w8, w9, w10, w11, w12, w13, w14, w15, w16, w17, w18, w19, w20, w21, w22, w23, w24, w25, w26, w27, w28, w29, w30, w31, w32, w33, w34, w35, w36, w37, w38]))])) 0 0 (va_A [(q39, .inl (g.2 0, 497, .inl f40)), (q1, .inr (12, [.ref q39, w3, w4, w5, w6, w7, w8, w9, w10, w11, w12, w13, w14, w15, w16, w17, w18, w19, w20, w21, w22, w23, w24, w25, w26, w27, w28, w29, w30, w31, w32, w33, w34, w35, w36, w37, w38]))] sz) := by
  refine ofN (by decide) (Nat.le_of_ble_eq_true rfl) rfl ?_
  intro p e s m args below meth c A ls hAe hsz hx hb hml hr hlocks hin hown hE hP hD hA hS hl
  have hown : s.vm.findClass RX10 = some m.cls := hown
  refine lv_aload_n hx hb dX10_of_0 rfl (lv_at hl 0 rfl) ?_
  refine gf_RX10_9 hx hb hown hE hP 1 rfl rfl dX10_of_1 ?_
  refine lv_iload_n hx hb dX10_of_4 rfl (lv_at hl 1 rfl) ?_
  refine g0_i (rS (rest := [.ref q39]) hx hb hml hown hE hP hD (c207_X10_itemsAt l g s.heap.size) (kS_X10_itemsAt hE (e1445 hE) rfl rfl ⟨(Nat.le_of_ble_eq_true rfl), (Nat.le_of_ble_eq_true rfl)⟩) [] rfl (by decide) rfl hl.1 rfl (lv_room (Nat.le_of_ble_eq_true rfl)) dX10_of_5 ⟨(Nat.le_of_ble_eq_true rfl), (Nat.le_of_ble_eq_true rfl)⟩) hP hD hS hA (fun u9 H locs hP hS => ?_)
  refine lv_iconst (v := 1) hx hb dX10_of_8 (by decide) ?_
  refine x_iadd (v := 148) hx hb dX10_of_9 (by decide) ?_
  refine lv_iconst (v := 4) hx hb dX10_of_10 (by decide) ?_
  refine lv_iload_n hx hb dX10_of_11 rfl (lv_at hl 2 rfl) ?_
  refine x_imul (v := 0) hx hb dX10_of_12 (by decide) ?_
  refine x_iadd (v := 148) hx hb dX10_of_13 (by decide) ?_
  refine lv_iload_n hx hb dX10_of_14 rfl (lv_at hl 3 rfl) ?_
  refine x_iadd (v := 149) hx hb dX10_of_15 (by decide) ?_
  refine x_iald (v := x42) hx hb hE hP 0 rfl 149 (x_in (by decide)) (by decide) hf41 dX10_of_16 ?_
  exact x_zret hx hb hr rfl rfl hlocks hP hD hS hAe hsz (Nat.le_of_ble_eq_true rfl) (Nat.le_of_ble_eq_true rfl) (fun _ => 0) [0, 1] (by decide) rfl dX10_of_17

set_option maxHeartbeats 4000000 in
set_option maxRecDepth 100000 in
theorem c777_X10_layLengths (l : Launch) (g : gG) (q1 q39 q42 q45 : Nat) (x53 x55 : Int32) (w3 w4 w5 w6 w7 w8 w11 w12 w13 w14 w15 w16 w17 w18 w19 w20 w21 w22 w23 w24 w25 w26 w27 w28 w29 w30 w31 w32 w33 w34 w35 w36 w37 w38 : Value) (f40 : Nat → Int32) (hf41 : f40 0 = 0) (hf46 : f40 49 = 0) (hf48 : f40 98 = 0) (hf50 : f40 147 = 1) (hf51 : f40 148 = 2) (hf52 : f40 150 = x53) (hf54 : f40 149 = x55) (hf59 : f40 196 = 0) (hf61 : f40 245 = 0) (hf63 : f40 294 = 0) (hf65 : f40 343 = 0) (h56 : (0 : Int32) ≤ x55) (h57 : x55 < 8) (sz : Nat) : Met l yX10_layLengths [Cond.code yX10_layLengths cX10_layLengths 6 none] ({ frames := 2, cells := 0, slots := 0, locals := 43 } : Room) (va_Pc [.ref q1] (PX g sz [(q45, .inl (g.2 0, 8, .inl (fun _ => 0))), (q42, .inl (g.2 0, 8, .inl (fun _ => 0))), (q39, .inl (g.2 0, 497, .inl f40)), (q1, .inr (12, [.ref q39, w3, w4, w5, w6, w7, w8, .ref q42, .ref q45, w11, w12, w13, w14, w15, w16, w17, w18, w19, w20, w21, w22, w23, w24, w25, w26, w27, w28, w29, w30, w31, w32, w33, w34, w35, w36, w37, w38]))])) (QV g [(q45, .inl (g.2 0, 8, .inl (fun _ => 0))), (q42, .inl (g.2 0, 8, .inl (fun _ => 0))), (q39, .inl (g.2 0, 497, .inl f40)), (q1, .inr (12, [.ref q39, w3, w4, w5, w6, w7, w8, .ref q42, .ref q45, w11, w12, w13, w14, w15, w16, w17, w18, w19, w20, w21, w22, w23, w24, w25, w26, w27, w28, w29, w30, w31, w32, w33, w34, w35, w36, w37, w38]))] sz (fun _ => [(q45, .inl (g.2 0, 8, .inl (fun _ => 0))), (q42, .inl (g.2 0, 8, .inl (fun _ => 0))), (q39, .inl (g.2 0, 497, .inl f40)), (q1, .inr (12, [.ref q39, w3, w4, w5, w6, w7, w8, .ref q42, .ref q45, w11, w12, w13, w14, w15, w16, w17, w18, w19, w20, w21, w22, w23, w24, w25, w26, w27, w28, w29, w30, w31, w32, w33, w34, w35, w36, w37, w38]))])) 0 0 (va_A [(q45, .inl (g.2 0, 8, .inl (fun _ => 0))), (q42, .inl (g.2 0, 8, .inl (fun _ => 0))), (q39, .inl (g.2 0, 497, .inl f40)), (q1, .inr (12, [.ref q39, w3, w4, w5, w6, w7, w8, .ref q42, .ref q45, w11, w12, w13, w14, w15, w16, w17, w18, w19, w20, w21, w22, w23, w24, w25, w26, w27, w28, w29, w30, w31, w32, w33, w34, w35, w36, w37, w38]))] sz) := by
  refine ofN (by decide) (Nat.le_of_ble_eq_true rfl) rfl ?_
  intro p e s m args below meth c A ls hAe hsz hx hb hml hr hlocks hin hown hE hP hD hA hS hl
  have hown : s.vm.findClass RX10 = some m.cls := hown
  refine lv_iconst (v := 0) hx hb dX10_layLengths_0 (by decide) ?_
  refine lv_istore_n (lv' := [(1, .int 0), (0, .ref q1)]) hx hb dX10_layLengths_1 rfl hl (by decide) rfl (fun ls hl => ?_)
  refine lv_iload_n hx hb dX10_layLengths_2 rfl (lv_at hl 0 rfl) ?_
  refine lv_bipush (v := 8) hx hb dX10_layLengths_3 (by decide) ?_
  refine lv_icmp_ge (tgt := 164) hx hb dX10_layLengths_5 (by decide) (fun h => absurd h (by decide)) (fun _ => ?_)
  refine lv_iconst (v := 0) hx hb dX10_layLengths_8 (by decide) ?_
  refine lv_istore_n (lv' := [(2, .int 0), (1, .int 0), (0, .ref q1)]) hx hb dX10_layLengths_9 rfl hl (by decide) rfl (fun ls hl => ?_)
  refine lv_iconst (v := 0) hx hb dX10_layLengths_10 (by decide) ?_
  refine lv_istore_n (lv' := [(3, .int 0), (2, .int 0), (1, .int 0), (0, .ref q1)]) hx hb dX10_layLengths_11 rfl hl (by decide) rfl (fun ls hl => ?_)
  refine lv_iconst (v := 0) hx hb dX10_layLengths_12 (by decide) ?_
  refine lv_istore (lv' := [(4, .int 0), (3, .int 0), (2, .int 0), (1, .int 0), (0, .ref q1)]) hx hb dX10_layLengths_13 hl (by decide) rfl (fun ls hl => ?_)
  refine lv_iload hx hb dX10_layLengths_15 (lv_at hl 0 rfl) ?_
  refine lv_aload_n hx hb dX10_layLengths_17 rfl (lv_at hl 4 rfl) ?_
  refine lv_iload_n hx hb dX10_layLengths_18 rfl (lv_at hl 3 rfl) ?_
  refine g_i (wr := [(q45, .inl (g.2 0, 8, .inl (fun _ => 0))), (q42, .inl (g.2 0, 8, .inl (fun _ => 0)))]) (rV (rest := [.int 0]) hx hb hml hown hE hP hD 3 rfl rfl (c247_X10_many l g q1 q39 w3 w4 w5 w6 w7 w8 (.ref q42) (.ref q45) w11 w12 w13 w14 w15 w16 w17 w18 w19 w20 w21 w22 w23 w24 w25 w26 w27 w28 w29 w30 w31 w32 w33 w34 w35 w36 w37 w38 f40 (hf41) s.heap.size) (kV_X10_many hE (e1456 hE) rfl rfl ⟨(Nat.le_of_ble_eq_true rfl), (Nat.le_of_ble_eq_true rfl)⟩) [2, 3] rfl (by decide) rfl hl.1 rfl (lv_room (Nat.le_of_ble_eq_true rfl)) dX10_layLengths_19 ⟨(Nat.le_of_ble_eq_true rfl), (Nat.le_of_ble_eq_true rfl)⟩) hP hD hS hA [2, 3] [0, 1] rfl rfl (by decide) (by decide) (fun u1 H locs hP hD hS => ?_)
  have hP : va_P g.1 vwCl [(q45, .inl (g.2 0, 8, .inl (fun _ => 0))), (q42, .inl (g.2 0, 8, .inl (fun _ => 0))), (q39, .inl (g.2 0, 497, .inl f40)), (q1, .inr (12, [.ref q39, w3, w4, w5, w6, w7, w8, .ref q42, .ref q45, w11, w12, w13, w14, w15, w16, w17, w18, w19, w20, w21, w22, w23, w24, w25, w26, w27, w28, w29, w30, w31, w32, w33, w34, w35, w36, w37, w38]))] H := hP
  have hD : va_D A [(q45, .inl (g.2 0, 8, .inl (fun _ => 0))), (q42, .inl (g.2 0, 8, .inl (fun _ => 0))), (q39, .inl (g.2 0, 497, .inl f40)), (q1, .inr (12, [.ref q39, w3, w4, w5, w6, w7, w8, .ref q42, .ref q45, w11, w12, w13, w14, w15, w16, w17, w18, w19, w20, w21, w22, w23, w24, w25, w26, w27, w28, w29, w30, w31, w32, w33, w34, w35, w36, w37, w38]))] := hD
  refine lv_icmp_ge (tgt := 134) hx hb dX10_layLengths_22 (by decide) (fun _ => ?_) (fun h => absurd (by decide) h)
  refine lv_aload_n hx hb dX10_layLengths_134 rfl (lv_at hl 4 rfl) ?_
  refine gf_RX10_22 hx hb hown hE hP 3 rfl rfl dX10_layLengths_135 ?_
  refine lv_iload_n hx hb dX10_layLengths_138 rfl (lv_at hl 3 rfl) ?_
  refine lv_iload_n hx hb dX10_layLengths_139 rfl (lv_at hl 2 rfl) ?_
  refine lv_ldc (v := 200000) hx hb hown (e1464 hE) dX10_layLengths_140 ?_
  refine x_mmin (v := 0) hx hb (by rw [hml]; exact hl.1.symm) hown (e1465 hE) (e362 hE) (e9 hE) (e363 hE) (Nat.le_of_ble_eq_true rfl) (Nat.le_of_ble_eq_true rfl) (Nat.le_of_ble_eq_true rfl) (Nat.le_of_ble_eq_true rfl) (by decide) dX10_layLengths_142 ?_
  refine x_iast_same hx hb hE hP hD hS 1 rfl 0 (x_in (by decide)) (by decide) rfl dX10_layLengths_145 (fun H locs hP hD hS => ?_)
  refine lv_aload_n hx hb dX10_layLengths_146 rfl (lv_at hl 4 rfl) ?_
  refine gf_RX10_25 hx hb hown hE hP 3 rfl rfl dX10_layLengths_147 ?_
  refine lv_iload_n hx hb dX10_layLengths_150 rfl (lv_at hl 3 rfl) ?_
  refine lv_iload_n hx hb dX10_layLengths_151 rfl (lv_at hl 1 rfl) ?_
  refine lv_ldc (v := 200000) hx hb hown (e1464 hE) dX10_layLengths_152 ?_
  refine x_mmin (v := 0) hx hb (by rw [hml]; exact hl.1.symm) hown (e1465 hE) (e362 hE) (e9 hE) (e363 hE) (Nat.le_of_ble_eq_true rfl) (Nat.le_of_ble_eq_true rfl) (Nat.le_of_ble_eq_true rfl) (Nat.le_of_ble_eq_true rfl) (by decide) dX10_layLengths_154 ?_
  refine x_iast_same hx hb hE hP hD hS 0 rfl 0 (x_in (by decide)) (by decide) rfl dX10_layLengths_157 (fun H locs hP hD hS => ?_)
  refine lv_iinc (v := 1) (lv' := [(1, .int 1), (4, .int 0), (3, .int 0), (2, .int 0), (0, .ref q1)]) hx hb dX10_layLengths_158 hl (k := 3) rfl (by decide) (by decide) rfl (fun ls hl => ?_)
  refine lv_goto (tgt := 2) hx hb dX10_layLengths_161 (by decide) ?_
  refine lv_iload_n hx hb dX10_layLengths_2 rfl (lv_at hl 0 rfl) ?_
  refine lv_bipush (v := 8) hx hb dX10_layLengths_3 (by decide) ?_
  refine lv_icmp_ge (tgt := 164) hx hb dX10_layLengths_5 (by decide) (fun h => absurd h (by decide)) (fun _ => ?_)
  refine lv_iconst (v := 0) hx hb dX10_layLengths_8 (by decide) ?_
  refine lv_istore_n (lv' := [(2, .int 0), (1, .int 1), (4, .int 0), (3, .int 0), (0, .ref q1)]) hx hb dX10_layLengths_9 rfl hl (by decide) rfl (fun ls hl => ?_)
  refine lv_iconst (v := 0) hx hb dX10_layLengths_10 (by decide) ?_
  refine lv_istore_n (lv' := [(3, .int 0), (2, .int 0), (1, .int 1), (4, .int 0), (0, .ref q1)]) hx hb dX10_layLengths_11 rfl hl (by decide) rfl (fun ls hl => ?_)
  refine lv_iconst (v := 0) hx hb dX10_layLengths_12 (by decide) ?_
  refine lv_istore (lv' := [(4, .int 0), (3, .int 0), (2, .int 0), (1, .int 1), (0, .ref q1)]) hx hb dX10_layLengths_13 hl (by decide) rfl (fun ls hl => ?_)
  refine lv_iload hx hb dX10_layLengths_15 (lv_at hl 0 rfl) ?_
  refine lv_aload_n hx hb dX10_layLengths_17 rfl (lv_at hl 4 rfl) ?_
  refine lv_iload_n hx hb dX10_layLengths_18 rfl (lv_at hl 3 rfl) ?_
  refine g_i (wr := [(q45, .inl (g.2 0, 8, .inl (fun _ => 0))), (q42, .inl (g.2 0, 8, .inl (fun _ => 0)))]) (rV (rest := [.int 0]) hx hb hml hown hE hP hD 3 rfl rfl (c204_X10_many l g q1 q39 w3 w4 w5 w6 w7 w8 (.ref q42) (.ref q45) w11 w12 w13 w14 w15 w16 w17 w18 w19 w20 w21 w22 w23 w24 w25 w26 w27 w28 w29 w30 w31 w32 w33 w34 w35 w36 w37 w38 f40 (hf46) H.size) (kV_X10_many hE (e1456 hE) rfl rfl ⟨(Nat.le_of_ble_eq_true rfl), (Nat.le_of_ble_eq_true rfl)⟩) [2, 3] rfl (by decide) rfl hl.1 rfl (lv_room (Nat.le_of_ble_eq_true rfl)) dX10_layLengths_19 ⟨(Nat.le_of_ble_eq_true rfl), (Nat.le_of_ble_eq_true rfl)⟩) hP hD hS hA [2, 3] [0, 1] rfl rfl (by decide) (by decide) (fun u2 H locs hP hD hS => ?_)
  have hP : va_P g.1 vwCl [(q45, .inl (g.2 0, 8, .inl (fun _ => 0))), (q42, .inl (g.2 0, 8, .inl (fun _ => 0))), (q39, .inl (g.2 0, 497, .inl f40)), (q1, .inr (12, [.ref q39, w3, w4, w5, w6, w7, w8, .ref q42, .ref q45, w11, w12, w13, w14, w15, w16, w17, w18, w19, w20, w21, w22, w23, w24, w25, w26, w27, w28, w29, w30, w31, w32, w33, w34, w35, w36, w37, w38]))] H := hP
  have hD : va_D A [(q45, .inl (g.2 0, 8, .inl (fun _ => 0))), (q42, .inl (g.2 0, 8, .inl (fun _ => 0))), (q39, .inl (g.2 0, 497, .inl f40)), (q1, .inr (12, [.ref q39, w3, w4, w5, w6, w7, w8, .ref q42, .ref q45, w11, w12, w13, w14, w15, w16, w17, w18, w19, w20, w21, w22, w23, w24, w25, w26, w27, w28, w29, w30, w31, w32, w33, w34, w35, w36, w37, w38]))] := hD
  refine lv_icmp_ge (tgt := 134) hx hb dX10_layLengths_22 (by decide) (fun _ => ?_) (fun h => absurd (by decide) h)
  refine lv_aload_n hx hb dX10_layLengths_134 rfl (lv_at hl 4 rfl) ?_
  refine gf_RX10_22 hx hb hown hE hP 3 rfl rfl dX10_layLengths_135 ?_
  refine lv_iload_n hx hb dX10_layLengths_138 rfl (lv_at hl 3 rfl) ?_
  refine lv_iload_n hx hb dX10_layLengths_139 rfl (lv_at hl 2 rfl) ?_
  refine lv_ldc (v := 200000) hx hb hown (e1464 hE) dX10_layLengths_140 ?_
  refine x_mmin (v := 0) hx hb (by rw [hml]; exact hl.1.symm) hown (e1465 hE) (e362 hE) (e9 hE) (e363 hE) (Nat.le_of_ble_eq_true rfl) (Nat.le_of_ble_eq_true rfl) (Nat.le_of_ble_eq_true rfl) (Nat.le_of_ble_eq_true rfl) (by decide) dX10_layLengths_142 ?_
  refine x_iast_same hx hb hE hP hD hS 1 rfl 1 (x_in (by decide)) (by decide) rfl dX10_layLengths_145 (fun H locs hP hD hS => ?_)
  refine lv_aload_n hx hb dX10_layLengths_146 rfl (lv_at hl 4 rfl) ?_
  refine gf_RX10_25 hx hb hown hE hP 3 rfl rfl dX10_layLengths_147 ?_
  refine lv_iload_n hx hb dX10_layLengths_150 rfl (lv_at hl 3 rfl) ?_
  refine lv_iload_n hx hb dX10_layLengths_151 rfl (lv_at hl 1 rfl) ?_
  refine lv_ldc (v := 200000) hx hb hown (e1464 hE) dX10_layLengths_152 ?_
  refine x_mmin (v := 0) hx hb (by rw [hml]; exact hl.1.symm) hown (e1465 hE) (e362 hE) (e9 hE) (e363 hE) (Nat.le_of_ble_eq_true rfl) (Nat.le_of_ble_eq_true rfl) (Nat.le_of_ble_eq_true rfl) (Nat.le_of_ble_eq_true rfl) (by decide) dX10_layLengths_154 ?_
  refine x_iast_same hx hb hE hP hD hS 0 rfl 1 (x_in (by decide)) (by decide) rfl dX10_layLengths_157 (fun H locs hP hD hS => ?_)
  refine lv_iinc (v := 2) (lv' := [(1, .int 2), (4, .int 0), (3, .int 0), (2, .int 0), (0, .ref q1)]) hx hb dX10_layLengths_158 hl (k := 3) rfl (by decide) (by decide) rfl (fun ls hl => ?_)
  refine lv_goto (tgt := 2) hx hb dX10_layLengths_161 (by decide) ?_
  refine lv_iload_n hx hb dX10_layLengths_2 rfl (lv_at hl 0 rfl) ?_
  refine lv_bipush (v := 8) hx hb dX10_layLengths_3 (by decide) ?_
  refine lv_icmp_ge (tgt := 164) hx hb dX10_layLengths_5 (by decide) (fun h => absurd h (by decide)) (fun _ => ?_)
  refine lv_iconst (v := 0) hx hb dX10_layLengths_8 (by decide) ?_
  refine lv_istore_n (lv' := [(2, .int 0), (1, .int 2), (4, .int 0), (3, .int 0), (0, .ref q1)]) hx hb dX10_layLengths_9 rfl hl (by decide) rfl (fun ls hl => ?_)
  refine lv_iconst (v := 0) hx hb dX10_layLengths_10 (by decide) ?_
  refine lv_istore_n (lv' := [(3, .int 0), (2, .int 0), (1, .int 2), (4, .int 0), (0, .ref q1)]) hx hb dX10_layLengths_11 rfl hl (by decide) rfl (fun ls hl => ?_)
  refine lv_iconst (v := 0) hx hb dX10_layLengths_12 (by decide) ?_
  refine lv_istore (lv' := [(4, .int 0), (3, .int 0), (2, .int 0), (1, .int 2), (0, .ref q1)]) hx hb dX10_layLengths_13 hl (by decide) rfl (fun ls hl => ?_)
  refine lv_iload hx hb dX10_layLengths_15 (lv_at hl 0 rfl) ?_
  refine lv_aload_n hx hb dX10_layLengths_17 rfl (lv_at hl 4 rfl) ?_
  refine lv_iload_n hx hb dX10_layLengths_18 rfl (lv_at hl 3 rfl) ?_
  refine g_i (wr := [(q45, .inl (g.2 0, 8, .inl (fun _ => 0))), (q42, .inl (g.2 0, 8, .inl (fun _ => 0)))]) (rV (rest := [.int 0]) hx hb hml hown hE hP hD 3 rfl rfl (c206_X10_many l g q1 q39 w3 w4 w5 w6 w7 w8 (.ref q42) (.ref q45) w11 w12 w13 w14 w15 w16 w17 w18 w19 w20 w21 w22 w23 w24 w25 w26 w27 w28 w29 w30 w31 w32 w33 w34 w35 w36 w37 w38 f40 (hf48) H.size) (kV_X10_many hE (e1456 hE) rfl rfl ⟨(Nat.le_of_ble_eq_true rfl), (Nat.le_of_ble_eq_true rfl)⟩) [2, 3] rfl (by decide) rfl hl.1 rfl (lv_room (Nat.le_of_ble_eq_true rfl)) dX10_layLengths_19 ⟨(Nat.le_of_ble_eq_true rfl), (Nat.le_of_ble_eq_true rfl)⟩) hP hD hS hA [2, 3] [0, 1] rfl rfl (by decide) (by decide) (fun u3 H locs hP hD hS => ?_)
  have hP : va_P g.1 vwCl [(q45, .inl (g.2 0, 8, .inl (fun _ => 0))), (q42, .inl (g.2 0, 8, .inl (fun _ => 0))), (q39, .inl (g.2 0, 497, .inl f40)), (q1, .inr (12, [.ref q39, w3, w4, w5, w6, w7, w8, .ref q42, .ref q45, w11, w12, w13, w14, w15, w16, w17, w18, w19, w20, w21, w22, w23, w24, w25, w26, w27, w28, w29, w30, w31, w32, w33, w34, w35, w36, w37, w38]))] H := hP
  have hD : va_D A [(q45, .inl (g.2 0, 8, .inl (fun _ => 0))), (q42, .inl (g.2 0, 8, .inl (fun _ => 0))), (q39, .inl (g.2 0, 497, .inl f40)), (q1, .inr (12, [.ref q39, w3, w4, w5, w6, w7, w8, .ref q42, .ref q45, w11, w12, w13, w14, w15, w16, w17, w18, w19, w20, w21, w22, w23, w24, w25, w26, w27, w28, w29, w30, w31, w32, w33, w34, w35, w36, w37, w38]))] := hD
  refine lv_icmp_ge (tgt := 134) hx hb dX10_layLengths_22 (by decide) (fun _ => ?_) (fun h => absurd (by decide) h)
  refine lv_aload_n hx hb dX10_layLengths_134 rfl (lv_at hl 4 rfl) ?_
  refine gf_RX10_22 hx hb hown hE hP 3 rfl rfl dX10_layLengths_135 ?_
  refine lv_iload_n hx hb dX10_layLengths_138 rfl (lv_at hl 3 rfl) ?_
  refine lv_iload_n hx hb dX10_layLengths_139 rfl (lv_at hl 2 rfl) ?_
  refine lv_ldc (v := 200000) hx hb hown (e1464 hE) dX10_layLengths_140 ?_
  refine x_mmin (v := 0) hx hb (by rw [hml]; exact hl.1.symm) hown (e1465 hE) (e362 hE) (e9 hE) (e363 hE) (Nat.le_of_ble_eq_true rfl) (Nat.le_of_ble_eq_true rfl) (Nat.le_of_ble_eq_true rfl) (Nat.le_of_ble_eq_true rfl) (by decide) dX10_layLengths_142 ?_
  refine x_iast_same hx hb hE hP hD hS 1 rfl 2 (x_in (by decide)) (by decide) rfl dX10_layLengths_145 (fun H locs hP hD hS => ?_)
  refine lv_aload_n hx hb dX10_layLengths_146 rfl (lv_at hl 4 rfl) ?_
  refine gf_RX10_25 hx hb hown hE hP 3 rfl rfl dX10_layLengths_147 ?_
  refine lv_iload_n hx hb dX10_layLengths_150 rfl (lv_at hl 3 rfl) ?_
  refine lv_iload_n hx hb dX10_layLengths_151 rfl (lv_at hl 1 rfl) ?_
  refine lv_ldc (v := 200000) hx hb hown (e1464 hE) dX10_layLengths_152 ?_
  refine x_mmin (v := 0) hx hb (by rw [hml]; exact hl.1.symm) hown (e1465 hE) (e362 hE) (e9 hE) (e363 hE) (Nat.le_of_ble_eq_true rfl) (Nat.le_of_ble_eq_true rfl) (Nat.le_of_ble_eq_true rfl) (Nat.le_of_ble_eq_true rfl) (by decide) dX10_layLengths_154 ?_
  refine x_iast_same hx hb hE hP hD hS 0 rfl 2 (x_in (by decide)) (by decide) rfl dX10_layLengths_157 (fun H locs hP hD hS => ?_)
  refine lv_iinc (v := 3) (lv' := [(1, .int 3), (4, .int 0), (3, .int 0), (2, .int 0), (0, .ref q1)]) hx hb dX10_layLengths_158 hl (k := 3) rfl (by decide) (by decide) rfl (fun ls hl => ?_)
  refine lv_goto (tgt := 2) hx hb dX10_layLengths_161 (by decide) ?_
  refine lv_iload_n hx hb dX10_layLengths_2 rfl (lv_at hl 0 rfl) ?_
  refine lv_bipush (v := 8) hx hb dX10_layLengths_3 (by decide) ?_
  refine lv_icmp_ge (tgt := 164) hx hb dX10_layLengths_5 (by decide) (fun h => absurd h (by decide)) (fun _ => ?_)
  refine lv_iconst (v := 0) hx hb dX10_layLengths_8 (by decide) ?_
  refine lv_istore_n (lv' := [(2, .int 0), (1, .int 3), (4, .int 0), (3, .int 0), (0, .ref q1)]) hx hb dX10_layLengths_9 rfl hl (by decide) rfl (fun ls hl => ?_)
  refine lv_iconst (v := 0) hx hb dX10_layLengths_10 (by decide) ?_
  refine lv_istore_n (lv' := [(3, .int 0), (2, .int 0), (1, .int 3), (4, .int 0), (0, .ref q1)]) hx hb dX10_layLengths_11 rfl hl (by decide) rfl (fun ls hl => ?_)
  refine lv_iconst (v := 0) hx hb dX10_layLengths_12 (by decide) ?_
  refine lv_istore (lv' := [(4, .int 0), (3, .int 0), (2, .int 0), (1, .int 3), (0, .ref q1)]) hx hb dX10_layLengths_13 hl (by decide) rfl (fun ls hl => ?_)
  refine lv_iload hx hb dX10_layLengths_15 (lv_at hl 0 rfl) ?_
  refine lv_aload_n hx hb dX10_layLengths_17 rfl (lv_at hl 4 rfl) ?_
  refine lv_iload_n hx hb dX10_layLengths_18 rfl (lv_at hl 3 rfl) ?_
  refine g_i (wr := [(q45, .inl (g.2 0, 8, .inl (fun _ => 0))), (q42, .inl (g.2 0, 8, .inl (fun _ => 0)))]) (rV (rest := [.int 0]) hx hb hml hown hE hP hD 3 rfl rfl (c308_X10_many l g q1 q39 w3 w4 w5 w6 w7 w8 (.ref q42) (.ref q45) w11 w12 w13 w14 w15 w16 w17 w18 w19 w20 w21 w22 w23 w24 w25 w26 w27 w28 w29 w30 w31 w32 w33 w34 w35 w36 w37 w38 f40 (hf50) H.size) (kV_X10_many hE (e1456 hE) rfl rfl ⟨(Nat.le_of_ble_eq_true rfl), (Nat.le_of_ble_eq_true rfl)⟩) [2, 3] rfl (by decide) rfl hl.1 rfl (lv_room (Nat.le_of_ble_eq_true rfl)) dX10_layLengths_19 ⟨(Nat.le_of_ble_eq_true rfl), (Nat.le_of_ble_eq_true rfl)⟩) hP hD hS hA [2, 3] [0, 1] rfl rfl (by decide) (by decide) (fun u4 H locs hP hD hS => ?_)
  have hP : va_P g.1 vwCl [(q45, .inl (g.2 0, 8, .inl (fun _ => 0))), (q42, .inl (g.2 0, 8, .inl (fun _ => 0))), (q39, .inl (g.2 0, 497, .inl f40)), (q1, .inr (12, [.ref q39, w3, w4, w5, w6, w7, w8, .ref q42, .ref q45, w11, w12, w13, w14, w15, w16, w17, w18, w19, w20, w21, w22, w23, w24, w25, w26, w27, w28, w29, w30, w31, w32, w33, w34, w35, w36, w37, w38]))] H := hP
  have hD : va_D A [(q45, .inl (g.2 0, 8, .inl (fun _ => 0))), (q42, .inl (g.2 0, 8, .inl (fun _ => 0))), (q39, .inl (g.2 0, 497, .inl f40)), (q1, .inr (12, [.ref q39, w3, w4, w5, w6, w7, w8, .ref q42, .ref q45, w11, w12, w13, w14, w15, w16, w17, w18, w19, w20, w21, w22, w23, w24, w25, w26, w27, w28, w29, w30, w31, w32, w33, w34, w35, w36, w37, w38]))] := hD
  refine lv_icmp_ge (tgt := 134) hx hb dX10_layLengths_22 (by decide) (fun h => absurd h (by decide)) (fun _ => ?_)
  refine lv_aload_n hx hb dX10_layLengths_25 rfl (lv_at hl 4 rfl) ?_
  refine lv_iload_n hx hb dX10_layLengths_26 rfl (lv_at hl 3 rfl) ?_
  refine lv_iload hx hb dX10_layLengths_27 (lv_at hl 0 rfl) ?_
  refine lv_iconst (v := 0) hx hb dX10_layLengths_29 (by decide) ?_
  refine g_i (wr := [(q45, .inl (g.2 0, 8, .inl (fun _ => 0))), (q42, .inl (g.2 0, 8, .inl (fun _ => 0)))]) (rV (rest := []) hx hb hml hown hE hP hD 3 rfl rfl (c775_X10_of l g q1 q39 w3 w4 w5 w6 w7 w8 (.ref q42) (.ref q45) w11 w12 w13 w14 w15 w16 w17 w18 w19 w20 w21 w22 w23 w24 w25 w26 w27 w28 w29 w30 w31 w32 w33 w34 w35 w36 w37 w38 f40 (hf51) H.size) (kV_X10_of hE (e1460 hE) rfl rfl ⟨(Nat.le_of_ble_eq_true rfl), (Nat.le_of_ble_eq_true rfl)⟩) [2, 3] rfl (by decide) rfl hl.1 rfl (lv_room (Nat.le_of_ble_eq_true rfl)) dX10_layLengths_30 ⟨(Nat.le_of_ble_eq_true rfl), (Nat.le_of_ble_eq_true rfl)⟩) hP hD hS hA [2, 3] [0, 1] rfl rfl (by decide) (by decide) (fun u5 H locs hP hD hS => ?_)
  have hP : va_P g.1 vwCl [(q45, .inl (g.2 0, 8, .inl (fun _ => 0))), (q42, .inl (g.2 0, 8, .inl (fun _ => 0))), (q39, .inl (g.2 0, 497, .inl f40)), (q1, .inr (12, [.ref q39, w3, w4, w5, w6, w7, w8, .ref q42, .ref q45, w11, w12, w13, w14, w15, w16, w17, w18, w19, w20, w21, w22, w23, w24, w25, w26, w27, w28, w29, w30, w31, w32, w33, w34, w35, w36, w37, w38]))] H := hP
  have hD : va_D A [(q45, .inl (g.2 0, 8, .inl (fun _ => 0))), (q42, .inl (g.2 0, 8, .inl (fun _ => 0))), (q39, .inl (g.2 0, 497, .inl f40)), (q1, .inr (12, [.ref q39, w3, w4, w5, w6, w7, w8, .ref q42, .ref q45, w11, w12, w13, w14, w15, w16, w17, w18, w19, w20, w21, w22, w23, w24, w25, w26, w27, w28, w29, w30, w31, w32, w33, w34, w35, w36, w37, w38]))] := hD
  refine lv_iconst (v := 2) hx hb dX10_layLengths_33 (by decide) ?_
  refine lv_icmp_ne (tgt := 41) hx hb dX10_layLengths_34 (by decide) (fun h => absurd h (by decide)) (fun _ => ?_)
  refine lv_iconst (v := 1) hx hb dX10_layLengths_37 (by decide) ?_
  refine lv_goto (tgt := 42) hx hb dX10_layLengths_38 (by decide) ?_
  refine lv_istore (lv' := [(5, .int 1), (4, .int 0), (3, .int 0), (2, .int 0), (1, .int 3), (0, .ref q1)]) hx hb dX10_layLengths_42 hl (by decide) rfl (fun ls hl => ?_)
  refine lv_iload_n hx hb dX10_layLengths_44 rfl (lv_at hl 3 rfl) ?_
  refine lv_iload hx hb dX10_layLengths_45 (lv_at hl 0 rfl) ?_
  refine lv_if_eq (tgt := 75) hx hb dX10_layLengths_47 (by decide) (fun h => absurd h (by decide)) (fun _ => ?_)
  refine lv_aload_n hx hb dX10_layLengths_50 rfl (lv_at hl 5 rfl) ?_
  refine lv_iload_n hx hb dX10_layLengths_51 rfl (lv_at hl 4 rfl) ?_
  refine lv_iload hx hb dX10_layLengths_52 (lv_at hl 1 rfl) ?_
  refine lv_iconst (v := 2) hx hb dX10_layLengths_54 (by decide) ?_
  refine g_i (wr := [(q45, .inl (g.2 0, 8, .inl (fun _ => 0))), (q42, .inl (g.2 0, 8, .inl (fun _ => 0)))]) (rV (rest := [.int 0]) hx hb hml hown hE hP hD 3 rfl rfl (c310_X10_of l g q1 q39 x53 w3 w4 w5 w6 w7 w8 (.ref q42) (.ref q45) w11 w12 w13 w14 w15 w16 w17 w18 w19 w20 w21 w22 w23 w24 w25 w26 w27 w28 w29 w30 w31 w32 w33 w34 w35 w36 w37 w38 f40 (hf52) H.size) (kV_X10_of hE (e1460 hE) rfl rfl ⟨(Nat.le_of_ble_eq_true rfl), (Nat.le_of_ble_eq_true rfl)⟩) [2, 3] rfl (by decide) rfl hl.1 rfl (lv_room (Nat.le_of_ble_eq_true rfl)) dX10_layLengths_55 ⟨(Nat.le_of_ble_eq_true rfl), (Nat.le_of_ble_eq_true rfl)⟩) hP hD hS hA [2, 3] [0, 1] rfl rfl (by decide) (by decide) (fun u6 H locs hP hD hS => ?_)
  have hP : va_P g.1 vwCl [(q45, .inl (g.2 0, 8, .inl (fun _ => 0))), (q42, .inl (g.2 0, 8, .inl (fun _ => 0))), (q39, .inl (g.2 0, 497, .inl f40)), (q1, .inr (12, [.ref q39, w3, w4, w5, w6, w7, w8, .ref q42, .ref q45, w11, w12, w13, w14, w15, w16, w17, w18, w19, w20, w21, w22, w23, w24, w25, w26, w27, w28, w29, w30, w31, w32, w33, w34, w35, w36, w37, w38]))] H := hP
  have hD : va_D A [(q45, .inl (g.2 0, 8, .inl (fun _ => 0))), (q42, .inl (g.2 0, 8, .inl (fun _ => 0))), (q39, .inl (g.2 0, 497, .inl f40)), (q1, .inr (12, [.ref q39, w3, w4, w5, w6, w7, w8, .ref q42, .ref q45, w11, w12, w13, w14, w15, w16, w17, w18, w19, w20, w21, w22, w23, w24, w25, w26, w27, w28, w29, w30, w31, w32, w33, w34, w35, w36, w37, w38]))] := hD
  refine lv_aload_n hx hb dX10_layLengths_58 rfl (lv_at hl 5 rfl) ?_
  refine gf_RX10_22 hx hb hown hE hP 3 rfl rfl dX10_layLengths_59 ?_
  refine lv_aload_n hx hb dX10_layLengths_62 rfl (lv_at hl 5 rfl) ?_
  refine lv_iload_n hx hb dX10_layLengths_63 rfl (lv_at hl 4 rfl) ?_
  refine lv_iload hx hb dX10_layLengths_64 (lv_at hl 1 rfl) ?_
  refine lv_iconst (v := 1) hx hb dX10_layLengths_66 (by decide) ?_
  refine g_i (wr := [(q45, .inl (g.2 0, 8, .inl (fun _ => 0))), (q42, .inl (g.2 0, 8, .inl (fun _ => 0)))]) (rV (rest := [.ref q42, .int x53, .int 0]) hx hb hml hown hE hP hD 3 rfl rfl (c776_X10_of l g q1 q39 x55 w3 w4 w5 w6 w7 w8 (.ref q42) (.ref q45) w11 w12 w13 w14 w15 w16 w17 w18 w19 w20 w21 w22 w23 w24 w25 w26 w27 w28 w29 w30 w31 w32 w33 w34 w35 w36 w37 w38 f40 (hf54) H.size) (kV_X10_of hE (e1460 hE) rfl rfl ⟨(Nat.le_of_ble_eq_true rfl), (Nat.le_of_ble_eq_true rfl)⟩) [2, 3] rfl (by decide) rfl hl.1 rfl (lv_room (Nat.le_of_ble_eq_true rfl)) dX10_layLengths_67 ⟨(Nat.le_of_ble_eq_true rfl), (Nat.le_of_ble_eq_true rfl)⟩) hP hD hS hA [2, 3] [0, 1] rfl rfl (by decide) (by decide) (fun u7 H locs hP hD hS => ?_)
  have hP : va_P g.1 vwCl [(q45, .inl (g.2 0, 8, .inl (fun _ => 0))), (q42, .inl (g.2 0, 8, .inl (fun _ => 0))), (q39, .inl (g.2 0, 497, .inl f40)), (q1, .inr (12, [.ref q39, w3, w4, w5, w6, w7, w8, .ref q42, .ref q45, w11, w12, w13, w14, w15, w16, w17, w18, w19, w20, w21, w22, w23, w24, w25, w26, w27, w28, w29, w30, w31, w32, w33, w34, w35, w36, w37, w38]))] H := hP
  have hD : va_D A [(q45, .inl (g.2 0, 8, .inl (fun _ => 0))), (q42, .inl (g.2 0, 8, .inl (fun _ => 0))), (q39, .inl (g.2 0, 497, .inl f40)), (q1, .inr (12, [.ref q39, w3, w4, w5, w6, w7, w8, .ref q42, .ref q45, w11, w12, w13, w14, w15, w16, w17, w18, w19, w20, w21, w22, w23, w24, w25, w26, w27, w28, w29, w30, w31, w32, w33, w34, w35, w36, w37, w38]))] := hD
  refine x_iald (v := 0) hx hb hE hP 1 rfl _ (x_in2 h56 (show _ < (8 : Int32) from h57) (by decide)) rfl rfl dX10_layLengths_70 ?_
  refine x_imul (v := 0) hx hb dX10_layLengths_71 (Int32.mul_zero) ?_
  refine lv_goto (tgt := 83) hx hb dX10_layLengths_72 (by decide) ?_
  refine x_iadd (v := 0) hx hb dX10_layLengths_83 (by decide) ?_
  refine lv_istore_n (lv' := [(2, .int 0), (5, .int 1), (4, .int 0), (3, .int 0), (1, .int 3), (0, .ref q1)]) hx hb dX10_layLengths_84 rfl hl (by decide) rfl (fun ls hl => ?_)
  refine lv_iload_n hx hb dX10_layLengths_85 rfl (lv_at hl 3 rfl) ?_
  refine lv_iload hx hb dX10_layLengths_86 (lv_at hl 1 rfl) ?_
  refine lv_if_eq (tgt := 116) hx hb dX10_layLengths_88 (by decide) (fun h => absurd h (by decide)) (fun _ => ?_)
  refine lv_aload_n hx hb dX10_layLengths_91 rfl (lv_at hl 5 rfl) ?_
  refine lv_iload_n hx hb dX10_layLengths_92 rfl (lv_at hl 4 rfl) ?_
  refine lv_iload hx hb dX10_layLengths_93 (lv_at hl 2 rfl) ?_
  refine lv_iconst (v := 2) hx hb dX10_layLengths_95 (by decide) ?_
  refine g_i (wr := [(q45, .inl (g.2 0, 8, .inl (fun _ => 0))), (q42, .inl (g.2 0, 8, .inl (fun _ => 0)))]) (rV (rest := [.int 0]) hx hb hml hown hE hP hD 3 rfl rfl (c310_X10_of l g q1 q39 x53 w3 w4 w5 w6 w7 w8 (.ref q42) (.ref q45) w11 w12 w13 w14 w15 w16 w17 w18 w19 w20 w21 w22 w23 w24 w25 w26 w27 w28 w29 w30 w31 w32 w33 w34 w35 w36 w37 w38 f40 (hf52) H.size) (kV_X10_of hE (e1460 hE) rfl rfl ⟨(Nat.le_of_ble_eq_true rfl), (Nat.le_of_ble_eq_true rfl)⟩) [2, 3] rfl (by decide) rfl hl.1 rfl (lv_room (Nat.le_of_ble_eq_true rfl)) dX10_layLengths_96 ⟨(Nat.le_of_ble_eq_true rfl), (Nat.le_of_ble_eq_true rfl)⟩) hP hD hS hA [2, 3] [0, 1] rfl rfl (by decide) (by decide) (fun u8 H locs hP hD hS => ?_)
  have hP : va_P g.1 vwCl [(q45, .inl (g.2 0, 8, .inl (fun _ => 0))), (q42, .inl (g.2 0, 8, .inl (fun _ => 0))), (q39, .inl (g.2 0, 497, .inl f40)), (q1, .inr (12, [.ref q39, w3, w4, w5, w6, w7, w8, .ref q42, .ref q45, w11, w12, w13, w14, w15, w16, w17, w18, w19, w20, w21, w22, w23, w24, w25, w26, w27, w28, w29, w30, w31, w32, w33, w34, w35, w36, w37, w38]))] H := hP
  have hD : va_D A [(q45, .inl (g.2 0, 8, .inl (fun _ => 0))), (q42, .inl (g.2 0, 8, .inl (fun _ => 0))), (q39, .inl (g.2 0, 497, .inl f40)), (q1, .inr (12, [.ref q39, w3, w4, w5, w6, w7, w8, .ref q42, .ref q45, w11, w12, w13, w14, w15, w16, w17, w18, w19, w20, w21, w22, w23, w24, w25, w26, w27, w28, w29, w30, w31, w32, w33, w34, w35, w36, w37, w38]))] := hD
  refine lv_aload_n hx hb dX10_layLengths_99 rfl (lv_at hl 5 rfl) ?_
  refine gf_RX10_25 hx hb hown hE hP 3 rfl rfl dX10_layLengths_100 ?_
  refine lv_aload_n hx hb dX10_layLengths_103 rfl (lv_at hl 5 rfl) ?_
  refine lv_iload_n hx hb dX10_layLengths_104 rfl (lv_at hl 4 rfl) ?_
  refine lv_iload hx hb dX10_layLengths_105 (lv_at hl 2 rfl) ?_
  refine lv_iconst (v := 1) hx hb dX10_layLengths_107 (by decide) ?_
  refine g_i (wr := [(q45, .inl (g.2 0, 8, .inl (fun _ => 0))), (q42, .inl (g.2 0, 8, .inl (fun _ => 0)))]) (rV (rest := [.ref q45, .int x53, .int 0]) hx hb hml hown hE hP hD 3 rfl rfl (c776_X10_of l g q1 q39 x55 w3 w4 w5 w6 w7 w8 (.ref q42) (.ref q45) w11 w12 w13 w14 w15 w16 w17 w18 w19 w20 w21 w22 w23 w24 w25 w26 w27 w28 w29 w30 w31 w32 w33 w34 w35 w36 w37 w38 f40 (hf54) H.size) (kV_X10_of hE (e1460 hE) rfl rfl ⟨(Nat.le_of_ble_eq_true rfl), (Nat.le_of_ble_eq_true rfl)⟩) [2, 3] rfl (by decide) rfl hl.1 rfl (lv_room (Nat.le_of_ble_eq_true rfl)) dX10_layLengths_108 ⟨(Nat.le_of_ble_eq_true rfl), (Nat.le_of_ble_eq_true rfl)⟩) hP hD hS hA [2, 3] [0, 1] rfl rfl (by decide) (by decide) (fun u9 H locs hP hD hS => ?_)
  have hP : va_P g.1 vwCl [(q45, .inl (g.2 0, 8, .inl (fun _ => 0))), (q42, .inl (g.2 0, 8, .inl (fun _ => 0))), (q39, .inl (g.2 0, 497, .inl f40)), (q1, .inr (12, [.ref q39, w3, w4, w5, w6, w7, w8, .ref q42, .ref q45, w11, w12, w13, w14, w15, w16, w17, w18, w19, w20, w21, w22, w23, w24, w25, w26, w27, w28, w29, w30, w31, w32, w33, w34, w35, w36, w37, w38]))] H := hP
  have hD : va_D A [(q45, .inl (g.2 0, 8, .inl (fun _ => 0))), (q42, .inl (g.2 0, 8, .inl (fun _ => 0))), (q39, .inl (g.2 0, 497, .inl f40)), (q1, .inr (12, [.ref q39, w3, w4, w5, w6, w7, w8, .ref q42, .ref q45, w11, w12, w13, w14, w15, w16, w17, w18, w19, w20, w21, w22, w23, w24, w25, w26, w27, w28, w29, w30, w31, w32, w33, w34, w35, w36, w37, w38]))] := hD
  refine x_iald (v := 0) hx hb hE hP 0 rfl _ (x_in2 h56 (show _ < (8 : Int32) from h57) (by decide)) rfl rfl dX10_layLengths_111 ?_
  refine x_imul (v := 0) hx hb dX10_layLengths_112 (Int32.mul_zero) ?_
  refine lv_goto (tgt := 126) hx hb dX10_layLengths_113 (by decide) ?_
  refine x_iadd (v := 0) hx hb dX10_layLengths_126 (by decide) ?_
  refine lv_istore_n (lv' := [(3, .int 0), (2, .int 0), (5, .int 1), (4, .int 0), (1, .int 3), (0, .ref q1)]) hx hb dX10_layLengths_127 rfl hl (by decide) rfl (fun ls hl => ?_)
  refine lv_iinc (v := 1) (lv' := [(4, .int 1), (3, .int 0), (2, .int 0), (5, .int 1), (1, .int 3), (0, .ref q1)]) hx hb dX10_layLengths_128 hl (k := 3) rfl (by decide) (by decide) rfl (fun ls hl => ?_)
  refine lv_goto (tgt := 15) hx hb dX10_layLengths_131 (by decide) ?_
  refine lv_iload hx hb dX10_layLengths_15 (lv_at hl 0 rfl) ?_
  refine lv_aload_n hx hb dX10_layLengths_17 rfl (lv_at hl 5 rfl) ?_
  refine lv_iload_n hx hb dX10_layLengths_18 rfl (lv_at hl 4 rfl) ?_
  refine g_i (wr := [(q45, .inl (g.2 0, 8, .inl (fun _ => 0))), (q42, .inl (g.2 0, 8, .inl (fun _ => 0)))]) (rV (rest := [.int 1]) hx hb hml hown hE hP hD 3 rfl rfl (c308_X10_many l g q1 q39 w3 w4 w5 w6 w7 w8 (.ref q42) (.ref q45) w11 w12 w13 w14 w15 w16 w17 w18 w19 w20 w21 w22 w23 w24 w25 w26 w27 w28 w29 w30 w31 w32 w33 w34 w35 w36 w37 w38 f40 (hf50) H.size) (kV_X10_many hE (e1456 hE) rfl rfl ⟨(Nat.le_of_ble_eq_true rfl), (Nat.le_of_ble_eq_true rfl)⟩) [2, 3] rfl (by decide) rfl hl.1 rfl (lv_room (Nat.le_of_ble_eq_true rfl)) dX10_layLengths_19 ⟨(Nat.le_of_ble_eq_true rfl), (Nat.le_of_ble_eq_true rfl)⟩) hP hD hS hA [2, 3] [0, 1] rfl rfl (by decide) (by decide) (fun u10 H locs hP hD hS => ?_)
  have hP : va_P g.1 vwCl [(q45, .inl (g.2 0, 8, .inl (fun _ => 0))), (q42, .inl (g.2 0, 8, .inl (fun _ => 0))), (q39, .inl (g.2 0, 497, .inl f40)), (q1, .inr (12, [.ref q39, w3, w4, w5, w6, w7, w8, .ref q42, .ref q45, w11, w12, w13, w14, w15, w16, w17, w18, w19, w20, w21, w22, w23, w24, w25, w26, w27, w28, w29, w30, w31, w32, w33, w34, w35, w36, w37, w38]))] H := hP
  have hD : va_D A [(q45, .inl (g.2 0, 8, .inl (fun _ => 0))), (q42, .inl (g.2 0, 8, .inl (fun _ => 0))), (q39, .inl (g.2 0, 497, .inl f40)), (q1, .inr (12, [.ref q39, w3, w4, w5, w6, w7, w8, .ref q42, .ref q45, w11, w12, w13, w14, w15, w16, w17, w18, w19, w20, w21, w22, w23, w24, w25, w26, w27, w28, w29, w30, w31, w32, w33, w34, w35, w36, w37, w38]))] := hD
  refine lv_icmp_ge (tgt := 134) hx hb dX10_layLengths_22 (by decide) (fun _ => ?_) (fun h => absurd (by decide) h)
  refine lv_aload_n hx hb dX10_layLengths_134 rfl (lv_at hl 5 rfl) ?_
  refine gf_RX10_22 hx hb hown hE hP 3 rfl rfl dX10_layLengths_135 ?_
  refine lv_iload_n hx hb dX10_layLengths_138 rfl (lv_at hl 4 rfl) ?_
  refine lv_iload_n hx hb dX10_layLengths_139 rfl (lv_at hl 2 rfl) ?_
  refine lv_ldc (v := 200000) hx hb hown (e1464 hE) dX10_layLengths_140 ?_
  refine x_mmin (v := 0) hx hb (by rw [hml]; exact hl.1.symm) hown (e1465 hE) (e362 hE) (e9 hE) (e363 hE) (Nat.le_of_ble_eq_true rfl) (Nat.le_of_ble_eq_true rfl) (Nat.le_of_ble_eq_true rfl) (Nat.le_of_ble_eq_true rfl) (by decide) dX10_layLengths_142 ?_
  refine x_iast_same hx hb hE hP hD hS 1 rfl 3 (x_in (by decide)) (by decide) rfl dX10_layLengths_145 (fun H locs hP hD hS => ?_)
  refine lv_aload_n hx hb dX10_layLengths_146 rfl (lv_at hl 5 rfl) ?_
  refine gf_RX10_25 hx hb hown hE hP 3 rfl rfl dX10_layLengths_147 ?_
  refine lv_iload_n hx hb dX10_layLengths_150 rfl (lv_at hl 4 rfl) ?_
  refine lv_iload_n hx hb dX10_layLengths_151 rfl (lv_at hl 1 rfl) ?_
  refine lv_ldc (v := 200000) hx hb hown (e1464 hE) dX10_layLengths_152 ?_
  refine x_mmin (v := 0) hx hb (by rw [hml]; exact hl.1.symm) hown (e1465 hE) (e362 hE) (e9 hE) (e363 hE) (Nat.le_of_ble_eq_true rfl) (Nat.le_of_ble_eq_true rfl) (Nat.le_of_ble_eq_true rfl) (Nat.le_of_ble_eq_true rfl) (by decide) dX10_layLengths_154 ?_
  refine x_iast_same hx hb hE hP hD hS 0 rfl 3 (x_in (by decide)) (by decide) rfl dX10_layLengths_157 (fun H locs hP hD hS => ?_)
  refine lv_iinc (v := 4) (lv' := [(1, .int 4), (4, .int 1), (3, .int 0), (2, .int 0), (5, .int 1), (0, .ref q1)]) hx hb dX10_layLengths_158 hl (k := 4) rfl (by decide) (by decide) rfl (fun ls hl => ?_)
  refine lv_goto (tgt := 2) hx hb dX10_layLengths_161 (by decide) ?_
  refine lv_iload_n hx hb dX10_layLengths_2 rfl (lv_at hl 0 rfl) ?_
  refine lv_bipush (v := 8) hx hb dX10_layLengths_3 (by decide) ?_
  refine lv_icmp_ge (tgt := 164) hx hb dX10_layLengths_5 (by decide) (fun h => absurd h (by decide)) (fun _ => ?_)
  refine lv_iconst (v := 0) hx hb dX10_layLengths_8 (by decide) ?_
  refine lv_istore_n (lv' := [(2, .int 0), (1, .int 4), (4, .int 1), (3, .int 0), (5, .int 1), (0, .ref q1)]) hx hb dX10_layLengths_9 rfl hl (by decide) rfl (fun ls hl => ?_)
  refine lv_iconst (v := 0) hx hb dX10_layLengths_10 (by decide) ?_
  refine lv_istore_n (lv' := [(3, .int 0), (2, .int 0), (1, .int 4), (4, .int 1), (5, .int 1), (0, .ref q1)]) hx hb dX10_layLengths_11 rfl hl (by decide) rfl (fun ls hl => ?_)
  refine lv_iconst (v := 0) hx hb dX10_layLengths_12 (by decide) ?_
  refine lv_istore (lv' := [(4, .int 0), (3, .int 0), (2, .int 0), (1, .int 4), (5, .int 1), (0, .ref q1)]) hx hb dX10_layLengths_13 hl (by decide) rfl (fun ls hl => ?_)
  refine lv_iload hx hb dX10_layLengths_15 (lv_at hl 0 rfl) ?_
  refine lv_aload_n hx hb dX10_layLengths_17 rfl (lv_at hl 5 rfl) ?_
  refine lv_iload_n hx hb dX10_layLengths_18 rfl (lv_at hl 3 rfl) ?_
  refine g_i (wr := [(q45, .inl (g.2 0, 8, .inl (fun _ => 0))), (q42, .inl (g.2 0, 8, .inl (fun _ => 0)))]) (rV (rest := [.int 0]) hx hb hml hown hE hP hD 3 rfl rfl (c210_X10_many l g q1 q39 w3 w4 w5 w6 w7 w8 (.ref q42) (.ref q45) w11 w12 w13 w14 w15 w16 w17 w18 w19 w20 w21 w22 w23 w24 w25 w26 w27 w28 w29 w30 w31 w32 w33 w34 w35 w36 w37 w38 f40 (hf59) H.size) (kV_X10_many hE (e1456 hE) rfl rfl ⟨(Nat.le_of_ble_eq_true rfl), (Nat.le_of_ble_eq_true rfl)⟩) [2, 3] rfl (by decide) rfl hl.1 rfl (lv_room (Nat.le_of_ble_eq_true rfl)) dX10_layLengths_19 ⟨(Nat.le_of_ble_eq_true rfl), (Nat.le_of_ble_eq_true rfl)⟩) hP hD hS hA [2, 3] [0, 1] rfl rfl (by decide) (by decide) (fun u11 H locs hP hD hS => ?_)
  have hP : va_P g.1 vwCl [(q45, .inl (g.2 0, 8, .inl (fun _ => 0))), (q42, .inl (g.2 0, 8, .inl (fun _ => 0))), (q39, .inl (g.2 0, 497, .inl f40)), (q1, .inr (12, [.ref q39, w3, w4, w5, w6, w7, w8, .ref q42, .ref q45, w11, w12, w13, w14, w15, w16, w17, w18, w19, w20, w21, w22, w23, w24, w25, w26, w27, w28, w29, w30, w31, w32, w33, w34, w35, w36, w37, w38]))] H := hP
  have hD : va_D A [(q45, .inl (g.2 0, 8, .inl (fun _ => 0))), (q42, .inl (g.2 0, 8, .inl (fun _ => 0))), (q39, .inl (g.2 0, 497, .inl f40)), (q1, .inr (12, [.ref q39, w3, w4, w5, w6, w7, w8, .ref q42, .ref q45, w11, w12, w13, w14, w15, w16, w17, w18, w19, w20, w21, w22, w23, w24, w25, w26, w27, w28, w29, w30, w31, w32, w33, w34, w35, w36, w37, w38]))] := hD
  refine lv_icmp_ge (tgt := 134) hx hb dX10_layLengths_22 (by decide) (fun _ => ?_) (fun h => absurd (by decide) h)
  refine lv_aload_n hx hb dX10_layLengths_134 rfl (lv_at hl 5 rfl) ?_
  refine gf_RX10_22 hx hb hown hE hP 3 rfl rfl dX10_layLengths_135 ?_
  refine lv_iload_n hx hb dX10_layLengths_138 rfl (lv_at hl 3 rfl) ?_
  refine lv_iload_n hx hb dX10_layLengths_139 rfl (lv_at hl 2 rfl) ?_
  refine lv_ldc (v := 200000) hx hb hown (e1464 hE) dX10_layLengths_140 ?_
  refine x_mmin (v := 0) hx hb (by rw [hml]; exact hl.1.symm) hown (e1465 hE) (e362 hE) (e9 hE) (e363 hE) (Nat.le_of_ble_eq_true rfl) (Nat.le_of_ble_eq_true rfl) (Nat.le_of_ble_eq_true rfl) (Nat.le_of_ble_eq_true rfl) (by decide) dX10_layLengths_142 ?_
  refine x_iast_same hx hb hE hP hD hS 1 rfl 4 (x_in (by decide)) (by decide) rfl dX10_layLengths_145 (fun H locs hP hD hS => ?_)
  refine lv_aload_n hx hb dX10_layLengths_146 rfl (lv_at hl 5 rfl) ?_
  refine gf_RX10_25 hx hb hown hE hP 3 rfl rfl dX10_layLengths_147 ?_
  refine lv_iload_n hx hb dX10_layLengths_150 rfl (lv_at hl 3 rfl) ?_
  refine lv_iload_n hx hb dX10_layLengths_151 rfl (lv_at hl 1 rfl) ?_
  refine lv_ldc (v := 200000) hx hb hown (e1464 hE) dX10_layLengths_152 ?_
  refine x_mmin (v := 0) hx hb (by rw [hml]; exact hl.1.symm) hown (e1465 hE) (e362 hE) (e9 hE) (e363 hE) (Nat.le_of_ble_eq_true rfl) (Nat.le_of_ble_eq_true rfl) (Nat.le_of_ble_eq_true rfl) (Nat.le_of_ble_eq_true rfl) (by decide) dX10_layLengths_154 ?_
  refine x_iast_same hx hb hE hP hD hS 0 rfl 4 (x_in (by decide)) (by decide) rfl dX10_layLengths_157 (fun H locs hP hD hS => ?_)
  refine lv_iinc (v := 5) (lv' := [(1, .int 5), (4, .int 0), (3, .int 0), (2, .int 0), (5, .int 1), (0, .ref q1)]) hx hb dX10_layLengths_158 hl (k := 3) rfl (by decide) (by decide) rfl (fun ls hl => ?_)
  refine lv_goto (tgt := 2) hx hb dX10_layLengths_161 (by decide) ?_
  refine lv_iload_n hx hb dX10_layLengths_2 rfl (lv_at hl 0 rfl) ?_
  refine lv_bipush (v := 8) hx hb dX10_layLengths_3 (by decide) ?_
  refine lv_icmp_ge (tgt := 164) hx hb dX10_layLengths_5 (by decide) (fun h => absurd h (by decide)) (fun _ => ?_)
  refine lv_iconst (v := 0) hx hb dX10_layLengths_8 (by decide) ?_
  refine lv_istore_n (lv' := [(2, .int 0), (1, .int 5), (4, .int 0), (3, .int 0), (5, .int 1), (0, .ref q1)]) hx hb dX10_layLengths_9 rfl hl (by decide) rfl (fun ls hl => ?_)
  refine lv_iconst (v := 0) hx hb dX10_layLengths_10 (by decide) ?_
  refine lv_istore_n (lv' := [(3, .int 0), (2, .int 0), (1, .int 5), (4, .int 0), (5, .int 1), (0, .ref q1)]) hx hb dX10_layLengths_11 rfl hl (by decide) rfl (fun ls hl => ?_)
  refine lv_iconst (v := 0) hx hb dX10_layLengths_12 (by decide) ?_
  refine lv_istore (lv' := [(4, .int 0), (3, .int 0), (2, .int 0), (1, .int 5), (5, .int 1), (0, .ref q1)]) hx hb dX10_layLengths_13 hl (by decide) rfl (fun ls hl => ?_)
  refine lv_iload hx hb dX10_layLengths_15 (lv_at hl 0 rfl) ?_
  refine lv_aload_n hx hb dX10_layLengths_17 rfl (lv_at hl 5 rfl) ?_
  refine lv_iload_n hx hb dX10_layLengths_18 rfl (lv_at hl 3 rfl) ?_
  refine g_i (wr := [(q45, .inl (g.2 0, 8, .inl (fun _ => 0))), (q42, .inl (g.2 0, 8, .inl (fun _ => 0)))]) (rV (rest := [.int 0]) hx hb hml hown hE hP hD 3 rfl rfl (c212_X10_many l g q1 q39 w3 w4 w5 w6 w7 w8 (.ref q42) (.ref q45) w11 w12 w13 w14 w15 w16 w17 w18 w19 w20 w21 w22 w23 w24 w25 w26 w27 w28 w29 w30 w31 w32 w33 w34 w35 w36 w37 w38 f40 (hf61) H.size) (kV_X10_many hE (e1456 hE) rfl rfl ⟨(Nat.le_of_ble_eq_true rfl), (Nat.le_of_ble_eq_true rfl)⟩) [2, 3] rfl (by decide) rfl hl.1 rfl (lv_room (Nat.le_of_ble_eq_true rfl)) dX10_layLengths_19 ⟨(Nat.le_of_ble_eq_true rfl), (Nat.le_of_ble_eq_true rfl)⟩) hP hD hS hA [2, 3] [0, 1] rfl rfl (by decide) (by decide) (fun u12 H locs hP hD hS => ?_)
  have hP : va_P g.1 vwCl [(q45, .inl (g.2 0, 8, .inl (fun _ => 0))), (q42, .inl (g.2 0, 8, .inl (fun _ => 0))), (q39, .inl (g.2 0, 497, .inl f40)), (q1, .inr (12, [.ref q39, w3, w4, w5, w6, w7, w8, .ref q42, .ref q45, w11, w12, w13, w14, w15, w16, w17, w18, w19, w20, w21, w22, w23, w24, w25, w26, w27, w28, w29, w30, w31, w32, w33, w34, w35, w36, w37, w38]))] H := hP
  have hD : va_D A [(q45, .inl (g.2 0, 8, .inl (fun _ => 0))), (q42, .inl (g.2 0, 8, .inl (fun _ => 0))), (q39, .inl (g.2 0, 497, .inl f40)), (q1, .inr (12, [.ref q39, w3, w4, w5, w6, w7, w8, .ref q42, .ref q45, w11, w12, w13, w14, w15, w16, w17, w18, w19, w20, w21, w22, w23, w24, w25, w26, w27, w28, w29, w30, w31, w32, w33, w34, w35, w36, w37, w38]))] := hD
  refine lv_icmp_ge (tgt := 134) hx hb dX10_layLengths_22 (by decide) (fun _ => ?_) (fun h => absurd (by decide) h)
  refine lv_aload_n hx hb dX10_layLengths_134 rfl (lv_at hl 5 rfl) ?_
  refine gf_RX10_22 hx hb hown hE hP 3 rfl rfl dX10_layLengths_135 ?_
  refine lv_iload_n hx hb dX10_layLengths_138 rfl (lv_at hl 3 rfl) ?_
  refine lv_iload_n hx hb dX10_layLengths_139 rfl (lv_at hl 2 rfl) ?_
  refine lv_ldc (v := 200000) hx hb hown (e1464 hE) dX10_layLengths_140 ?_
  refine x_mmin (v := 0) hx hb (by rw [hml]; exact hl.1.symm) hown (e1465 hE) (e362 hE) (e9 hE) (e363 hE) (Nat.le_of_ble_eq_true rfl) (Nat.le_of_ble_eq_true rfl) (Nat.le_of_ble_eq_true rfl) (Nat.le_of_ble_eq_true rfl) (by decide) dX10_layLengths_142 ?_
  refine x_iast_same hx hb hE hP hD hS 1 rfl 5 (x_in (by decide)) (by decide) rfl dX10_layLengths_145 (fun H locs hP hD hS => ?_)
  refine lv_aload_n hx hb dX10_layLengths_146 rfl (lv_at hl 5 rfl) ?_
  refine gf_RX10_25 hx hb hown hE hP 3 rfl rfl dX10_layLengths_147 ?_
  refine lv_iload_n hx hb dX10_layLengths_150 rfl (lv_at hl 3 rfl) ?_
  refine lv_iload_n hx hb dX10_layLengths_151 rfl (lv_at hl 1 rfl) ?_
  refine lv_ldc (v := 200000) hx hb hown (e1464 hE) dX10_layLengths_152 ?_
  refine x_mmin (v := 0) hx hb (by rw [hml]; exact hl.1.symm) hown (e1465 hE) (e362 hE) (e9 hE) (e363 hE) (Nat.le_of_ble_eq_true rfl) (Nat.le_of_ble_eq_true rfl) (Nat.le_of_ble_eq_true rfl) (Nat.le_of_ble_eq_true rfl) (by decide) dX10_layLengths_154 ?_
  refine x_iast_same hx hb hE hP hD hS 0 rfl 5 (x_in (by decide)) (by decide) rfl dX10_layLengths_157 (fun H locs hP hD hS => ?_)
  refine lv_iinc (v := 6) (lv' := [(1, .int 6), (4, .int 0), (3, .int 0), (2, .int 0), (5, .int 1), (0, .ref q1)]) hx hb dX10_layLengths_158 hl (k := 3) rfl (by decide) (by decide) rfl (fun ls hl => ?_)
  refine lv_goto (tgt := 2) hx hb dX10_layLengths_161 (by decide) ?_
  refine lv_iload_n hx hb dX10_layLengths_2 rfl (lv_at hl 0 rfl) ?_
  refine lv_bipush (v := 8) hx hb dX10_layLengths_3 (by decide) ?_
  refine lv_icmp_ge (tgt := 164) hx hb dX10_layLengths_5 (by decide) (fun h => absurd h (by decide)) (fun _ => ?_)
  refine lv_iconst (v := 0) hx hb dX10_layLengths_8 (by decide) ?_
  refine lv_istore_n (lv' := [(2, .int 0), (1, .int 6), (4, .int 0), (3, .int 0), (5, .int 1), (0, .ref q1)]) hx hb dX10_layLengths_9 rfl hl (by decide) rfl (fun ls hl => ?_)
  refine lv_iconst (v := 0) hx hb dX10_layLengths_10 (by decide) ?_
  refine lv_istore_n (lv' := [(3, .int 0), (2, .int 0), (1, .int 6), (4, .int 0), (5, .int 1), (0, .ref q1)]) hx hb dX10_layLengths_11 rfl hl (by decide) rfl (fun ls hl => ?_)
  refine lv_iconst (v := 0) hx hb dX10_layLengths_12 (by decide) ?_
  refine lv_istore (lv' := [(4, .int 0), (3, .int 0), (2, .int 0), (1, .int 6), (5, .int 1), (0, .ref q1)]) hx hb dX10_layLengths_13 hl (by decide) rfl (fun ls hl => ?_)
  refine lv_iload hx hb dX10_layLengths_15 (lv_at hl 0 rfl) ?_
  refine lv_aload_n hx hb dX10_layLengths_17 rfl (lv_at hl 5 rfl) ?_
  refine lv_iload_n hx hb dX10_layLengths_18 rfl (lv_at hl 3 rfl) ?_
  refine g_i (wr := [(q45, .inl (g.2 0, 8, .inl (fun _ => 0))), (q42, .inl (g.2 0, 8, .inl (fun _ => 0)))]) (rV (rest := [.int 0]) hx hb hml hown hE hP hD 3 rfl rfl (c214_X10_many l g q1 q39 w3 w4 w5 w6 w7 w8 (.ref q42) (.ref q45) w11 w12 w13 w14 w15 w16 w17 w18 w19 w20 w21 w22 w23 w24 w25 w26 w27 w28 w29 w30 w31 w32 w33 w34 w35 w36 w37 w38 f40 (hf63) H.size) (kV_X10_many hE (e1456 hE) rfl rfl ⟨(Nat.le_of_ble_eq_true rfl), (Nat.le_of_ble_eq_true rfl)⟩) [2, 3] rfl (by decide) rfl hl.1 rfl (lv_room (Nat.le_of_ble_eq_true rfl)) dX10_layLengths_19 ⟨(Nat.le_of_ble_eq_true rfl), (Nat.le_of_ble_eq_true rfl)⟩) hP hD hS hA [2, 3] [0, 1] rfl rfl (by decide) (by decide) (fun u13 H locs hP hD hS => ?_)
  have hP : va_P g.1 vwCl [(q45, .inl (g.2 0, 8, .inl (fun _ => 0))), (q42, .inl (g.2 0, 8, .inl (fun _ => 0))), (q39, .inl (g.2 0, 497, .inl f40)), (q1, .inr (12, [.ref q39, w3, w4, w5, w6, w7, w8, .ref q42, .ref q45, w11, w12, w13, w14, w15, w16, w17, w18, w19, w20, w21, w22, w23, w24, w25, w26, w27, w28, w29, w30, w31, w32, w33, w34, w35, w36, w37, w38]))] H := hP
  have hD : va_D A [(q45, .inl (g.2 0, 8, .inl (fun _ => 0))), (q42, .inl (g.2 0, 8, .inl (fun _ => 0))), (q39, .inl (g.2 0, 497, .inl f40)), (q1, .inr (12, [.ref q39, w3, w4, w5, w6, w7, w8, .ref q42, .ref q45, w11, w12, w13, w14, w15, w16, w17, w18, w19, w20, w21, w22, w23, w24, w25, w26, w27, w28, w29, w30, w31, w32, w33, w34, w35, w36, w37, w38]))] := hD
  refine lv_icmp_ge (tgt := 134) hx hb dX10_layLengths_22 (by decide) (fun _ => ?_) (fun h => absurd (by decide) h)
  refine lv_aload_n hx hb dX10_layLengths_134 rfl (lv_at hl 5 rfl) ?_
  refine gf_RX10_22 hx hb hown hE hP 3 rfl rfl dX10_layLengths_135 ?_
  refine lv_iload_n hx hb dX10_layLengths_138 rfl (lv_at hl 3 rfl) ?_
  refine lv_iload_n hx hb dX10_layLengths_139 rfl (lv_at hl 2 rfl) ?_
  refine lv_ldc (v := 200000) hx hb hown (e1464 hE) dX10_layLengths_140 ?_
  refine x_mmin (v := 0) hx hb (by rw [hml]; exact hl.1.symm) hown (e1465 hE) (e362 hE) (e9 hE) (e363 hE) (Nat.le_of_ble_eq_true rfl) (Nat.le_of_ble_eq_true rfl) (Nat.le_of_ble_eq_true rfl) (Nat.le_of_ble_eq_true rfl) (by decide) dX10_layLengths_142 ?_
  refine x_iast_same hx hb hE hP hD hS 1 rfl 6 (x_in (by decide)) (by decide) rfl dX10_layLengths_145 (fun H locs hP hD hS => ?_)
  refine lv_aload_n hx hb dX10_layLengths_146 rfl (lv_at hl 5 rfl) ?_
  refine gf_RX10_25 hx hb hown hE hP 3 rfl rfl dX10_layLengths_147 ?_
  refine lv_iload_n hx hb dX10_layLengths_150 rfl (lv_at hl 3 rfl) ?_
  refine lv_iload_n hx hb dX10_layLengths_151 rfl (lv_at hl 1 rfl) ?_
  refine lv_ldc (v := 200000) hx hb hown (e1464 hE) dX10_layLengths_152 ?_
  refine x_mmin (v := 0) hx hb (by rw [hml]; exact hl.1.symm) hown (e1465 hE) (e362 hE) (e9 hE) (e363 hE) (Nat.le_of_ble_eq_true rfl) (Nat.le_of_ble_eq_true rfl) (Nat.le_of_ble_eq_true rfl) (Nat.le_of_ble_eq_true rfl) (by decide) dX10_layLengths_154 ?_
  refine x_iast_same hx hb hE hP hD hS 0 rfl 6 (x_in (by decide)) (by decide) rfl dX10_layLengths_157 (fun H locs hP hD hS => ?_)
  refine lv_iinc (v := 7) (lv' := [(1, .int 7), (4, .int 0), (3, .int 0), (2, .int 0), (5, .int 1), (0, .ref q1)]) hx hb dX10_layLengths_158 hl (k := 3) rfl (by decide) (by decide) rfl (fun ls hl => ?_)
  refine lv_goto (tgt := 2) hx hb dX10_layLengths_161 (by decide) ?_
  refine lv_iload_n hx hb dX10_layLengths_2 rfl (lv_at hl 0 rfl) ?_
  refine lv_bipush (v := 8) hx hb dX10_layLengths_3 (by decide) ?_
  refine lv_icmp_ge (tgt := 164) hx hb dX10_layLengths_5 (by decide) (fun h => absurd h (by decide)) (fun _ => ?_)
  refine lv_iconst (v := 0) hx hb dX10_layLengths_8 (by decide) ?_
  refine lv_istore_n (lv' := [(2, .int 0), (1, .int 7), (4, .int 0), (3, .int 0), (5, .int 1), (0, .ref q1)]) hx hb dX10_layLengths_9 rfl hl (by decide) rfl (fun ls hl => ?_)
  refine lv_iconst (v := 0) hx hb dX10_layLengths_10 (by decide) ?_
  refine lv_istore_n (lv' := [(3, .int 0), (2, .int 0), (1, .int 7), (4, .int 0), (5, .int 1), (0, .ref q1)]) hx hb dX10_layLengths_11 rfl hl (by decide) rfl (fun ls hl => ?_)
  refine lv_iconst (v := 0) hx hb dX10_layLengths_12 (by decide) ?_
  refine lv_istore (lv' := [(4, .int 0), (3, .int 0), (2, .int 0), (1, .int 7), (5, .int 1), (0, .ref q1)]) hx hb dX10_layLengths_13 hl (by decide) rfl (fun ls hl => ?_)
  refine lv_iload hx hb dX10_layLengths_15 (lv_at hl 0 rfl) ?_
  refine lv_aload_n hx hb dX10_layLengths_17 rfl (lv_at hl 5 rfl) ?_
  refine lv_iload_n hx hb dX10_layLengths_18 rfl (lv_at hl 3 rfl) ?_
  refine g_i (wr := [(q45, .inl (g.2 0, 8, .inl (fun _ => 0))), (q42, .inl (g.2 0, 8, .inl (fun _ => 0)))]) (rV (rest := [.int 0]) hx hb hml hown hE hP hD 3 rfl rfl (c216_X10_many l g q1 q39 w3 w4 w5 w6 w7 w8 (.ref q42) (.ref q45) w11 w12 w13 w14 w15 w16 w17 w18 w19 w20 w21 w22 w23 w24 w25 w26 w27 w28 w29 w30 w31 w32 w33 w34 w35 w36 w37 w38 f40 (hf65) H.size) (kV_X10_many hE (e1456 hE) rfl rfl ⟨(Nat.le_of_ble_eq_true rfl), (Nat.le_of_ble_eq_true rfl)⟩) [2, 3] rfl (by decide) rfl hl.1 rfl (lv_room (Nat.le_of_ble_eq_true rfl)) dX10_layLengths_19 ⟨(Nat.le_of_ble_eq_true rfl), (Nat.le_of_ble_eq_true rfl)⟩) hP hD hS hA [2, 3] [0, 1] rfl rfl (by decide) (by decide) (fun u14 H locs hP hD hS => ?_)
  have hP : va_P g.1 vwCl [(q45, .inl (g.2 0, 8, .inl (fun _ => 0))), (q42, .inl (g.2 0, 8, .inl (fun _ => 0))), (q39, .inl (g.2 0, 497, .inl f40)), (q1, .inr (12, [.ref q39, w3, w4, w5, w6, w7, w8, .ref q42, .ref q45, w11, w12, w13, w14, w15, w16, w17, w18, w19, w20, w21, w22, w23, w24, w25, w26, w27, w28, w29, w30, w31, w32, w33, w34, w35, w36, w37, w38]))] H := hP
  have hD : va_D A [(q45, .inl (g.2 0, 8, .inl (fun _ => 0))), (q42, .inl (g.2 0, 8, .inl (fun _ => 0))), (q39, .inl (g.2 0, 497, .inl f40)), (q1, .inr (12, [.ref q39, w3, w4, w5, w6, w7, w8, .ref q42, .ref q45, w11, w12, w13, w14, w15, w16, w17, w18, w19, w20, w21, w22, w23, w24, w25, w26, w27, w28, w29, w30, w31, w32, w33, w34, w35, w36, w37, w38]))] := hD
  refine lv_icmp_ge (tgt := 134) hx hb dX10_layLengths_22 (by decide) (fun _ => ?_) (fun h => absurd (by decide) h)
  refine lv_aload_n hx hb dX10_layLengths_134 rfl (lv_at hl 5 rfl) ?_
  refine gf_RX10_22 hx hb hown hE hP 3 rfl rfl dX10_layLengths_135 ?_
  refine lv_iload_n hx hb dX10_layLengths_138 rfl (lv_at hl 3 rfl) ?_
  refine lv_iload_n hx hb dX10_layLengths_139 rfl (lv_at hl 2 rfl) ?_
  refine lv_ldc (v := 200000) hx hb hown (e1464 hE) dX10_layLengths_140 ?_
  refine x_mmin (v := 0) hx hb (by rw [hml]; exact hl.1.symm) hown (e1465 hE) (e362 hE) (e9 hE) (e363 hE) (Nat.le_of_ble_eq_true rfl) (Nat.le_of_ble_eq_true rfl) (Nat.le_of_ble_eq_true rfl) (Nat.le_of_ble_eq_true rfl) (by decide) dX10_layLengths_142 ?_
  refine x_iast_same hx hb hE hP hD hS 1 rfl 7 (x_in (by decide)) (by decide) rfl dX10_layLengths_145 (fun H locs hP hD hS => ?_)
  refine lv_aload_n hx hb dX10_layLengths_146 rfl (lv_at hl 5 rfl) ?_
  refine gf_RX10_25 hx hb hown hE hP 3 rfl rfl dX10_layLengths_147 ?_
  refine lv_iload_n hx hb dX10_layLengths_150 rfl (lv_at hl 3 rfl) ?_
  refine lv_iload_n hx hb dX10_layLengths_151 rfl (lv_at hl 1 rfl) ?_
  refine lv_ldc (v := 200000) hx hb hown (e1464 hE) dX10_layLengths_152 ?_
  refine x_mmin (v := 0) hx hb (by rw [hml]; exact hl.1.symm) hown (e1465 hE) (e362 hE) (e9 hE) (e363 hE) (Nat.le_of_ble_eq_true rfl) (Nat.le_of_ble_eq_true rfl) (Nat.le_of_ble_eq_true rfl) (Nat.le_of_ble_eq_true rfl) (by decide) dX10_layLengths_154 ?_
  refine x_iast_same hx hb hE hP hD hS 0 rfl 7 (x_in (by decide)) (by decide) rfl dX10_layLengths_157 (fun H locs hP hD hS => ?_)
  refine lv_iinc (v := 8) (lv' := [(1, .int 8), (4, .int 0), (3, .int 0), (2, .int 0), (5, .int 1), (0, .ref q1)]) hx hb dX10_layLengths_158 hl (k := 3) rfl (by decide) (by decide) rfl (fun ls hl => ?_)
  refine lv_goto (tgt := 2) hx hb dX10_layLengths_161 (by decide) ?_
  refine lv_iload_n hx hb dX10_layLengths_2 rfl (lv_at hl 0 rfl) ?_
  refine lv_bipush (v := 8) hx hb dX10_layLengths_3 (by decide) ?_
  refine lv_icmp_ge (tgt := 164) hx hb dX10_layLengths_5 (by decide) (fun _ => ?_) (fun h => absurd (by decide) h)
  exact x_vret hx hb hr hlocks hP hD hS hAe hsz (Nat.le_of_ble_eq_true rfl) (Nat.le_of_ble_eq_true rfl) (fun _ => 0) [0, 1, 2, 3] (by decide) rfl dX10_layLengths_164

set_option maxHeartbeats 4000000 in
set_option maxRecDepth 100000 in
theorem c778_X10_isTooGreat (l : Launch) (g : gG) (q1 q39 q40 q41 : Nat) (x53 x55 : Int32) (w3 w4 w5 w6 w7 w8 w11 w12 w13 w14 w15 w16 w17 w18 w19 w20 w21 w22 w23 w24 w25 w26 w27 w28 w29 w30 w31 w32 w33 w34 w35 w36 w37 w38 : Value) (f42 : Nat → Int32) (hf43 : f42 0 = 0) (hf44 : f42 49 = 0) (hf45 : f42 98 = 0) (hf46 : f42 147 = 1) (hf51 : f42 148 = 2) (hf52 : f42 150 = x53) (hf54 : f42 149 = x55) (hf59 : f42 196 = 0) (hf61 : f42 245 = 0) (hf63 : f42 294 = 0) (hf65 : f42 343 = 0) (hf67 : f42 392 = 0) (h56 : (0 : Int32) ≤ x55) (h57 : x55 < 8) (sz : Nat) : Met l yX10_isTooGreat [Cond.code yX10_isTooGreat cX10_isTooGreat 4 (some .boolean)] ({ frames := 3, cells := 0, slots := 0, locals := 68 } : Room) (va_Pc [.ref q1] (PX g sz [(q41, .inl (g.2 0, 8, .inl (fun _ => 0))), (q40, .inl (g.2 0, 8, .inl (fun _ => 0))), (q39, .inl (g.2 0, 497, .inl f42)), (q1, .inr (12, [.ref q39, w3, w4, w5, w6, w7, w8, .ref q40, .ref q41, w11, w12, w13, w14, w15, w16, w17, w18, w19, w20, w21, w22, w23, w24, w25, w26, w27, w28, w29, w30, w31, w32, w33, w34, w35, w36, w37, w38]))])) (QI g [(q41, .inl (g.2 0, 8, .inl (fun _ => 0))), (q40, .inl (g.2 0, 8, .inl (fun _ => 0))), (q39, .inl (g.2 0, 497, .inl f42)), (q1, .inr (12, [.ref q39, w3, w4, w5, w6, w7, w8, .ref q40, .ref q41, w11, w12, w13, w14, w15, w16, w17, w18, w19, w20, w21, w22, w23, w24, w25, w26, w27, w28, w29, w30, w31, w32, w33, w34, w35, w36, w37, w38]))] sz 0 (fun _ => [(q41, .inl (g.2 0, 8, .inl (fun _ => 0))), (q40, .inl (g.2 0, 8, .inl (fun _ => 0))), (q39, .inl (g.2 0, 497, .inl f42)), (q1, .inr (12, [.ref q39, w3, w4, w5, w6, w7, w8, .ref q40, .ref q41, w11, w12, w13, w14, w15, w16, w17, w18, w19, w20, w21, w22, w23, w24, w25, w26, w27, w28, w29, w30, w31, w32, w33, w34, w35, w36, w37, w38]))])) 0 0 (va_A [(q41, .inl (g.2 0, 8, .inl (fun _ => 0))), (q40, .inl (g.2 0, 8, .inl (fun _ => 0))), (q39, .inl (g.2 0, 497, .inl f42)), (q1, .inr (12, [.ref q39, w3, w4, w5, w6, w7, w8, .ref q40, .ref q41, w11, w12, w13, w14, w15, w16, w17, w18, w19, w20, w21, w22, w23, w24, w25, w26, w27, w28, w29, w30, w31, w32, w33, w34, w35, w36, w37, w38]))] sz) := by
  refine ofN (by decide) (Nat.le_of_ble_eq_true rfl) rfl ?_
  intro p e s m args below meth c A ls hAe hsz hx hb hml hr hlocks hin hown hE hP hD hA hS hl
  have hown : s.vm.findClass RX10 = some m.cls := hown
  refine lv_aload_n hx hb dX10_isTooGreat_0 rfl (lv_at hl 0 rfl) ?_
  refine g_v (wr := []) (rV (rest := []) hx hb hml hown hE hP hD 3 rfl rfl (c777_X10_layLengths l g q1 q39 q40 q41 x53 x55 w3 w4 w5 w6 w7 w8 w11 w12 w13 w14 w15 w16 w17 w18 w19 w20 w21 w22 w23 w24 w25 w26 w27 w28 w29 w30 w31 w32 w33 w34 w35 w36 w37 w38 f42 (hf43) (hf44) (hf45) (hf46) (hf51) (hf52) (hf54) (hf59) (hf61) (hf63) (hf65) h56 h57 s.heap.size) (kV_X10_layLengths hE (e1452 hE) rfl rfl ⟨(Nat.le_of_ble_eq_true rfl), (Nat.le_of_ble_eq_true rfl)⟩) [0, 1, 2, 3] rfl (by decide) rfl hl.1 rfl (lv_room (Nat.le_of_ble_eq_true rfl)) dX10_isTooGreat_1 ⟨(Nat.le_of_ble_eq_true rfl), (Nat.le_of_ble_eq_true rfl)⟩) hP hD hS hA [0, 1, 2, 3] [] rfl rfl (by decide) (by decide) (fun u1 H locs hP hD hS => ?_)
  have hP : va_P g.1 vwCl [(q41, .inl (g.2 0, 8, .inl (fun _ => 0))), (q40, .inl (g.2 0, 8, .inl (fun _ => 0))), (q39, .inl (g.2 0, 497, .inl f42)), (q1, .inr (12, [.ref q39, w3, w4, w5, w6, w7, w8, .ref q40, .ref q41, w11, w12, w13, w14, w15, w16, w17, w18, w19, w20, w21, w22, w23, w24, w25, w26, w27, w28, w29, w30, w31, w32, w33, w34, w35, w36, w37, w38]))] H := hP
  have hD : va_D A [(q41, .inl (g.2 0, 8, .inl (fun _ => 0))), (q40, .inl (g.2 0, 8, .inl (fun _ => 0))), (q39, .inl (g.2 0, 497, .inl f42)), (q1, .inr (12, [.ref q39, w3, w4, w5, w6, w7, w8, .ref q40, .ref q41, w11, w12, w13, w14, w15, w16, w17, w18, w19, w20, w21, w22, w23, w24, w25, w26, w27, w28, w29, w30, w31, w32, w33, w34, w35, w36, w37, w38]))] := hD
  refine lv_iconst (v := 0) hx hb dX10_isTooGreat_4 (by decide) ?_
  refine lv_istore_n (lv' := [(1, .int 0), (0, .ref q1)]) hx hb dX10_isTooGreat_5 rfl hl (by decide) rfl (fun ls hl => ?_)
  refine lv_iconst (v := 0) hx hb dX10_isTooGreat_6 (by decide) ?_
  refine lv_istore_n (lv' := [(2, .int 0), (1, .int 0), (0, .ref q1)]) hx hb dX10_isTooGreat_7 rfl hl (by decide) rfl (fun ls hl => ?_)
  refine lv_iload_n hx hb dX10_isTooGreat_8 rfl (lv_at hl 0 rfl) ?_
  refine lv_bipush (v := 8) hx hb dX10_isTooGreat_9 (by decide) ?_
  refine lv_icmp_ge (tgt := 40) hx hb dX10_isTooGreat_11 (by decide) (fun h => absurd h (by decide)) (fun _ => ?_)
  refine lv_iload_n hx hb dX10_isTooGreat_14 rfl (lv_at hl 1 rfl) ?_
  refine lv_aload_n hx hb dX10_isTooGreat_15 rfl (lv_at hl 2 rfl) ?_
  refine gf_RX10_22 hx hb hown hE hP 3 rfl rfl dX10_isTooGreat_16 ?_
  refine lv_iload_n hx hb dX10_isTooGreat_19 rfl (lv_at hl 0 rfl) ?_
  refine x_iald (v := 0) hx hb hE hP 1 rfl 0 (x_in (by decide)) (by decide) rfl dX10_isTooGreat_20 ?_
  refine lv_sipush (v := 20000) hx hb dX10_isTooGreat_21 (by decide) ?_
  refine lv_icmp_le (tgt := 31) hx hb dX10_isTooGreat_24 (by decide) (fun _ => ?_) (fun h => absurd (by decide) h)
  refine lv_iconst (v := 0) hx hb dX10_isTooGreat_31 (by decide) ?_
  refine x_ior (v := 0) hx hb dX10_isTooGreat_32 (by decide) ?_
  refine lv_istore_n (lv' := [(1, .int 0), (2, .int 0), (0, .ref q1)]) hx hb dX10_isTooGreat_33 rfl hl (by decide) rfl (fun ls hl => ?_)
  refine lv_iinc (v := 1) (lv' := [(2, .int 1), (1, .int 0), (0, .ref q1)]) hx hb dX10_isTooGreat_34 hl (k := 1) rfl (by decide) (by decide) rfl (fun ls hl => ?_)
  refine lv_goto (tgt := 8) hx hb dX10_isTooGreat_37 (by decide) ?_
  refine lv_iload_n hx hb dX10_isTooGreat_8 rfl (lv_at hl 0 rfl) ?_
  refine lv_bipush (v := 8) hx hb dX10_isTooGreat_9 (by decide) ?_
  refine lv_icmp_ge (tgt := 40) hx hb dX10_isTooGreat_11 (by decide) (fun h => absurd h (by decide)) (fun _ => ?_)
  refine lv_iload_n hx hb dX10_isTooGreat_14 rfl (lv_at hl 1 rfl) ?_
  refine lv_aload_n hx hb dX10_isTooGreat_15 rfl (lv_at hl 2 rfl) ?_
  refine gf_RX10_22 hx hb hown hE hP 3 rfl rfl dX10_isTooGreat_16 ?_
  refine lv_iload_n hx hb dX10_isTooGreat_19 rfl (lv_at hl 0 rfl) ?_
  refine x_iald (v := 0) hx hb hE hP 1 rfl 1 (x_in (by decide)) (by decide) rfl dX10_isTooGreat_20 ?_
  refine lv_sipush (v := 20000) hx hb dX10_isTooGreat_21 (by decide) ?_
  refine lv_icmp_le (tgt := 31) hx hb dX10_isTooGreat_24 (by decide) (fun _ => ?_) (fun h => absurd (by decide) h)
  refine lv_iconst (v := 0) hx hb dX10_isTooGreat_31 (by decide) ?_
  refine x_ior (v := 0) hx hb dX10_isTooGreat_32 (by decide) ?_
  refine lv_istore_n (lv' := [(1, .int 0), (2, .int 1), (0, .ref q1)]) hx hb dX10_isTooGreat_33 rfl hl (by decide) rfl (fun ls hl => ?_)
  refine lv_iinc (v := 2) (lv' := [(2, .int 2), (1, .int 0), (0, .ref q1)]) hx hb dX10_isTooGreat_34 hl (k := 1) rfl (by decide) (by decide) rfl (fun ls hl => ?_)
  refine lv_goto (tgt := 8) hx hb dX10_isTooGreat_37 (by decide) ?_
  refine lv_iload_n hx hb dX10_isTooGreat_8 rfl (lv_at hl 0 rfl) ?_
  refine lv_bipush (v := 8) hx hb dX10_isTooGreat_9 (by decide) ?_
  refine lv_icmp_ge (tgt := 40) hx hb dX10_isTooGreat_11 (by decide) (fun h => absurd h (by decide)) (fun _ => ?_)
  refine lv_iload_n hx hb dX10_isTooGreat_14 rfl (lv_at hl 1 rfl) ?_
  refine lv_aload_n hx hb dX10_isTooGreat_15 rfl (lv_at hl 2 rfl) ?_
  refine gf_RX10_22 hx hb hown hE hP 3 rfl rfl dX10_isTooGreat_16 ?_
  refine lv_iload_n hx hb dX10_isTooGreat_19 rfl (lv_at hl 0 rfl) ?_
  refine x_iald (v := 0) hx hb hE hP 1 rfl 2 (x_in (by decide)) (by decide) rfl dX10_isTooGreat_20 ?_
  refine lv_sipush (v := 20000) hx hb dX10_isTooGreat_21 (by decide) ?_
  refine lv_icmp_le (tgt := 31) hx hb dX10_isTooGreat_24 (by decide) (fun _ => ?_) (fun h => absurd (by decide) h)
  refine lv_iconst (v := 0) hx hb dX10_isTooGreat_31 (by decide) ?_
  refine x_ior (v := 0) hx hb dX10_isTooGreat_32 (by decide) ?_
  refine lv_istore_n (lv' := [(1, .int 0), (2, .int 2), (0, .ref q1)]) hx hb dX10_isTooGreat_33 rfl hl (by decide) rfl (fun ls hl => ?_)
  refine lv_iinc (v := 3) (lv' := [(2, .int 3), (1, .int 0), (0, .ref q1)]) hx hb dX10_isTooGreat_34 hl (k := 1) rfl (by decide) (by decide) rfl (fun ls hl => ?_)
  refine lv_goto (tgt := 8) hx hb dX10_isTooGreat_37 (by decide) ?_
  refine lv_iload_n hx hb dX10_isTooGreat_8 rfl (lv_at hl 0 rfl) ?_
  refine lv_bipush (v := 8) hx hb dX10_isTooGreat_9 (by decide) ?_
  refine lv_icmp_ge (tgt := 40) hx hb dX10_isTooGreat_11 (by decide) (fun h => absurd h (by decide)) (fun _ => ?_)
  refine lv_iload_n hx hb dX10_isTooGreat_14 rfl (lv_at hl 1 rfl) ?_
  refine lv_aload_n hx hb dX10_isTooGreat_15 rfl (lv_at hl 2 rfl) ?_
  refine gf_RX10_22 hx hb hown hE hP 3 rfl rfl dX10_isTooGreat_16 ?_
  refine lv_iload_n hx hb dX10_isTooGreat_19 rfl (lv_at hl 0 rfl) ?_
  refine x_iald (v := 0) hx hb hE hP 1 rfl 3 (x_in (by decide)) (by decide) rfl dX10_isTooGreat_20 ?_
  refine lv_sipush (v := 20000) hx hb dX10_isTooGreat_21 (by decide) ?_
  refine lv_icmp_le (tgt := 31) hx hb dX10_isTooGreat_24 (by decide) (fun _ => ?_) (fun h => absurd (by decide) h)
  refine lv_iconst (v := 0) hx hb dX10_isTooGreat_31 (by decide) ?_
  refine x_ior (v := 0) hx hb dX10_isTooGreat_32 (by decide) ?_
  refine lv_istore_n (lv' := [(1, .int 0), (2, .int 3), (0, .ref q1)]) hx hb dX10_isTooGreat_33 rfl hl (by decide) rfl (fun ls hl => ?_)
  refine lv_iinc (v := 4) (lv' := [(2, .int 4), (1, .int 0), (0, .ref q1)]) hx hb dX10_isTooGreat_34 hl (k := 1) rfl (by decide) (by decide) rfl (fun ls hl => ?_)
  refine lv_goto (tgt := 8) hx hb dX10_isTooGreat_37 (by decide) ?_
  refine lv_iload_n hx hb dX10_isTooGreat_8 rfl (lv_at hl 0 rfl) ?_
  refine lv_bipush (v := 8) hx hb dX10_isTooGreat_9 (by decide) ?_
  refine lv_icmp_ge (tgt := 40) hx hb dX10_isTooGreat_11 (by decide) (fun h => absurd h (by decide)) (fun _ => ?_)
  refine lv_iload_n hx hb dX10_isTooGreat_14 rfl (lv_at hl 1 rfl) ?_
  refine lv_aload_n hx hb dX10_isTooGreat_15 rfl (lv_at hl 2 rfl) ?_
  refine gf_RX10_22 hx hb hown hE hP 3 rfl rfl dX10_isTooGreat_16 ?_
  refine lv_iload_n hx hb dX10_isTooGreat_19 rfl (lv_at hl 0 rfl) ?_
  refine x_iald (v := 0) hx hb hE hP 1 rfl 4 (x_in (by decide)) (by decide) rfl dX10_isTooGreat_20 ?_
  refine lv_sipush (v := 20000) hx hb dX10_isTooGreat_21 (by decide) ?_
  refine lv_icmp_le (tgt := 31) hx hb dX10_isTooGreat_24 (by decide) (fun _ => ?_) (fun h => absurd (by decide) h)
  refine lv_iconst (v := 0) hx hb dX10_isTooGreat_31 (by decide) ?_
  refine x_ior (v := 0) hx hb dX10_isTooGreat_32 (by decide) ?_
  refine lv_istore_n (lv' := [(1, .int 0), (2, .int 4), (0, .ref q1)]) hx hb dX10_isTooGreat_33 rfl hl (by decide) rfl (fun ls hl => ?_)
  refine lv_iinc (v := 5) (lv' := [(2, .int 5), (1, .int 0), (0, .ref q1)]) hx hb dX10_isTooGreat_34 hl (k := 1) rfl (by decide) (by decide) rfl (fun ls hl => ?_)
  refine lv_goto (tgt := 8) hx hb dX10_isTooGreat_37 (by decide) ?_
  refine lv_iload_n hx hb dX10_isTooGreat_8 rfl (lv_at hl 0 rfl) ?_
  refine lv_bipush (v := 8) hx hb dX10_isTooGreat_9 (by decide) ?_
  refine lv_icmp_ge (tgt := 40) hx hb dX10_isTooGreat_11 (by decide) (fun h => absurd h (by decide)) (fun _ => ?_)
  refine lv_iload_n hx hb dX10_isTooGreat_14 rfl (lv_at hl 1 rfl) ?_
  refine lv_aload_n hx hb dX10_isTooGreat_15 rfl (lv_at hl 2 rfl) ?_
  refine gf_RX10_22 hx hb hown hE hP 3 rfl rfl dX10_isTooGreat_16 ?_
  refine lv_iload_n hx hb dX10_isTooGreat_19 rfl (lv_at hl 0 rfl) ?_
  refine x_iald (v := 0) hx hb hE hP 1 rfl 5 (x_in (by decide)) (by decide) rfl dX10_isTooGreat_20 ?_
  refine lv_sipush (v := 20000) hx hb dX10_isTooGreat_21 (by decide) ?_
  refine lv_icmp_le (tgt := 31) hx hb dX10_isTooGreat_24 (by decide) (fun _ => ?_) (fun h => absurd (by decide) h)
  refine lv_iconst (v := 0) hx hb dX10_isTooGreat_31 (by decide) ?_
  refine x_ior (v := 0) hx hb dX10_isTooGreat_32 (by decide) ?_
  refine lv_istore_n (lv' := [(1, .int 0), (2, .int 5), (0, .ref q1)]) hx hb dX10_isTooGreat_33 rfl hl (by decide) rfl (fun ls hl => ?_)
  refine lv_iinc (v := 6) (lv' := [(2, .int 6), (1, .int 0), (0, .ref q1)]) hx hb dX10_isTooGreat_34 hl (k := 1) rfl (by decide) (by decide) rfl (fun ls hl => ?_)
  refine lv_goto (tgt := 8) hx hb dX10_isTooGreat_37 (by decide) ?_
  refine lv_iload_n hx hb dX10_isTooGreat_8 rfl (lv_at hl 0 rfl) ?_
  refine lv_bipush (v := 8) hx hb dX10_isTooGreat_9 (by decide) ?_
  refine lv_icmp_ge (tgt := 40) hx hb dX10_isTooGreat_11 (by decide) (fun h => absurd h (by decide)) (fun _ => ?_)
  refine lv_iload_n hx hb dX10_isTooGreat_14 rfl (lv_at hl 1 rfl) ?_
  refine lv_aload_n hx hb dX10_isTooGreat_15 rfl (lv_at hl 2 rfl) ?_
  refine gf_RX10_22 hx hb hown hE hP 3 rfl rfl dX10_isTooGreat_16 ?_
  refine lv_iload_n hx hb dX10_isTooGreat_19 rfl (lv_at hl 0 rfl) ?_
  refine x_iald (v := 0) hx hb hE hP 1 rfl 6 (x_in (by decide)) (by decide) rfl dX10_isTooGreat_20 ?_
  refine lv_sipush (v := 20000) hx hb dX10_isTooGreat_21 (by decide) ?_
  refine lv_icmp_le (tgt := 31) hx hb dX10_isTooGreat_24 (by decide) (fun _ => ?_) (fun h => absurd (by decide) h)
  refine lv_iconst (v := 0) hx hb dX10_isTooGreat_31 (by decide) ?_
  refine x_ior (v := 0) hx hb dX10_isTooGreat_32 (by decide) ?_
  refine lv_istore_n (lv' := [(1, .int 0), (2, .int 6), (0, .ref q1)]) hx hb dX10_isTooGreat_33 rfl hl (by decide) rfl (fun ls hl => ?_)
  refine lv_iinc (v := 7) (lv' := [(2, .int 7), (1, .int 0), (0, .ref q1)]) hx hb dX10_isTooGreat_34 hl (k := 1) rfl (by decide) (by decide) rfl (fun ls hl => ?_)
  refine lv_goto (tgt := 8) hx hb dX10_isTooGreat_37 (by decide) ?_
  refine lv_iload_n hx hb dX10_isTooGreat_8 rfl (lv_at hl 0 rfl) ?_
  refine lv_bipush (v := 8) hx hb dX10_isTooGreat_9 (by decide) ?_
  refine lv_icmp_ge (tgt := 40) hx hb dX10_isTooGreat_11 (by decide) (fun h => absurd h (by decide)) (fun _ => ?_)
  refine lv_iload_n hx hb dX10_isTooGreat_14 rfl (lv_at hl 1 rfl) ?_
  refine lv_aload_n hx hb dX10_isTooGreat_15 rfl (lv_at hl 2 rfl) ?_
  refine gf_RX10_22 hx hb hown hE hP 3 rfl rfl dX10_isTooGreat_16 ?_
  refine lv_iload_n hx hb dX10_isTooGreat_19 rfl (lv_at hl 0 rfl) ?_
  refine x_iald (v := 0) hx hb hE hP 1 rfl 7 (x_in (by decide)) (by decide) rfl dX10_isTooGreat_20 ?_
  refine lv_sipush (v := 20000) hx hb dX10_isTooGreat_21 (by decide) ?_
  refine lv_icmp_le (tgt := 31) hx hb dX10_isTooGreat_24 (by decide) (fun _ => ?_) (fun h => absurd (by decide) h)
  refine lv_iconst (v := 0) hx hb dX10_isTooGreat_31 (by decide) ?_
  refine x_ior (v := 0) hx hb dX10_isTooGreat_32 (by decide) ?_
  refine lv_istore_n (lv' := [(1, .int 0), (2, .int 7), (0, .ref q1)]) hx hb dX10_isTooGreat_33 rfl hl (by decide) rfl (fun ls hl => ?_)
  refine lv_iinc (v := 8) (lv' := [(2, .int 8), (1, .int 0), (0, .ref q1)]) hx hb dX10_isTooGreat_34 hl (k := 1) rfl (by decide) (by decide) rfl (fun ls hl => ?_)
  refine lv_goto (tgt := 8) hx hb dX10_isTooGreat_37 (by decide) ?_
  refine lv_iload_n hx hb dX10_isTooGreat_8 rfl (lv_at hl 0 rfl) ?_
  refine lv_bipush (v := 8) hx hb dX10_isTooGreat_9 (by decide) ?_
  refine lv_icmp_ge (tgt := 40) hx hb dX10_isTooGreat_11 (by decide) (fun _ => ?_) (fun h => absurd (by decide) h)
  refine lv_iconst (v := 0) hx hb dX10_isTooGreat_40 (by decide) ?_
  refine lv_istore_n (lv' := [(2, .int 0), (1, .int 0), (0, .ref q1)]) hx hb dX10_isTooGreat_41 rfl hl (by decide) rfl (fun ls hl => ?_)
  refine lv_iconst (v := 0) hx hb dX10_isTooGreat_42 (by decide) ?_
  refine lv_istore_n (lv' := [(3, .int 0), (2, .int 0), (1, .int 0), (0, .ref q1)]) hx hb dX10_isTooGreat_43 rfl hl (by decide) rfl (fun ls hl => ?_)
  refine lv_iload_n hx hb dX10_isTooGreat_44 rfl (lv_at hl 0 rfl) ?_
  refine lv_aload_n hx hb dX10_isTooGreat_45 rfl (lv_at hl 3 rfl) ?_
  refine gf_RX10_9 hx hb hown hE hP 3 rfl rfl dX10_isTooGreat_46 ?_
  refine lv_sipush (v := 392) hx hb dX10_isTooGreat_49 (by decide) ?_
  refine x_iald (v := 0) hx hb hE hP 2 rfl 392 (x_in (by decide)) (by decide) hf67 dX10_isTooGreat_52 ?_
  refine lv_icmp_ge (tgt := 115) hx hb dX10_isTooGreat_53 (by decide) (fun _ => ?_) (fun h => absurd (by decide) h)
  refine lv_iload_n hx hb dX10_isTooGreat_115 rfl (lv_at hl 2 rfl) ?_
  refine lv_if_ne (tgt := 126) hx hb dX10_isTooGreat_116 (by decide) (fun h => absurd h (by decide)) (fun _ => ?_)
  refine lv_iload_n hx hb dX10_isTooGreat_119 rfl (lv_at hl 1 rfl) ?_
  refine lv_sipush (v := 300) hx hb dX10_isTooGreat_120 (by decide) ?_
  refine lv_icmp_le (tgt := 130) hx hb dX10_isTooGreat_123 (by decide) (fun _ => ?_) (fun h => absurd (by decide) h)
  refine lv_iconst (v := 0) hx hb dX10_isTooGreat_130 (by decide) ?_
  exact x_zret hx hb hr rfl rfl hlocks hP hD hS hAe hsz (Nat.le_of_ble_eq_true rfl) (Nat.le_of_ble_eq_true rfl) (fun _ => 0) [0, 1, 2, 3] (by decide) rfl dX10_isTooGreat_131

set_option maxHeartbeats 4000000 in
set_option maxRecDepth 100000 in
theorem c779_X10_adds (l : Launch) (g : gG) (q1 q41 q44 q45 : Nat) (x2 x3 : Int32) (w5 w6 w7 w8 w9 w10 w13 w14 w15 w16 w17 w18 w19 w20 w21 w22 w23 w24 w25 w26 w27 w28 w29 w30 w31 w32 w33 w34 w35 w36 w37 w38 w39 w40 : Value) (f42 : Nat → Int32) (hf43 : f42 147 = 0) (hf46 : f42 0 = 0) (hf47 : f42 49 = 0) (hf48 : f42 98 = 0) (hf56 : f42 196 = 0) (hf58 : f42 245 = 0) (hf60 : f42 294 = 0) (hf62 : f42 343 = 0) (hf64 : f42 392 = 0) (h53 : (0 : Int32) ≤ x2) (h54 : x2 < 8) (sz : Nat) : Met l yX10_adds [Cond.code yX10_adds cX10_adds 8 (some .boolean)] ({ frames := 4, cells := 0, slots := 0, locals := 91 } : Room) (va_Pc [.ref q1, .int 3, .int 2, .int x2, .int x3, .int (-1)] (PX g sz [(q45, .inl (g.2 0, 8, .inl (fun _ => 0))), (q44, .inl (g.2 0, 8, .inl (fun _ => 0))), (q41, .inl (g.2 0, 497, .inl f42)), (q1, .inr (12, [.ref q41, w5, w6, w7, w8, w9, w10, .ref q44, .ref q45, w13, w14, w15, w16, w17, w18, w19, w20, w21, w22, w23, w24, w25, w26, w27, w28, w29, w30, w31, w32, w33, w34, w35, w36, w37, w38, w39, w40]))])) (QI g [(q45, .inl (g.2 0, 8, .inl (fun _ => 0))), (q44, .inl (g.2 0, 8, .inl (fun _ => 0))), (q41, .inl (g.2 0, 497, .inl f42)), (q1, .inr (12, [.ref q41, w5, w6, w7, w8, w9, w10, .ref q44, .ref q45, w13, w14, w15, w16, w17, w18, w19, w20, w21, w22, w23, w24, w25, w26, w27, w28, w29, w30, w31, w32, w33, w34, w35, w36, w37, w38, w39, w40]))] sz 1 (fun _ => [(q45, .inl (g.2 0, 8, .inl (fun _ => 0))), (q44, .inl (g.2 0, 8, .inl (fun _ => 0))), (q41, .inl (g.2 0, 497, .inl (upd (upd (upd (upd (upd f42 148 2) 149 x2) 150 x3) 151 (-1)) 147 1))), (q1, .inr (12, [.ref q41, w5, w6, w7, w8, w9, w10, .ref q44, .ref q45, w13, w14, w15, w16, w17, w18, w19, w20, w21, w22, w23, w24, w25, w26, w27, w28, w29, w30, w31, w32, w33, w34, w35, w36, w37, w38, w39, w40]))])) 0 0 (va_A [(q45, .inl (g.2 0, 8, .inl (fun _ => 0))), (q44, .inl (g.2 0, 8, .inl (fun _ => 0))), (q41, .inl (g.2 0, 497, .inl f42)), (q1, .inr (12, [.ref q41, w5, w6, w7, w8, w9, w10, .ref q44, .ref q45, w13, w14, w15, w16, w17, w18, w19, w20, w21, w22, w23, w24, w25, w26, w27, w28, w29, w30, w31, w32, w33, w34, w35, w36, w37, w38, w39, w40]))] sz) := by
  refine ofN (by decide) (Nat.le_of_ble_eq_true rfl) rfl ?_
  intro p e s m args below meth c A ls hAe hsz hx hb hml hr hlocks hin hown hE hP hD hA hS hl
  have hown : s.vm.findClass RX10 = some m.cls := hown
  refine lv_iload_n hx hb dX10_adds_0 rfl (lv_at hl 1 rfl) ?_
  refine g0_i (rS (rest := []) hx hb hml hown hE hP hD (c207_X10_itemsAt l g s.heap.size) (kS_X10_itemsAt hE (e1445 hE) rfl rfl ⟨(Nat.le_of_ble_eq_true rfl), (Nat.le_of_ble_eq_true rfl)⟩) [] rfl (by decide) rfl hl.1 rfl (lv_room (Nat.le_of_ble_eq_true rfl)) dX10_adds_1 ⟨(Nat.le_of_ble_eq_true rfl), (Nat.le_of_ble_eq_true rfl)⟩) hP hD hS hA (fun u9 H locs hP hS => ?_)
  refine lv_istore (lv' := [(6, .int 147), (0, .ref q1), (1, .int 3), (2, .int 2), (3, .int x2), (4, .int x3), (5, .int (-1))]) hx hb dX10_adds_4 hl (by decide) rfl (fun ls hl => ?_)
  refine lv_aload_n hx hb dX10_adds_6 rfl (lv_at hl 1 rfl) ?_
  refine gf_RX10_9 hx hb hown hE hP 3 rfl rfl dX10_adds_7 ?_
  refine lv_iload hx hb dX10_adds_10 (lv_at hl 0 rfl) ?_
  refine x_iald (v := 0) hx hb hE hP 2 rfl 147 (x_in (by decide)) (by decide) hf43 dX10_adds_12 ?_
  refine lv_bipush (v := 12) hx hb dX10_adds_13 (by decide) ?_
  refine lv_icmp_ne (tgt := 20) hx hb dX10_adds_15 (by decide) (fun _ => ?_) (fun h => absurd h (by decide))
  refine lv_iload hx hb dX10_adds_20 (lv_at hl 0 rfl) ?_
  refine lv_iconst (v := 1) hx hb dX10_adds_22 (by decide) ?_
  refine x_iadd (v := 148) hx hb dX10_adds_23 (by decide) ?_
  refine lv_iconst (v := 4) hx hb dX10_adds_24 (by decide) ?_
  refine lv_aload_n hx hb dX10_adds_25 rfl (lv_at hl 1 rfl) ?_
  refine gf_RX10_9 hx hb hown hE hP 3 rfl rfl dX10_adds_26 ?_
  refine lv_iload hx hb dX10_adds_29 (lv_at hl 0 rfl) ?_
  refine x_iald (v := 0) hx hb hE hP 2 rfl 147 (x_in (by decide)) (by decide) hf43 dX10_adds_31 ?_
  refine x_imul (v := 0) hx hb dX10_adds_32 (by decide) ?_
  refine x_iadd (v := 148) hx hb dX10_adds_33 (by decide) ?_
  refine lv_istore (lv' := [(7, .int 148), (6, .int 147), (0, .ref q1), (1, .int 3), (2, .int 2), (3, .int x2), (4, .int x3), (5, .int (-1))]) hx hb dX10_adds_34 hl (by decide) rfl (fun ls hl => ?_)
  refine lv_aload_n hx hb dX10_adds_36 rfl (lv_at hl 2 rfl) ?_
  refine gf_RX10_9 hx hb hown hE hP 3 rfl rfl dX10_adds_37 ?_
  refine lv_iload hx hb dX10_adds_40 (lv_at hl 0 rfl) ?_
  refine lv_iload_n hx hb dX10_adds_42 rfl (lv_at hl 4 rfl) ?_
  refine x_iast (ws' := [(q45, .inl (g.2 0, 8, .inl (fun _ => 0))), (q44, .inl (g.2 0, 8, .inl (fun _ => 0))), (q41, .inl (g.2 0, 497, .inl (upd f42 148 2))), (q1, .inr (12, [.ref q41, w5, w6, w7, w8, w9, w10, .ref q44, .ref q45, w13, w14, w15, w16, w17, w18, w19, w20, w21, w22, w23, w24, w25, w26, w27, w28, w29, w30, w31, w32, w33, w34, w35, w36, w37, w38, w39, w40]))]) hx hb hE hP hD hS 2 rfl 148 (x_in (by decide)) (by decide) dX10_adds_43 rfl (fun H locs hP hD hS => ?_)
  refine lv_aload_n hx hb dX10_adds_44 rfl (lv_at hl 2 rfl) ?_
  refine gf_RX10_9 hx hb hown hE hP 3 rfl rfl dX10_adds_45 ?_
  refine lv_iload hx hb dX10_adds_48 (lv_at hl 0 rfl) ?_
  refine lv_iconst (v := 1) hx hb dX10_adds_50 (by decide) ?_
  refine x_iadd (v := 149) hx hb dX10_adds_51 (by decide) ?_
  refine lv_iload_n hx hb dX10_adds_52 rfl (lv_at hl 5 rfl) ?_
  refine x_iast (ws' := [(q45, .inl (g.2 0, 8, .inl (fun _ => 0))), (q44, .inl (g.2 0, 8, .inl (fun _ => 0))), (q41, .inl (g.2 0, 497, .inl (upd (upd f42 148 2) 149 x2))), (q1, .inr (12, [.ref q41, w5, w6, w7, w8, w9, w10, .ref q44, .ref q45, w13, w14, w15, w16, w17, w18, w19, w20, w21, w22, w23, w24, w25, w26, w27, w28, w29, w30, w31, w32, w33, w34, w35, w36, w37, w38, w39, w40]))]) hx hb hE hP hD hS 2 rfl 149 (x_in (by decide)) (by decide) dX10_adds_53 rfl (fun H locs hP hD hS => ?_)
  refine lv_aload_n hx hb dX10_adds_54 rfl (lv_at hl 2 rfl) ?_
  refine gf_RX10_9 hx hb hown hE hP 3 rfl rfl dX10_adds_55 ?_
  refine lv_iload hx hb dX10_adds_58 (lv_at hl 0 rfl) ?_
  refine lv_iconst (v := 2) hx hb dX10_adds_60 (by decide) ?_
  refine x_iadd (v := 150) hx hb dX10_adds_61 (by decide) ?_
  refine lv_iload hx hb dX10_adds_62 (lv_at hl 6 rfl) ?_
  refine x_iast (ws' := [(q45, .inl (g.2 0, 8, .inl (fun _ => 0))), (q44, .inl (g.2 0, 8, .inl (fun _ => 0))), (q41, .inl (g.2 0, 497, .inl (upd (upd (upd f42 148 2) 149 x2) 150 x3))), (q1, .inr (12, [.ref q41, w5, w6, w7, w8, w9, w10, .ref q44, .ref q45, w13, w14, w15, w16, w17, w18, w19, w20, w21, w22, w23, w24, w25, w26, w27, w28, w29, w30, w31, w32, w33, w34, w35, w36, w37, w38, w39, w40]))]) hx hb hE hP hD hS 2 rfl 150 (x_in (by decide)) (by decide) dX10_adds_64 rfl (fun H locs hP hD hS => ?_)
  refine lv_aload_n hx hb dX10_adds_65 rfl (lv_at hl 2 rfl) ?_
  refine gf_RX10_9 hx hb hown hE hP 3 rfl rfl dX10_adds_66 ?_
  refine lv_iload hx hb dX10_adds_69 (lv_at hl 0 rfl) ?_
  refine lv_iconst (v := 3) hx hb dX10_adds_71 (by decide) ?_
  refine x_iadd (v := 151) hx hb dX10_adds_72 (by decide) ?_
  refine lv_iload hx hb dX10_adds_73 (lv_at hl 7 rfl) ?_
  refine x_iast (ws' := [(q45, .inl (g.2 0, 8, .inl (fun _ => 0))), (q44, .inl (g.2 0, 8, .inl (fun _ => 0))), (q41, .inl (g.2 0, 497, .inl (upd (upd (upd (upd f42 148 2) 149 x2) 150 x3) 151 (-1)))), (q1, .inr (12, [.ref q41, w5, w6, w7, w8, w9, w10, .ref q44, .ref q45, w13, w14, w15, w16, w17, w18, w19, w20, w21, w22, w23, w24, w25, w26, w27, w28, w29, w30, w31, w32, w33, w34, w35, w36, w37, w38, w39, w40]))]) hx hb hE hP hD hS 2 rfl 151 (x_in (by decide)) (by decide) dX10_adds_75 rfl (fun H locs hP hD hS => ?_)
  refine lv_aload_n hx hb dX10_adds_76 rfl (lv_at hl 2 rfl) ?_
  refine gf_RX10_9 hx hb hown hE hP 3 rfl rfl dX10_adds_77 ?_
  refine lv_iload hx hb dX10_adds_80 (lv_at hl 1 rfl) ?_
  refine lv_dup2_11 hx hb dX10_adds_82 rfl rfl ?_
  refine x_iald (v := 0) hx hb hE hP 2 rfl 147 (x_in (by decide)) (by decide) ((pk_un (by decide)).trans ((pk_un (by decide)).trans ((pk_un (by decide)).trans ((pk_un (by decide)).trans hf43)))) dX10_adds_83 ?_
  refine lv_iconst (v := 1) hx hb dX10_adds_84 (by decide) ?_
  refine x_iadd (v := 1) hx hb dX10_adds_85 (by decide) ?_
  refine x_iast (ws' := [(q45, .inl (g.2 0, 8, .inl (fun _ => 0))), (q44, .inl (g.2 0, 8, .inl (fun _ => 0))), (q41, .inl (g.2 0, 497, .inl (upd (upd (upd (upd (upd f42 148 2) 149 x2) 150 x3) 151 (-1)) 147 1))), (q1, .inr (12, [.ref q41, w5, w6, w7, w8, w9, w10, .ref q44, .ref q45, w13, w14, w15, w16, w17, w18, w19, w20, w21, w22, w23, w24, w25, w26, w27, w28, w29, w30, w31, w32, w33, w34, w35, w36, w37, w38, w39, w40]))]) hx hb hE hP hD hS 2 rfl 147 (x_in (by decide)) (by decide) dX10_adds_86 rfl (fun H locs hP hD hS => ?_)
  refine lv_aload_n hx hb dX10_adds_87 rfl (lv_at hl 2 rfl) ?_
  refine g_i (wr := []) (rV (rest := []) hx hb hml hown hE hP hD 3 rfl rfl (c778_X10_isTooGreat l g q1 q41 q44 q45 x3 x2 w5 w6 w7 w8 w9 w10 w13 w14 w15 w16 w17 w18 w19 w20 w21 w22 w23 w24 w25 w26 w27 w28 w29 w30 w31 w32 w33 w34 w35 w36 w37 w38 w39 w40 (upd (upd (upd (upd (upd f42 148 2) 149 x2) 150 x3) 151 (-1)) 147 1) (((pk_un (by decide)).trans ((pk_un (by decide)).trans ((pk_un (by decide)).trans ((pk_un (by decide)).trans ((pk_un (by decide)).trans hf46)))))) (((pk_un (by decide)).trans ((pk_un (by decide)).trans ((pk_un (by decide)).trans ((pk_un (by decide)).trans ((pk_un (by decide)).trans hf47)))))) (((pk_un (by decide)).trans ((pk_un (by decide)).trans ((pk_un (by decide)).trans ((pk_un (by decide)).trans ((pk_un (by decide)).trans hf48)))))) (pk_us) (((pk_un (by decide)).trans ((pk_un (by decide)).trans ((pk_un (by decide)).trans ((pk_un (by decide)).trans pk_us))))) (((pk_un (by decide)).trans ((pk_un (by decide)).trans pk_us))) (((pk_un (by decide)).trans ((pk_un (by decide)).trans ((pk_un (by decide)).trans pk_us)))) (((pk_un (by decide)).trans ((pk_un (by decide)).trans ((pk_un (by decide)).trans ((pk_un (by decide)).trans ((pk_un (by decide)).trans hf56)))))) (((pk_un (by decide)).trans ((pk_un (by decide)).trans ((pk_un (by decide)).trans ((pk_un (by decide)).trans ((pk_un (by decide)).trans hf58)))))) (((pk_un (by decide)).trans ((pk_un (by decide)).trans ((pk_un (by decide)).trans ((pk_un (by decide)).trans ((pk_un (by decide)).trans hf60)))))) (((pk_un (by decide)).trans ((pk_un (by decide)).trans ((pk_un (by decide)).trans ((pk_un (by decide)).trans ((pk_un (by decide)).trans hf62)))))) (((pk_un (by decide)).trans ((pk_un (by decide)).trans ((pk_un (by decide)).trans ((pk_un (by decide)).trans ((pk_un (by decide)).trans hf64)))))) h53 h54 H.size) (kV_X10_isTooGreat hE (e1448 hE) rfl rfl ⟨(Nat.le_of_ble_eq_true rfl), (Nat.le_of_ble_eq_true rfl)⟩) [0, 1, 2, 3] rfl (by decide) rfl hl.1 rfl (lv_room (Nat.le_of_ble_eq_true rfl)) dX10_adds_88 ⟨(Nat.le_of_ble_eq_true rfl), (Nat.le_of_ble_eq_true rfl)⟩) hP hD hS hA [0, 1, 2, 3] [] rfl rfl (by decide) (by decide) (fun u2 H locs hP hD hS => ?_)
  have hP : va_P g.1 vwCl [(q45, .inl (g.2 0, 8, .inl (fun _ => 0))), (q44, .inl (g.2 0, 8, .inl (fun _ => 0))), (q41, .inl (g.2 0, 497, .inl (upd (upd (upd (upd (upd f42 148 2) 149 x2) 150 x3) 151 (-1)) 147 1))), (q1, .inr (12, [.ref q41, w5, w6, w7, w8, w9, w10, .ref q44, .ref q45, w13, w14, w15, w16, w17, w18, w19, w20, w21, w22, w23, w24, w25, w26, w27, w28, w29, w30, w31, w32, w33, w34, w35, w36, w37, w38, w39, w40]))] H := hP
  have hD : va_D A [(q45, .inl (g.2 0, 8, .inl (fun _ => 0))), (q44, .inl (g.2 0, 8, .inl (fun _ => 0))), (q41, .inl (g.2 0, 497, .inl (upd (upd (upd (upd (upd f42 148 2) 149 x2) 150 x3) 151 (-1)) 147 1))), (q1, .inr (12, [.ref q41, w5, w6, w7, w8, w9, w10, .ref q44, .ref q45, w13, w14, w15, w16, w17, w18, w19, w20, w21, w22, w23, w24, w25, w26, w27, w28, w29, w30, w31, w32, w33, w34, w35, w36, w37, w38, w39, w40]))] := hD
  refine lv_if_ne (tgt := 98) hx hb dX10_adds_91 (by decide) (fun h => absurd h (by decide)) (fun _ => ?_)
  refine lv_iconst (v := 1) hx hb dX10_adds_94 (by decide) ?_
  refine lv_goto (tgt := 99) hx hb dX10_adds_95 (by decide) ?_
  exact x_zret hx hb hr rfl rfl hlocks hP hD hS hAe hsz (Nat.le_of_ble_eq_true rfl) (Nat.le_of_ble_eq_true rfl) (fun _ => 0) [0, 1, 2, 3] (by decide) rfl dX10_adds_99

set_option maxHeartbeats 4000000 in
set_option maxRecDepth 100000 in
theorem c780_X10_added (l : Launch) (g : gG) (q1 q45 q46 q50 q51 q68 : Nat) (x2 x3 : Int32) (w9 w11 w14 w17 w18 w19 w20 w21 w22 w23 w24 w25 w26 w27 w28 w29 w30 w31 w32 w33 w34 w35 w36 w37 w38 w39 w40 w41 w42 w43 w44 : Value) (f47 : Nat → Int32) (f69 : Nat → Int32) (hf49 : f47 147 = 0) (hf52 : f47 0 = 0) (hf53 : f47 49 = 0) (hf54 : f47 98 = 0) (hf59 : f47 196 = 0) (hf61 : f47 245 = 0) (hf63 : f47 294 = 0) (hf65 : f47 343 = 0) (hf67 : f47 392 = 0) (h4 : (0 : Int32) ≤ x2) (h5 : x2 ≤ 2) (h6 : (1 : Int32) ≤ x3) (h7 : x3 ≤ 9) (sz : Nat) : Met l yX10_added [Cond.code yX10_added cX10_added 6 (some .int)] ({ frames := 5, cells := 0, slots := 0, locals := 118 } : Room) (va_Pc [.ref q1, .int 3, .int 2, .int x2, .int x3, .int (-1)] (PX g sz [(q68, .inl (g.2 0, 3976, .inl f69)), (q51, .inl (g.2 0, 8, .inl (fun _ => 0))), (q50, .inl (g.2 0, 8, .inl (fun _ => 0))), (q46, .inl (g.2 0, 497, .inl (fun _ => 0))), (q45, .inl (g.2 0, 497, .inl f47)), (q1, .inr (12, [.ref q45, w9, .ref q46, w11, .ref q68, .int 0, w14, .ref q50, .ref q51, w17, w18, w19, w20, w21, w22, w23, w24, w25, w26, w27, w28, w29, w30, w31, w32, w33, w34, w35, w36, w37, w38, w39, w40, w41, w42, w43, w44]))])) (QI g [(q68, .inl (g.2 0, 3976, .inl f69)), (q51, .inl (g.2 0, 8, .inl (fun _ => 0))), (q50, .inl (g.2 0, 8, .inl (fun _ => 0))), (q46, .inl (g.2 0, 497, .inl (fun _ => 0))), (q45, .inl (g.2 0, 497, .inl f47)), (q1, .inr (12, [.ref q45, w9, .ref q46, w11, .ref q68, .int 0, w14, .ref q50, .ref q51, w17, w18, w19, w20, w21, w22, w23, w24, w25, w26, w27, w28, w29, w30, w31, w32, w33, w34, w35, w36, w37, w38, w39, w40, w41, w42, w43, w44]))] sz 1 (fun _ => [(q51, .inl (g.2 0, 8, .inl (fun _ => 0))), (q50, .inl (g.2 0, 8, .inl (fun _ => 0))), (q68, .inl (g.2 0, 3976, .inl (cpF 497 (cpF 497 f47 (fun _ => 0)) f69))), (q46, .inl (g.2 0, 497, .inl (cpF 497 f47 (fun _ => 0)))), (q45, .inl (g.2 0, 497, .inl (upd (upd (upd (upd (upd f47 148 2) 149 x2) 150 x3) 151 (-1)) 147 1))), (q1, .inr (12, [.ref q45, w9, .ref q46, w11, .ref q68, .int 1, .int 0, .ref q50, .ref q51, w17, w18, w19, w20, w21, w22, w23, w24, w25, w26, w27, w28, w29, w30, w31, w32, w33, w34, w35, w36, w37, w38, w39, w40, w41, w42, w43, w44]))])) 0 0 (va_A [(q68, .inl (g.2 0, 3976, .inl f69)), (q51, .inl (g.2 0, 8, .inl (fun _ => 0))), (q50, .inl (g.2 0, 8, .inl (fun _ => 0))), (q46, .inl (g.2 0, 497, .inl (fun _ => 0))), (q45, .inl (g.2 0, 497, .inl f47)), (q1, .inr (12, [.ref q45, w9, .ref q46, w11, .ref q68, .int 0, w14, .ref q50, .ref q51, w17, w18, w19, w20, w21, w22, w23, w24, w25, w26, w27, w28, w29, w30, w31, w32, w33, w34, w35, w36, w37, w38, w39, w40, w41, w42, w43, w44]))] sz) := by
  refine ofN (by decide) (Nat.le_of_ble_eq_true rfl) rfl ?_
  intro p e s m args below meth c A ls hAe hsz hx hb hml hr hlocks hin hown hE hP hD hA hS hl
  have hown : s.vm.findClass RX10 = some m.cls := hown
  refine lv_aload_n hx hb dX10_added_0 rfl (lv_at hl 0 rfl) ?_
  refine lv_iload_n hx hb dX10_added_1 rfl (lv_at hl 1 rfl) ?_
  refine g0_i (rS (rest := [.ref q1]) hx hb hml hown hE hP hD (c94_X10_isPattern l g 3 (by decide) (by decide) s.heap.size) (kS_X10_isPattern hE (e1428 hE) rfl rfl ⟨(Nat.le_of_ble_eq_true rfl), (Nat.le_of_ble_eq_true rfl)⟩) [] rfl (by decide) rfl hl.1 rfl (lv_room (Nat.le_of_ble_eq_true rfl)) dX10_added_2 ⟨(Nat.le_of_ble_eq_true rfl), (Nat.le_of_ble_eq_true rfl)⟩) hP hD hS hA (fun u9 H locs hP hS => ?_)
  refine lv_if_ne (tgt := 12) hx hb dX10_added_5 (by decide) (fun _ => ?_) (fun h => absurd h (by decide))
  refine lv_iload_n hx hb dX10_added_12 rfl (lv_at hl 1 rfl) ?_
  refine lv_iload_n hx hb dX10_added_13 rfl (lv_at hl 2 rfl) ?_
  refine lv_iload_n hx hb dX10_added_14 rfl (lv_at hl 3 rfl) ?_
  refine lv_iload hx hb dX10_added_15 (lv_at hl 4 rfl) ?_
  refine lv_iload hx hb dX10_added_17 (lv_at hl 5 rfl) ?_
  refine g0_i (rS (rest := [.ref q1]) hx hb hml hown hE hP hD (c774_X10_isRanged l g x2 x3 h4 h5 h6 h7 H.size) (kS_X10_isRanged hE (e1434 hE) rfl rfl ⟨(Nat.le_of_ble_eq_true rfl), (Nat.le_of_ble_eq_true rfl)⟩) [] rfl (by decide) rfl hl.1 rfl (lv_room (Nat.le_of_ble_eq_true rfl)) dX10_added_19 ⟨(Nat.le_of_ble_eq_true rfl), (Nat.le_of_ble_eq_true rfl)⟩) hP hD hS hA (fun u9 H locs hP hS => ?_)
  refine lv_if_ne (tgt := 29) hx hb dX10_added_22 (by decide) (fun _ => ?_) (fun h => absurd h (by decide))
  refine lv_iconst (v := 0) hx hb dX10_added_29 (by decide) ?_
  refine pf_RX10_86 (ws' := [(q68, .inl (g.2 0, 3976, .inl f69)), (q51, .inl (g.2 0, 8, .inl (fun _ => 0))), (q50, .inl (g.2 0, 8, .inl (fun _ => 0))), (q46, .inl (g.2 0, 497, .inl (fun _ => 0))), (q45, .inl (g.2 0, 497, .inl f47)), (q1, .inr (12, [.ref q45, w9, .ref q46, w11, .ref q68, .int 0, .int 0, .ref q50, .ref q51, w17, w18, w19, w20, w21, w22, w23, w24, w25, w26, w27, w28, w29, w30, w31, w32, w33, w34, w35, w36, w37, w38, w39, w40, w41, w42, w43, w44]))]) hx hb hown hE hP hD hS 5 rfl rfl rfl (Nat.le_of_ble_eq_true rfl) dX10_added_30 rfl (fun H locs hP hD hS => ?_)
  refine lv_aload_n hx hb dX10_added_33 rfl (lv_at hl 0 rfl) ?_
  refine gf_RX10_86 hx hb hown hE hP 5 rfl rfl dX10_added_34 ?_
  refine lv_if_le (tgt := 42) hx hb dX10_added_37 (by decide) (fun _ => ?_) (fun h => absurd (by decide) h)
  refine lv_aload_n hx hb dX10_added_42 rfl (lv_at hl 0 rfl) ?_
  refine g_v (wr := [(q68, .inl (g.2 0, 3976, .inl f69)), (q51, .inl (g.2 0, 8, .inl (fun _ => 0))), (q50, .inl (g.2 0, 8, .inl (fun _ => 0)))]) (rV (rest := []) hx hb hml hown hE hP hD 5 rfl rfl (c198_X10_putAside l g q1 q46 q45 w9 w11 (.ref q68) (.int 0) (.int 0) (.ref q50) (.ref q51) w17 w18 w19 w20 w21 w22 w23 w24 w25 w26 w27 w28 w29 w30 w31 w32 w33 w34 w35 w36 w37 w38 w39 w40 w41 w42 w43 w44 f47 (fun _ => 0) H.size) (kV_X10_putAside hE (e1437 hE) rfl rfl ⟨(Nat.le_of_ble_eq_true rfl), (Nat.le_of_ble_eq_true rfl)⟩) [3, 4, 5] rfl (by decide) rfl hl.1 rfl (lv_room (Nat.le_of_ble_eq_true rfl)) dX10_added_43 ⟨(Nat.le_of_ble_eq_true rfl), (Nat.le_of_ble_eq_true rfl)⟩) hP hD hS hA [3, 4, 5] [0, 1, 2] rfl rfl (by decide) (by decide) (fun u3 H locs hP hD hS => ?_)
  have hP : va_P g.1 vwCl [(q68, .inl (g.2 0, 3976, .inl f69)), (q51, .inl (g.2 0, 8, .inl (fun _ => 0))), (q50, .inl (g.2 0, 8, .inl (fun _ => 0))), (q46, .inl (g.2 0, 497, .inl (cpF 497 f47 (fun _ => 0)))), (q45, .inl (g.2 0, 497, .inl f47)), (q1, .inr (12, [.ref q45, w9, .ref q46, w11, .ref q68, .int 0, .int 0, .ref q50, .ref q51, w17, w18, w19, w20, w21, w22, w23, w24, w25, w26, w27, w28, w29, w30, w31, w32, w33, w34, w35, w36, w37, w38, w39, w40, w41, w42, w43, w44]))] H := hP
  have hD : va_D A [(q68, .inl (g.2 0, 3976, .inl f69)), (q51, .inl (g.2 0, 8, .inl (fun _ => 0))), (q50, .inl (g.2 0, 8, .inl (fun _ => 0))), (q46, .inl (g.2 0, 497, .inl (cpF 497 f47 (fun _ => 0)))), (q45, .inl (g.2 0, 497, .inl f47)), (q1, .inr (12, [.ref q45, w9, .ref q46, w11, .ref q68, .int 0, .int 0, .ref q50, .ref q51, w17, w18, w19, w20, w21, w22, w23, w24, w25, w26, w27, w28, w29, w30, w31, w32, w33, w34, w35, w36, w37, w38, w39, w40, w41, w42, w43, w44]))] := hD
  refine lv_aload_n hx hb dX10_added_46 rfl (lv_at hl 0 rfl) ?_
  refine lv_iload_n hx hb dX10_added_47 rfl (lv_at hl 1 rfl) ?_
  refine lv_iload_n hx hb dX10_added_48 rfl (lv_at hl 2 rfl) ?_
  refine lv_iload_n hx hb dX10_added_49 rfl (lv_at hl 3 rfl) ?_
  refine lv_iload hx hb dX10_added_50 (lv_at hl 4 rfl) ?_
  refine lv_iload hx hb dX10_added_52 (lv_at hl 5 rfl) ?_
  refine g_i (wr := [(q68, .inl (g.2 0, 3976, .inl f69)), (q46, .inl (g.2 0, 497, .inl (cpF 497 f47 (fun _ => 0))))]) (rV (rest := []) hx hb hml hown hE hP hD 5 rfl rfl (c779_X10_adds l g q1 q45 q50 q51 x2 x3 w9 (.ref q46) w11 (.ref q68) (.int 0) (.int 0) w17 w18 w19 w20 w21 w22 w23 w24 w25 w26 w27 w28 w29 w30 w31 w32 w33 w34 w35 w36 w37 w38 w39 w40 w41 w42 w43 w44 f47 (hf49) (hf52) (hf53) (hf54) (hf59) (hf61) (hf63) (hf65) (hf67) h4 (i_lelt h5 (by decide)) H.size) (kV_X10_adds hE (e1441 hE) rfl rfl ⟨(Nat.le_of_ble_eq_true rfl), (Nat.le_of_ble_eq_true rfl)⟩) [1, 2, 4, 5] rfl (by decide) rfl hl.1 rfl (lv_room (Nat.le_of_ble_eq_true rfl)) dX10_added_54 ⟨(Nat.le_of_ble_eq_true rfl), (Nat.le_of_ble_eq_true rfl)⟩) hP hD hS hA [1, 2, 4, 5] [0, 3] rfl rfl (by decide) (by decide) (fun u4 H locs hP hD hS => ?_)
  have hP : va_P g.1 vwCl [(q68, .inl (g.2 0, 3976, .inl f69)), (q46, .inl (g.2 0, 497, .inl (cpF 497 f47 (fun _ => 0)))), (q51, .inl (g.2 0, 8, .inl (fun _ => 0))), (q50, .inl (g.2 0, 8, .inl (fun _ => 0))), (q45, .inl (g.2 0, 497, .inl (upd (upd (upd (upd (upd f47 148 2) 149 x2) 150 x3) 151 (-1)) 147 1))), (q1, .inr (12, [.ref q45, w9, .ref q46, w11, .ref q68, .int 0, .int 0, .ref q50, .ref q51, w17, w18, w19, w20, w21, w22, w23, w24, w25, w26, w27, w28, w29, w30, w31, w32, w33, w34, w35, w36, w37, w38, w39, w40, w41, w42, w43, w44]))] H := hP
  have hD : va_D A [(q68, .inl (g.2 0, 3976, .inl f69)), (q46, .inl (g.2 0, 497, .inl (cpF 497 f47 (fun _ => 0)))), (q51, .inl (g.2 0, 8, .inl (fun _ => 0))), (q50, .inl (g.2 0, 8, .inl (fun _ => 0))), (q45, .inl (g.2 0, 497, .inl (upd (upd (upd (upd (upd f47 148 2) 149 x2) 150 x3) 151 (-1)) 147 1))), (q1, .inr (12, [.ref q45, w9, .ref q46, w11, .ref q68, .int 0, .int 0, .ref q50, .ref q51, w17, w18, w19, w20, w21, w22, w23, w24, w25, w26, w27, w28, w29, w30, w31, w32, w33, w34, w35, w36, w37, w38, w39, w40, w41, w42, w43, w44]))] := hD
  refine lv_if_ne (tgt := 70) hx hb dX10_added_57 (by decide) (fun _ => ?_) (fun h => absurd h (by decide))
  refine lv_aload_n hx hb dX10_added_70 rfl (lv_at hl 0 rfl) ?_
  refine g_v (wr := [(q51, .inl (g.2 0, 8, .inl (fun _ => 0))), (q50, .inl (g.2 0, 8, .inl (fun _ => 0))), (q45, .inl (g.2 0, 497, .inl (upd (upd (upd (upd (upd f47 148 2) 149 x2) 150 x3) 151 (-1)) 147 1)))]) (rV (rest := []) hx hb hml hown hE hP hD 5 rfl rfl (c220_X10_keep l g q1 q68 q46 (.ref q45) w9 w11 (.int 0) (.ref q50) (.ref q51) w17 w18 w19 w20 w21 w22 w23 w24 w25 w26 w27 w28 w29 w30 w31 w32 w33 w34 w35 w36 w37 w38 w39 w40 w41 w42 w43 w44 (cpF 497 f47 (fun _ => 0)) f69 H.size) (kV_X10_keep hE (e1478 hE) rfl rfl ⟨(Nat.le_of_ble_eq_true rfl), (Nat.le_of_ble_eq_true rfl)⟩) [0, 1, 5] rfl (by decide) rfl hl.1 rfl (lv_room (Nat.le_of_ble_eq_true rfl)) dX10_added_71 ⟨(Nat.le_of_ble_eq_true rfl), (Nat.le_of_ble_eq_true rfl)⟩) hP hD hS hA [0, 1, 5] [2, 3, 4] rfl rfl (by decide) (by decide) (fun u5 H locs hP hD hS => ?_)
  have hP : va_P g.1 vwCl [(q51, .inl (g.2 0, 8, .inl (fun _ => 0))), (q50, .inl (g.2 0, 8, .inl (fun _ => 0))), (q45, .inl (g.2 0, 497, .inl (upd (upd (upd (upd (upd f47 148 2) 149 x2) 150 x3) 151 (-1)) 147 1))), (q68, .inl (g.2 0, 3976, .inl (cpF 497 (cpF 497 f47 (fun _ => 0)) f69))), (q46, .inl (g.2 0, 497, .inl (cpF 497 f47 (fun _ => 0)))), (q1, .inr (12, [.ref q45, w9, .ref q46, w11, .ref q68, .int 1, .int 0, .ref q50, .ref q51, w17, w18, w19, w20, w21, w22, w23, w24, w25, w26, w27, w28, w29, w30, w31, w32, w33, w34, w35, w36, w37, w38, w39, w40, w41, w42, w43, w44]))] H := hP
  have hD : va_D A [(q51, .inl (g.2 0, 8, .inl (fun _ => 0))), (q50, .inl (g.2 0, 8, .inl (fun _ => 0))), (q45, .inl (g.2 0, 497, .inl (upd (upd (upd (upd (upd f47 148 2) 149 x2) 150 x3) 151 (-1)) 147 1))), (q68, .inl (g.2 0, 3976, .inl (cpF 497 (cpF 497 f47 (fun _ => 0)) f69))), (q46, .inl (g.2 0, 497, .inl (cpF 497 f47 (fun _ => 0)))), (q1, .inr (12, [.ref q45, w9, .ref q46, w11, .ref q68, .int 1, .int 0, .ref q50, .ref q51, w17, w18, w19, w20, w21, w22, w23, w24, w25, w26, w27, w28, w29, w30, w31, w32, w33, w34, w35, w36, w37, w38, w39, w40, w41, w42, w43, w44]))] := hD
  refine lv_aload_n hx hb dX10_added_74 rfl (lv_at hl 0 rfl) ?_
  refine lv_iload_n hx hb dX10_added_75 rfl (lv_at hl 1 rfl) ?_
  refine g_i (wr := [(q51, .inl (g.2 0, 8, .inl (fun _ => 0))), (q50, .inl (g.2 0, 8, .inl (fun _ => 0))), (q68, .inl (g.2 0, 3976, .inl (cpF 497 (cpF 497 f47 (fun _ => 0)) f69))), (q46, .inl (g.2 0, 497, .inl (cpF 497 f47 (fun _ => 0))))]) (rV (rest := []) hx hb hml hown hE hP hD 5 rfl rfl (c308_X10_many l g q1 q45 w9 (.ref q46) w11 (.ref q68) (.int 1) (.int 0) (.ref q50) (.ref q51) w17 w18 w19 w20 w21 w22 w23 w24 w25 w26 w27 w28 w29 w30 w31 w32 w33 w34 w35 w36 w37 w38 w39 w40 w41 w42 w43 w44 (upd (upd (upd (upd (upd f47 148 2) 149 x2) 150 x3) 151 (-1)) 147 1) (pk_us) H.size) (kV_X10_many hE (e1456 hE) rfl rfl ⟨(Nat.le_of_ble_eq_true rfl), (Nat.le_of_ble_eq_true rfl)⟩) [2, 5] rfl (by decide) rfl hl.1 rfl (lv_room (Nat.le_of_ble_eq_true rfl)) dX10_added_76 ⟨(Nat.le_of_ble_eq_true rfl), (Nat.le_of_ble_eq_true rfl)⟩) hP hD hS hA [2, 5] [0, 1, 3, 4] rfl rfl (by decide) (by decide) (fun u6 H locs hP hD hS => ?_)
  have hP : va_P g.1 vwCl [(q51, .inl (g.2 0, 8, .inl (fun _ => 0))), (q50, .inl (g.2 0, 8, .inl (fun _ => 0))), (q68, .inl (g.2 0, 3976, .inl (cpF 497 (cpF 497 f47 (fun _ => 0)) f69))), (q46, .inl (g.2 0, 497, .inl (cpF 497 f47 (fun _ => 0)))), (q45, .inl (g.2 0, 497, .inl (upd (upd (upd (upd (upd f47 148 2) 149 x2) 150 x3) 151 (-1)) 147 1))), (q1, .inr (12, [.ref q45, w9, .ref q46, w11, .ref q68, .int 1, .int 0, .ref q50, .ref q51, w17, w18, w19, w20, w21, w22, w23, w24, w25, w26, w27, w28, w29, w30, w31, w32, w33, w34, w35, w36, w37, w38, w39, w40, w41, w42, w43, w44]))] H := hP
  have hD : va_D A [(q51, .inl (g.2 0, 8, .inl (fun _ => 0))), (q50, .inl (g.2 0, 8, .inl (fun _ => 0))), (q68, .inl (g.2 0, 3976, .inl (cpF 497 (cpF 497 f47 (fun _ => 0)) f69))), (q46, .inl (g.2 0, 497, .inl (cpF 497 f47 (fun _ => 0)))), (q45, .inl (g.2 0, 497, .inl (upd (upd (upd (upd (upd f47 148 2) 149 x2) 150 x3) 151 (-1)) 147 1))), (q1, .inr (12, [.ref q45, w9, .ref q46, w11, .ref q68, .int 1, .int 0, .ref q50, .ref q51, w17, w18, w19, w20, w21, w22, w23, w24, w25, w26, w27, w28, w29, w30, w31, w32, w33, w34, w35, w36, w37, w38, w39, w40, w41, w42, w43, w44]))] := hD
  exact x_zret hx hb hr rfl rfl hlocks hP hD hS hAe hsz (Nat.le_of_ble_eq_true rfl) (Nat.le_of_ble_eq_true rfl) (fun _ => 0) [0, 1, 2, 3, 4, 5] (by decide) rfl dX10_added_79

set_option maxHeartbeats 4000000 in
set_option maxRecDepth 100000 in
theorem c781_X10_addCall (l : Launch) (g : gG) (q1 q45 q46 q50 q51 q68 : Nat) (x2 x3 : Int32) (w5 w7 w10 w13 w14 w15 w16 w17 w18 w19 w20 w21 w22 w23 w24 w25 w26 w27 w28 w29 w30 w31 w32 w33 w34 w35 w36 w37 w38 w39 w40 : Value) (f47 : Nat → Int32) (hf49 : f47 147 = 0) (hf52 : f47 0 = 0) (hf53 : f47 49 = 0) (hf54 : f47 98 = 0) (hf59 : f47 196 = 0) (hf61 : f47 245 = 0) (hf63 : f47 294 = 0) (hf65 : f47 343 = 0) (hf67 : f47 392 = 0) (h41 : (0 : Int32) ≤ x2) (h42 : x2 ≤ 2) (h43 : (1 : Int32) ≤ x3) (h44 : x3 ≤ 9) (sz : Nat) : Met l yX10_addCall [Cond.code yX10_addCall cX10_addCall 4 (some .int)] ({ frames := 6, cells := 0, slots := 0, locals := 143 } : Room) (va_Pc [.ref q1, .int 3, .int x2, .int x3] (PX g sz [(q68, .inl (g.2 0, 3976, .inl (fun _ => 0))), (q51, .inl (g.2 0, 8, .inl (fun _ => 0))), (q50, .inl (g.2 0, 8, .inl (fun _ => 0))), (q46, .inl (g.2 0, 497, .inl (fun _ => 0))), (q45, .inl (g.2 0, 497, .inl f47)), (q1, .inr (12, [.ref q45, w5, .ref q46, w7, .ref q68, .int 0, w10, .ref q50, .ref q51, w13, w14, w15, w16, w17, w18, w19, w20, w21, w22, w23, w24, w25, w26, w27, w28, w29, w30, w31, w32, w33, w34, w35, w36, w37, w38, w39, w40]))])) (QI g [(q68, .inl (g.2 0, 3976, .inl (fun _ => 0))), (q51, .inl (g.2 0, 8, .inl (fun _ => 0))), (q50, .inl (g.2 0, 8, .inl (fun _ => 0))), (q46, .inl (g.2 0, 497, .inl (fun _ => 0))), (q45, .inl (g.2 0, 497, .inl f47)), (q1, .inr (12, [.ref q45, w5, .ref q46, w7, .ref q68, .int 0, w10, .ref q50, .ref q51, w13, w14, w15, w16, w17, w18, w19, w20, w21, w22, w23, w24, w25, w26, w27, w28, w29, w30, w31, w32, w33, w34, w35, w36, w37, w38, w39, w40]))] sz 1 (fun _ => [(q1, .inr (12, [.ref q45, w5, .ref q46, w7, .ref q68, .int 1, .int 0, .ref q50, .ref q51, w13, w14, w15, w16, w17, w18, w19, w20, w21, w22, w23, w24, w25, w26, w27, w28, w29, w30, w31, w32, w33, w34, w35, w36, w37, w38, w39, w40]))])) 0 0 (va_A [(q68, .inl (g.2 0, 3976, .inl (fun _ => 0))), (q51, .inl (g.2 0, 8, .inl (fun _ => 0))), (q50, .inl (g.2 0, 8, .inl (fun _ => 0))), (q46, .inl (g.2 0, 497, .inl (fun _ => 0))), (q45, .inl (g.2 0, 497, .inl f47)), (q1, .inr (12, [.ref q45, w5, .ref q46, w7, .ref q68, .int 0, w10, .ref q50, .ref q51, w13, w14, w15, w16, w17, w18, w19, w20, w21, w22, w23, w24, w25, w26, w27, w28, w29, w30, w31, w32, w33, w34, w35, w36, w37, w38, w39, w40]))] sz) := by
  refine ofN (by decide) (Nat.le_of_ble_eq_true rfl) rfl ?_
  intro p e s m args below meth c A ls hAe hsz hx hb hml hr hlocks hin hown hE hP hD hA hS hl
  have hown : s.vm.findClass RX10 = some m.cls := hown
  refine lv_aload_n hx hb dX10_addCall_0 rfl (lv_at hl 0 rfl) ?_
  refine lv_iload_n hx hb dX10_addCall_1 rfl (lv_at hl 1 rfl) ?_
  refine lv_iconst (v := 2) hx hb dX10_addCall_2 (by decide) ?_
  refine lv_iload_n hx hb dX10_addCall_3 rfl (lv_at hl 2 rfl) ?_
  refine lv_iload_n hx hb dX10_addCall_4 rfl (lv_at hl 3 rfl) ?_
  refine lv_iconst (v := (-1)) hx hb dX10_addCall_5 (by decide) ?_
  refine g_i (wr := []) (rV (rest := []) hx hb hml hown hE hP hD 5 rfl rfl (c780_X10_added l g q1 q45 q46 q50 q51 q68 x2 x3 w5 w7 w10 w13 w14 w15 w16 w17 w18 w19 w20 w21 w22 w23 w24 w25 w26 w27 w28 w29 w30 w31 w32 w33 w34 w35 w36 w37 w38 w39 w40 f47 (fun _ => 0) (hf49) (hf52) (hf53) (hf54) (hf59) (hf61) (hf63) (hf65) (hf67) h41 h42 h43 h44 s.heap.size) (kV_X10_added hE (e1424 hE) rfl rfl ⟨(Nat.le_of_ble_eq_true rfl), (Nat.le_of_ble_eq_true rfl)⟩) [0, 1, 2, 3, 4, 5] rfl (by decide) rfl hl.1 rfl (lv_room (Nat.le_of_ble_eq_true rfl)) dX10_addCall_6 ⟨(Nat.le_of_ble_eq_true rfl), (Nat.le_of_ble_eq_true rfl)⟩) hP hD hS hA [0, 1, 2, 3, 4, 5] [] rfl rfl (by decide) (by decide) (fun u1 H locs hP hD hS => ?_)
  have hP : va_P g.1 vwCl [(q51, .inl (g.2 0, 8, .inl (fun _ => 0))), (q50, .inl (g.2 0, 8, .inl (fun _ => 0))), (q68, .inl (g.2 0, 3976, .inl (cpF 497 (cpF 497 f47 (fun _ => 0)) (fun _ => 0)))), (q46, .inl (g.2 0, 497, .inl (cpF 497 f47 (fun _ => 0)))), (q45, .inl (g.2 0, 497, .inl (upd (upd (upd (upd (upd f47 148 2) 149 x2) 150 x3) 151 (-1)) 147 1))), (q1, .inr (12, [.ref q45, w5, .ref q46, w7, .ref q68, .int 1, .int 0, .ref q50, .ref q51, w13, w14, w15, w16, w17, w18, w19, w20, w21, w22, w23, w24, w25, w26, w27, w28, w29, w30, w31, w32, w33, w34, w35, w36, w37, w38, w39, w40]))] H := hP
  have hD : va_D A [(q51, .inl (g.2 0, 8, .inl (fun _ => 0))), (q50, .inl (g.2 0, 8, .inl (fun _ => 0))), (q68, .inl (g.2 0, 3976, .inl (cpF 497 (cpF 497 f47 (fun _ => 0)) (fun _ => 0)))), (q46, .inl (g.2 0, 497, .inl (cpF 497 f47 (fun _ => 0)))), (q45, .inl (g.2 0, 497, .inl (upd (upd (upd (upd (upd f47 148 2) 149 x2) 150 x3) 151 (-1)) 147 1))), (q1, .inr (12, [.ref q45, w5, .ref q46, w7, .ref q68, .int 1, .int 0, .ref q50, .ref q51, w13, w14, w15, w16, w17, w18, w19, w20, w21, w22, w23, w24, w25, w26, w27, w28, w29, w30, w31, w32, w33, w34, w35, w36, w37, w38, w39, w40]))] := hD
  exact x_zret hx hb hr rfl rfl hlocks hP hD hS hAe hsz (Nat.le_of_ble_eq_true rfl) (Nat.le_of_ble_eq_true rfl) (fun _ => 0) [5] (by decide) rfl dX10_addCall_9

set_option maxHeartbeats 4000000 in
set_option maxRecDepth 100000 in
theorem c782_X3_lengthOf (l : Launch) (g : gG) (q1 q4 q10 : Nat) (x7 : Int32) (f5 : Nat → Int32) (f11 : Nat → Int32) (hf6 : f5 146 = x7) (hf8 : f5 144 = 2) (hf9 : f5 145 = 1) (hf12 : f11 6 = 0) (sz : Nat) : Met l yX3_lengthOf [Cond.code yX3_lengthOf cX3_lengthOf 4 (some .int)] ({ frames := 1, cells := 0, slots := 0, locals := 24 } : Room) (va_Pc [.ref q1, .int 3, .int 0] (PX g sz [(q10, .inl (g.2 0, 40, .inl f11)), (q4, .inl (g.2 0, 384, .inl f5)), (q1, .inr (5, [.ref q4, .ref q10]))])) (QI g [(q10, .inl (g.2 0, 40, .inl f11)), (q4, .inl (g.2 0, 384, .inl f5)), (q1, .inr (5, [.ref q4, .ref q10]))] sz 0 (fun _ => [(q4, .inl (g.2 0, 384, .inl f5)), (q10, .inl (g.2 0, 40, .inl f11)), (q1, .inr (5, [.ref q4, .ref q10]))])) 0 0 (va_A [(q10, .inl (g.2 0, 40, .inl f11)), (q4, .inl (g.2 0, 384, .inl f5)), (q1, .inr (5, [.ref q4, .ref q10]))] sz) := by
  refine ofN (by decide) (Nat.le_of_ble_eq_true rfl) rfl ?_
  intro p e s m args below meth c A ls hAe hsz hx hb hml hr hlocks hin hown hE hP hD hA hS hl
  have hown : s.vm.findClass RX3 = some m.cls := hown
  refine lv_aload_n hx hb dX3_lengthOf_0 rfl (lv_at hl 0 rfl) ?_
  refine lv_iload_n hx hb dX3_lengthOf_1 rfl (lv_at hl 1 rfl) ?_
  refine lv_iload_n hx hb dX3_lengthOf_2 rfl (lv_at hl 2 rfl) ?_
  refine lv_iconst (v := 2) hx hb dX3_lengthOf_3 (by decide) ?_
  refine g_i (wr := [(q10, .inl (g.2 0, 40, .inl f11))]) (rV (rest := []) hx hb hml hown hE hP hD 2 rfl rfl (c294_X3_itemNumber l g q1 q4 x7 (.ref q10) f5 (hf6) s.heap.size) (kV_X3_itemNumber hE (e348 hE) rfl rfl ⟨(Nat.le_of_ble_eq_true rfl), (Nat.le_of_ble_eq_true rfl)⟩) [1, 2] rfl (by decide) rfl hl.1 rfl (lv_room (Nat.le_of_ble_eq_true rfl)) dX3_lengthOf_4 ⟨(Nat.le_of_ble_eq_true rfl), (Nat.le_of_ble_eq_true rfl)⟩) hP hD hS hA [1, 2] [0] rfl rfl (by decide) (by decide) (fun u1 H locs hP hD hS => ?_)
  have hP : va_P g.1 vwCl [(q10, .inl (g.2 0, 40, .inl f11)), (q4, .inl (g.2 0, 384, .inl f5)), (q1, .inr (5, [.ref q4, .ref q10]))] H := hP
  have hD : va_D A [(q10, .inl (g.2 0, 40, .inl f11)), (q4, .inl (g.2 0, 384, .inl f5)), (q1, .inr (5, [.ref q4, .ref q10]))] := hD
  refine lv_istore_n (lv' := [(3, .int x7), (0, .ref q1), (1, .int 3), (2, .int 0)]) hx hb dX3_lengthOf_7 rfl hl (by decide) rfl (fun ls hl => ?_)
  refine lv_aload_n hx hb dX3_lengthOf_8 rfl (lv_at hl 1 rfl) ?_
  refine lv_iload_n hx hb dX3_lengthOf_9 rfl (lv_at hl 2 rfl) ?_
  refine lv_iload_n hx hb dX3_lengthOf_10 rfl (lv_at hl 3 rfl) ?_
  refine lv_iconst (v := 0) hx hb dX3_lengthOf_11 (by decide) ?_
  refine g_i (wr := [(q10, .inl (g.2 0, 40, .inl f11))]) (rV (rest := []) hx hb hml hown hE hP hD 2 rfl rfl (c762_X3_itemNumber l g q1 q4 (.ref q10) f5 (hf8) H.size) (kV_X3_itemNumber hE (e348 hE) rfl rfl ⟨(Nat.le_of_ble_eq_true rfl), (Nat.le_of_ble_eq_true rfl)⟩) [1, 2] rfl (by decide) rfl hl.1 rfl (lv_room (Nat.le_of_ble_eq_true rfl)) dX3_lengthOf_12 ⟨(Nat.le_of_ble_eq_true rfl), (Nat.le_of_ble_eq_true rfl)⟩) hP hD hS hA [1, 2] [0] rfl rfl (by decide) (by decide) (fun u2 H locs hP hD hS => ?_)
  have hP : va_P g.1 vwCl [(q10, .inl (g.2 0, 40, .inl f11)), (q4, .inl (g.2 0, 384, .inl f5)), (q1, .inr (5, [.ref q4, .ref q10]))] H := hP
  have hD : va_D A [(q10, .inl (g.2 0, 40, .inl f11)), (q4, .inl (g.2 0, 384, .inl f5)), (q1, .inr (5, [.ref q4, .ref q10]))] := hD
  refine lv_iconst (v := 2) hx hb dX3_lengthOf_15 (by decide) ?_
  refine lv_icmp_ne (tgt := 34) hx hb dX3_lengthOf_16 (by decide) (fun h => absurd h (by decide)) (fun _ => ?_)
  refine lv_iload_n hx hb dX3_lengthOf_19 rfl (lv_at hl 0 rfl) ?_
  refine lv_aload_n hx hb dX3_lengthOf_20 rfl (lv_at hl 1 rfl) ?_
  refine lv_aload_n hx hb dX3_lengthOf_21 rfl (lv_at hl 1 rfl) ?_
  refine lv_iload_n hx hb dX3_lengthOf_22 rfl (lv_at hl 2 rfl) ?_
  refine lv_iload_n hx hb dX3_lengthOf_23 rfl (lv_at hl 3 rfl) ?_
  refine lv_iconst (v := 1) hx hb dX3_lengthOf_24 (by decide) ?_
  refine g_i (wr := [(q10, .inl (g.2 0, 40, .inl f11))]) (rV (rest := [.ref q1, .int x7]) hx hb hml hown hE hP hD 2 rfl rfl (c763_X3_itemNumber l g q1 q4 1 (.ref q10) f5 (hf9) H.size) (kV_X3_itemNumber hE (e348 hE) rfl rfl ⟨(Nat.le_of_ble_eq_true rfl), (Nat.le_of_ble_eq_true rfl)⟩) [1, 2] rfl (by decide) rfl hl.1 rfl (lv_room (Nat.le_of_ble_eq_true rfl)) dX3_lengthOf_25 ⟨(Nat.le_of_ble_eq_true rfl), (Nat.le_of_ble_eq_true rfl)⟩) hP hD hS hA [1, 2] [0] rfl rfl (by decide) (by decide) (fun u3 H locs hP hD hS => ?_)
  have hP : va_P g.1 vwCl [(q10, .inl (g.2 0, 40, .inl f11)), (q4, .inl (g.2 0, 384, .inl f5)), (q1, .inr (5, [.ref q4, .ref q10]))] H := hP
  have hD : va_D A [(q10, .inl (g.2 0, 40, .inl f11)), (q4, .inl (g.2 0, 384, .inl f5)), (q1, .inr (5, [.ref q4, .ref q10]))] := hD
  refine lv_iconst (v := 1) hx hb dX3_lengthOf_28 (by decide) ?_
  refine g_i (wr := [(q4, .inl (g.2 0, 384, .inl f5))]) (rV (rest := [.int x7]) hx hb hml hown hE hP hD 2 rfl rfl (c151_X3_figure l g q1 q10 (.ref q4) f11 (hf12) H.size) (kV_X3_figure hE (e343 hE) rfl rfl ⟨(Nat.le_of_ble_eq_true rfl), (Nat.le_of_ble_eq_true rfl)⟩) [0, 2] rfl (by decide) rfl hl.1 rfl (lv_room (Nat.le_of_ble_eq_true rfl)) dX3_lengthOf_29 ⟨(Nat.le_of_ble_eq_true rfl), (Nat.le_of_ble_eq_true rfl)⟩) hP hD hS hA [0, 2] [1] rfl rfl (by decide) (by decide) (fun u4 H locs hP hD hS => ?_)
  have hP : va_P g.1 vwCl [(q4, .inl (g.2 0, 384, .inl f5)), (q10, .inl (g.2 0, 40, .inl f11)), (q1, .inr (5, [.ref q4, .ref q10]))] H := hP
  have hD : va_D A [(q4, .inl (g.2 0, 384, .inl f5)), (q10, .inl (g.2 0, 40, .inl f11)), (q1, .inr (5, [.ref q4, .ref q10]))] := hD
  refine x_imul (v := 0) hx hb dX3_lengthOf_32 (Int32.mul_zero) ?_
  exact x_zret hx hb hr rfl rfl hlocks hP hD hS hAe hsz (Nat.le_of_ble_eq_true rfl) (Nat.le_of_ble_eq_true rfl) (fun _ => 0) [0, 1, 2] (by decide) rfl dX3_lengthOf_33

set_option maxHeartbeats 4000000 in
set_option maxRecDepth 100000 in
theorem c783_X3_notesOf (l : Launch) (g : gG) (q1 q4 q10 : Nat) (x8 : Int32) (f5 : Nat → Int32) (f11 : Nat → Int32) (hf6 : f5 144 = 2) (hf7 : f5 146 = x8) (hf9 : f5 145 = 1) (hf12 : f11 7 = 0) (sz : Nat) : Met l yX3_notesOf [Cond.code yX3_notesOf cX3_notesOf 4 (some .int)] ({ frames := 1, cells := 0, slots := 0, locals := 24 } : Room) (va_Pc [.ref q1, .int 3, .int 0] (PX g sz [(q10, .inl (g.2 0, 40, .inl f11)), (q4, .inl (g.2 0, 384, .inl f5)), (q1, .inr (5, [.ref q4, .ref q10]))])) (QI g [(q10, .inl (g.2 0, 40, .inl f11)), (q4, .inl (g.2 0, 384, .inl f5)), (q1, .inr (5, [.ref q4, .ref q10]))] sz 0 (fun _ => [(q4, .inl (g.2 0, 384, .inl f5)), (q10, .inl (g.2 0, 40, .inl f11)), (q1, .inr (5, [.ref q4, .ref q10]))])) 0 0 (va_A [(q10, .inl (g.2 0, 40, .inl f11)), (q4, .inl (g.2 0, 384, .inl f5)), (q1, .inr (5, [.ref q4, .ref q10]))] sz) := by
  refine ofN (by decide) (Nat.le_of_ble_eq_true rfl) rfl ?_
  intro p e s m args below meth c A ls hAe hsz hx hb hml hr hlocks hin hown hE hP hD hA hS hl
  have hown : s.vm.findClass RX3 = some m.cls := hown
  refine lv_aload_n hx hb dX3_notesOf_0 rfl (lv_at hl 0 rfl) ?_
  refine lv_iload_n hx hb dX3_notesOf_1 rfl (lv_at hl 1 rfl) ?_
  refine lv_iload_n hx hb dX3_notesOf_2 rfl (lv_at hl 2 rfl) ?_
  refine lv_iconst (v := 0) hx hb dX3_notesOf_3 (by decide) ?_
  refine g_i (wr := [(q10, .inl (g.2 0, 40, .inl f11))]) (rV (rest := []) hx hb hml hown hE hP hD 2 rfl rfl (c762_X3_itemNumber l g q1 q4 (.ref q10) f5 (hf6) s.heap.size) (kV_X3_itemNumber hE (e348 hE) rfl rfl ⟨(Nat.le_of_ble_eq_true rfl), (Nat.le_of_ble_eq_true rfl)⟩) [1, 2] rfl (by decide) rfl hl.1 rfl (lv_room (Nat.le_of_ble_eq_true rfl)) dX3_notesOf_4 ⟨(Nat.le_of_ble_eq_true rfl), (Nat.le_of_ble_eq_true rfl)⟩) hP hD hS hA [1, 2] [0] rfl rfl (by decide) (by decide) (fun u1 H locs hP hD hS => ?_)
  have hP : va_P g.1 vwCl [(q10, .inl (g.2 0, 40, .inl f11)), (q4, .inl (g.2 0, 384, .inl f5)), (q1, .inr (5, [.ref q4, .ref q10]))] H := hP
  have hD : va_D A [(q10, .inl (g.2 0, 40, .inl f11)), (q4, .inl (g.2 0, 384, .inl f5)), (q1, .inr (5, [.ref q4, .ref q10]))] := hD
  refine lv_istore_n (lv' := [(3, .int 2), (0, .ref q1), (1, .int 3), (2, .int 0)]) hx hb dX3_notesOf_7 rfl hl (by decide) rfl (fun ls hl => ?_)
  refine lv_iload_n hx hb dX3_notesOf_8 rfl (lv_at hl 0 rfl) ?_
  refine lv_iconst (v := 2) hx hb dX3_notesOf_9 (by decide) ?_
  refine lv_icmp_ne (tgt := 34) hx hb dX3_notesOf_10 (by decide) (fun h => absurd h (by decide)) (fun _ => ?_)
  refine lv_aload_n hx hb dX3_notesOf_13 rfl (lv_at hl 1 rfl) ?_
  refine lv_iload_n hx hb dX3_notesOf_14 rfl (lv_at hl 2 rfl) ?_
  refine lv_iload_n hx hb dX3_notesOf_15 rfl (lv_at hl 3 rfl) ?_
  refine lv_iconst (v := 2) hx hb dX3_notesOf_16 (by decide) ?_
  refine g_i (wr := [(q10, .inl (g.2 0, 40, .inl f11))]) (rV (rest := []) hx hb hml hown hE hP hD 2 rfl rfl (c294_X3_itemNumber l g q1 q4 x8 (.ref q10) f5 (hf7) H.size) (kV_X3_itemNumber hE (e348 hE) rfl rfl ⟨(Nat.le_of_ble_eq_true rfl), (Nat.le_of_ble_eq_true rfl)⟩) [1, 2] rfl (by decide) rfl hl.1 rfl (lv_room (Nat.le_of_ble_eq_true rfl)) dX3_notesOf_17 ⟨(Nat.le_of_ble_eq_true rfl), (Nat.le_of_ble_eq_true rfl)⟩) hP hD hS hA [1, 2] [0] rfl rfl (by decide) (by decide) (fun u2 H locs hP hD hS => ?_)
  have hP : va_P g.1 vwCl [(q10, .inl (g.2 0, 40, .inl f11)), (q4, .inl (g.2 0, 384, .inl f5)), (q1, .inr (5, [.ref q4, .ref q10]))] H := hP
  have hD : va_D A [(q10, .inl (g.2 0, 40, .inl f11)), (q4, .inl (g.2 0, 384, .inl f5)), (q1, .inr (5, [.ref q4, .ref q10]))] := hD
  refine lv_aload_n hx hb dX3_notesOf_20 rfl (lv_at hl 1 rfl) ?_
  refine lv_aload_n hx hb dX3_notesOf_21 rfl (lv_at hl 1 rfl) ?_
  refine lv_iload_n hx hb dX3_notesOf_22 rfl (lv_at hl 2 rfl) ?_
  refine lv_iload_n hx hb dX3_notesOf_23 rfl (lv_at hl 3 rfl) ?_
  refine lv_iconst (v := 1) hx hb dX3_notesOf_24 (by decide) ?_
  refine g_i (wr := [(q10, .inl (g.2 0, 40, .inl f11))]) (rV (rest := [.ref q1, .int x8]) hx hb hml hown hE hP hD 2 rfl rfl (c763_X3_itemNumber l g q1 q4 1 (.ref q10) f5 (hf9) H.size) (kV_X3_itemNumber hE (e348 hE) rfl rfl ⟨(Nat.le_of_ble_eq_true rfl), (Nat.le_of_ble_eq_true rfl)⟩) [1, 2] rfl (by decide) rfl hl.1 rfl (lv_room (Nat.le_of_ble_eq_true rfl)) dX3_notesOf_25 ⟨(Nat.le_of_ble_eq_true rfl), (Nat.le_of_ble_eq_true rfl)⟩) hP hD hS hA [1, 2] [0] rfl rfl (by decide) (by decide) (fun u3 H locs hP hD hS => ?_)
  have hP : va_P g.1 vwCl [(q10, .inl (g.2 0, 40, .inl f11)), (q4, .inl (g.2 0, 384, .inl f5)), (q1, .inr (5, [.ref q4, .ref q10]))] H := hP
  have hD : va_D A [(q10, .inl (g.2 0, 40, .inl f11)), (q4, .inl (g.2 0, 384, .inl f5)), (q1, .inr (5, [.ref q4, .ref q10]))] := hD
  refine lv_iconst (v := 2) hx hb dX3_notesOf_28 (by decide) ?_
  refine g_i (wr := [(q4, .inl (g.2 0, 384, .inl f5))]) (rV (rest := [.int x8]) hx hb hml hown hE hP hD 2 rfl rfl (c729_X3_figure l g q1 q10 (.ref q4) f11 (hf12) H.size) (kV_X3_figure hE (e343 hE) rfl rfl ⟨(Nat.le_of_ble_eq_true rfl), (Nat.le_of_ble_eq_true rfl)⟩) [0, 2] rfl (by decide) rfl hl.1 rfl (lv_room (Nat.le_of_ble_eq_true rfl)) dX3_notesOf_29 ⟨(Nat.le_of_ble_eq_true rfl), (Nat.le_of_ble_eq_true rfl)⟩) hP hD hS hA [0, 2] [1] rfl rfl (by decide) (by decide) (fun u4 H locs hP hD hS => ?_)
  have hP : va_P g.1 vwCl [(q4, .inl (g.2 0, 384, .inl f5)), (q10, .inl (g.2 0, 40, .inl f11)), (q1, .inr (5, [.ref q4, .ref q10]))] H := hP
  have hD : va_D A [(q4, .inl (g.2 0, 384, .inl f5)), (q10, .inl (g.2 0, 40, .inl f11)), (q1, .inr (5, [.ref q4, .ref q10]))] := hD
  refine x_imul (v := 0) hx hb dX3_notesOf_32 (Int32.mul_zero) ?_
  exact x_zret hx hb hr rfl rfl hlocks hP hD hS hAe hsz (Nat.le_of_ble_eq_true rfl) (Nat.le_of_ble_eq_true rfl) (fun _ => 0) [0, 1, 2] (by decide) rfl dX3_notesOf_33

set_option maxHeartbeats 4000000 in
set_option maxRecDepth 100000 in
theorem c784_X3_putFigure (l : Launch) (g : gG) (q1 q4 : Nat) (w2 : Value) (f5 : Nat → Int32) (sz : Nat) : Met l yX3_putFigure [Cond.code yX3_putFigure cX3_putFigure 5 none] ({ frames := 0, cells := 0, slots := 0, locals := 0 } : Room) (va_Pc [.ref q1, .int 3, .int 3, .int 2] (PX g sz [(q4, .inl (g.2 0, 40, .inl f5)), (q1, .inr (5, [w2, .ref q4]))])) (QV g [(q4, .inl (g.2 0, 40, .inl f5)), (q1, .inr (5, [w2, .ref q4]))] sz (fun _ => [(q4, .inl (g.2 0, 40, .inl (upd f5 18 2))), (q1, .inr (5, [w2, .ref q4]))])) 0 0 (va_A [(q4, .inl (g.2 0, 40, .inl f5)), (q1, .inr (5, [w2, .ref q4]))] sz) := by
  refine ofN (by decide) (Nat.le_of_ble_eq_true rfl) rfl ?_
  intro p e s m args below meth c A ls hAe hsz hx hb hml hr hlocks hin hown hE hP hD hA hS hl
  have hown : s.vm.findClass RX3 = some m.cls := hown
  refine lv_iload_n hx hb dX3_putFigure_0 rfl (lv_at hl 1 rfl) ?_
  refine lv_iconst (v := 5) hx hb dX3_putFigure_1 (by decide) ?_
  refine x_imul (v := 15) hx hb dX3_putFigure_2 (by decide) ?_
  refine lv_iload_n hx hb dX3_putFigure_3 rfl (lv_at hl 2 rfl) ?_
  refine x_iadd (v := 18) hx hb dX3_putFigure_4 (by decide) ?_
  refine lv_istore (lv' := [(4, .int 18), (0, .ref q1), (1, .int 3), (2, .int 3), (3, .int 2)]) hx hb dX3_putFigure_5 hl (by decide) rfl (fun ls hl => ?_)
  refine lv_iload hx hb dX3_putFigure_7 (lv_at hl 0 rfl) ?_
  refine lv_if_lt (tgt := 30) hx hb dX3_putFigure_9 (by decide) (fun h => absurd h (by decide)) (fun _ => ?_)
  refine lv_iload hx hb dX3_putFigure_12 (lv_at hl 0 rfl) ?_
  refine lv_aload_n hx hb dX3_putFigure_14 rfl (lv_at hl 1 rfl) ?_
  refine gf_RX3_15 hx hb hown hE hP 1 rfl rfl dX3_putFigure_15 ?_
  refine x_aleni (v := 40) hx hb hE hP 0 rfl rfl dX3_putFigure_18 ?_
  refine lv_icmp_ge (tgt := 30) hx hb dX3_putFigure_19 (by decide) (fun h => absurd h (by decide)) (fun _ => ?_)
  refine lv_aload_n hx hb dX3_putFigure_22 rfl (lv_at hl 1 rfl) ?_
  refine gf_RX3_15 hx hb hown hE hP 1 rfl rfl dX3_putFigure_23 ?_
  refine lv_iload hx hb dX3_putFigure_26 (lv_at hl 0 rfl) ?_
  refine lv_iload_n hx hb dX3_putFigure_28 rfl (lv_at hl 4 rfl) ?_
  refine x_iast (ws' := [(q4, .inl (g.2 0, 40, .inl (upd f5 18 2))), (q1, .inr (5, [w2, .ref q4]))]) hx hb hE hP hD hS 0 rfl 18 (x_in (by decide)) (by decide) dX3_putFigure_29 rfl (fun H locs hP hD hS => ?_)
  exact x_vret hx hb hr hlocks hP hD hS hAe hsz (Nat.le_of_ble_eq_true rfl) (Nat.le_of_ble_eq_true rfl) (fun _ => 0) [0, 1] (by decide) rfl dX3_putFigure_30

set_option maxHeartbeats 4000000 in
set_option maxRecDepth 100000 in
theorem c785_X3_measureOne (l : Launch) (g : gG) (q1 q4 q7 : Nat) (x10 : Int32) (f5 : Nat → Int32) (f8 : Nat → Int32) (hf6 : f5 15 = 1) (hf9 : f8 146 = x10) (hf11 : f8 144 = 2) (hf12 : f8 145 = 1) (hf13 : f5 6 = 0) (hf14 : f5 7 = 0) (hf15 : f5 8 = 0) (hf16 : f5 9 = 1) (hf17 : f5 16 = 0) (hf18 : f5 17 = 0) (sz : Nat) : Met l yX3_measureOne [Cond.code yX3_measureOne cX3_measureOne 9 none] ({ frames := 2, cells := 0, slots := 0, locals := 47 } : Room) (va_Pc [.ref q1, .int 3] (PX g sz [(q7, .inl (g.2 0, 384, .inl f8)), (q4, .inl (g.2 0, 40, .inl f5)), (q1, .inr (5, [.ref q7, .ref q4]))])) (QV g [(q7, .inl (g.2 0, 384, .inl f8)), (q4, .inl (g.2 0, 40, .inl f5)), (q1, .inr (5, [.ref q7, .ref q4]))] sz (fun _ => [(q7, .inl (g.2 0, 384, .inl f8)), (q4, .inl (g.2 0, 40, .inl (upd (upd f5 18 2) 19 2))), (q1, .inr (5, [.ref q7, .ref q4]))])) 0 0 (va_A [(q7, .inl (g.2 0, 384, .inl f8)), (q4, .inl (g.2 0, 40, .inl f5)), (q1, .inr (5, [.ref q7, .ref q4]))] sz) := by
  refine ofN (by decide) (Nat.le_of_ble_eq_true rfl) rfl ?_
  intro p e s m args below meth c A ls hAe hsz hx hb hml hr hlocks hin hown hE hP hD hA hS hl
  have hown : s.vm.findClass RX3 = some m.cls := hown
  refine lv_iconst (v := 0) hx hb dX3_measureOne_0 (by decide) ?_
  refine lv_istore_n (lv' := [(2, .int 0), (0, .ref q1), (1, .int 3)]) hx hb dX3_measureOne_1 rfl hl (by decide) rfl (fun ls hl => ?_)
  refine lv_iconst (v := 0) hx hb dX3_measureOne_2 (by decide) ?_
  refine lv_istore_n (lv' := [(3, .int 0), (2, .int 0), (0, .ref q1), (1, .int 3)]) hx hb dX3_measureOne_3 rfl hl (by decide) rfl (fun ls hl => ?_)
  refine lv_iconst (v := 0) hx hb dX3_measureOne_4 (by decide) ?_
  refine lv_istore (lv' := [(4, .int 0), (3, .int 0), (2, .int 0), (0, .ref q1), (1, .int 3)]) hx hb dX3_measureOne_5 hl (by decide) rfl (fun ls hl => ?_)
  refine lv_iconst (v := 1) hx hb dX3_measureOne_7 (by decide) ?_
  refine lv_istore (lv' := [(5, .int 1), (4, .int 0), (3, .int 0), (2, .int 0), (0, .ref q1), (1, .int 3)]) hx hb dX3_measureOne_8 hl (by decide) rfl (fun ls hl => ?_)
  refine lv_aload_n hx hb dX3_measureOne_10 rfl (lv_at hl 4 rfl) ?_
  refine lv_iload_n hx hb dX3_measureOne_11 rfl (lv_at hl 5 rfl) ?_
  refine lv_iconst (v := 0) hx hb dX3_measureOne_12 (by decide) ?_
  refine g_i (wr := [(q7, .inl (g.2 0, 384, .inl f8))]) (rV (rest := []) hx hb hml hown hE hP hD 2 rfl rfl (c293_X3_figure l g q1 q4 (.ref q7) f5 (hf6) s.heap.size) (kV_X3_figure hE (e343 hE) rfl rfl ⟨(Nat.le_of_ble_eq_true rfl), (Nat.le_of_ble_eq_true rfl)⟩) [1, 2] rfl (by decide) rfl hl.1 rfl (lv_room (Nat.le_of_ble_eq_true rfl)) dX3_measureOne_13 ⟨(Nat.le_of_ble_eq_true rfl), (Nat.le_of_ble_eq_true rfl)⟩) hP hD hS hA [1, 2] [0] rfl rfl (by decide) (by decide) (fun u1 H locs hP hD hS => ?_)
  have hP : va_P g.1 vwCl [(q7, .inl (g.2 0, 384, .inl f8)), (q4, .inl (g.2 0, 40, .inl f5)), (q1, .inr (5, [.ref q7, .ref q4]))] H := hP
  have hD : va_D A [(q7, .inl (g.2 0, 384, .inl f8)), (q4, .inl (g.2 0, 40, .inl f5)), (q1, .inr (5, [.ref q7, .ref q4]))] := hD
  refine lv_istore (lv' := [(6, .int 1), (5, .int 1), (4, .int 0), (3, .int 0), (2, .int 0), (0, .ref q1), (1, .int 3)]) hx hb dX3_measureOne_16 hl (by decide) rfl (fun ls hl => ?_)
  refine lv_iconst (v := 0) hx hb dX3_measureOne_18 (by decide) ?_
  refine lv_istore (lv' := [(7, .int 0), (6, .int 1), (5, .int 1), (4, .int 0), (3, .int 0), (2, .int 0), (0, .ref q1), (1, .int 3)]) hx hb dX3_measureOne_19 hl (by decide) rfl (fun ls hl => ?_)
  refine lv_iload hx hb dX3_measureOne_21 (lv_at hl 0 rfl) ?_
  refine lv_iload hx hb dX3_measureOne_23 (lv_at hl 1 rfl) ?_
  refine lv_icmp_ge (tgt := 109) hx hb dX3_measureOne_25 (by decide) (fun h => absurd h (by decide)) (fun _ => ?_)
  refine lv_iload_n hx hb dX3_measureOne_28 rfl (lv_at hl 5 rfl) ?_
  refine lv_aload_n hx hb dX3_measureOne_29 rfl (lv_at hl 6 rfl) ?_
  refine lv_iload_n hx hb dX3_measureOne_30 rfl (lv_at hl 7 rfl) ?_
  refine lv_iload hx hb dX3_measureOne_31 (lv_at hl 0 rfl) ?_
  refine g_i (wr := []) (rV (rest := [.int 0]) hx hb hml hown hE hP hD 2 rfl rfl (c782_X3_lengthOf l g q1 q7 q4 x10 f8 f5 (hf9) (hf11) (hf12) (hf13) H.size) (kV_X3_lengthOf hE (e352 hE) rfl rfl ⟨(Nat.le_of_ble_eq_true rfl), (Nat.le_of_ble_eq_true rfl)⟩) [1, 0, 2] rfl (by decide) rfl hl.1 rfl (lv_room (Nat.le_of_ble_eq_true rfl)) dX3_measureOne_33 ⟨(Nat.le_of_ble_eq_true rfl), (Nat.le_of_ble_eq_true rfl)⟩) hP hD hS hA [1, 0, 2] [] rfl rfl (by decide) (by decide) (fun u2 H locs hP hD hS => ?_)
  have hP : va_P g.1 vwCl [(q7, .inl (g.2 0, 384, .inl f8)), (q4, .inl (g.2 0, 40, .inl f5)), (q1, .inr (5, [.ref q7, .ref q4]))] H := hP
  have hD : va_D A [(q7, .inl (g.2 0, 384, .inl f8)), (q4, .inl (g.2 0, 40, .inl f5)), (q1, .inr (5, [.ref q7, .ref q4]))] := hD
  refine x_iadd (v := 0) hx hb dX3_measureOne_36 (by decide) ?_
  refine lv_istore_n (lv' := [(2, .int 0), (7, .int 0), (6, .int 1), (5, .int 1), (4, .int 0), (3, .int 0), (0, .ref q1), (1, .int 3)]) hx hb dX3_measureOne_37 rfl hl (by decide) rfl (fun ls hl => ?_)
  refine lv_iload_n hx hb dX3_measureOne_38 rfl (lv_at hl 5 rfl) ?_
  refine lv_aload_n hx hb dX3_measureOne_39 rfl (lv_at hl 6 rfl) ?_
  refine lv_iload_n hx hb dX3_measureOne_40 rfl (lv_at hl 7 rfl) ?_
  refine lv_iload hx hb dX3_measureOne_41 (lv_at hl 1 rfl) ?_
  refine g_i (wr := []) (rV (rest := [.int 0]) hx hb hml hown hE hP hD 2 rfl rfl (c783_X3_notesOf l g q1 q7 q4 x10 f8 f5 (hf11) (hf9) (hf12) (hf14) H.size) (kV_X3_notesOf hE (e344 hE) rfl rfl ⟨(Nat.le_of_ble_eq_true rfl), (Nat.le_of_ble_eq_true rfl)⟩) [1, 0, 2] rfl (by decide) rfl hl.1 rfl (lv_room (Nat.le_of_ble_eq_true rfl)) dX3_measureOne_43 ⟨(Nat.le_of_ble_eq_true rfl), (Nat.le_of_ble_eq_true rfl)⟩) hP hD hS hA [1, 0, 2] [] rfl rfl (by decide) (by decide) (fun u3 H locs hP hD hS => ?_)
  have hP : va_P g.1 vwCl [(q7, .inl (g.2 0, 384, .inl f8)), (q4, .inl (g.2 0, 40, .inl f5)), (q1, .inr (5, [.ref q7, .ref q4]))] H := hP
  have hD : va_D A [(q7, .inl (g.2 0, 384, .inl f8)), (q4, .inl (g.2 0, 40, .inl f5)), (q1, .inr (5, [.ref q7, .ref q4]))] := hD
  refine x_iadd (v := 0) hx hb dX3_measureOne_46 (by decide) ?_
  refine lv_istore_n (lv' := [(3, .int 0), (2, .int 0), (7, .int 0), (6, .int 1), (5, .int 1), (4, .int 0), (0, .ref q1), (1, .int 3)]) hx hb dX3_measureOne_47 rfl hl (by decide) rfl (fun ls hl => ?_)
  refine lv_aload_n hx hb dX3_measureOne_48 rfl (lv_at hl 6 rfl) ?_
  refine lv_iload_n hx hb dX3_measureOne_49 rfl (lv_at hl 7 rfl) ?_
  refine lv_iload hx hb dX3_measureOne_50 (lv_at hl 2 rfl) ?_
  refine lv_iconst (v := 0) hx hb dX3_measureOne_52 (by decide) ?_
  refine g_i (wr := [(q4, .inl (g.2 0, 40, .inl f5))]) (rV (rest := []) hx hb hml hown hE hP hD 2 rfl rfl (c762_X3_itemNumber l g q1 q7 (.ref q4) f8 (hf11) H.size) (kV_X3_itemNumber hE (e348 hE) rfl rfl ⟨(Nat.le_of_ble_eq_true rfl), (Nat.le_of_ble_eq_true rfl)⟩) [0, 2] rfl (by decide) rfl hl.1 rfl (lv_room (Nat.le_of_ble_eq_true rfl)) dX3_measureOne_53 ⟨(Nat.le_of_ble_eq_true rfl), (Nat.le_of_ble_eq_true rfl)⟩) hP hD hS hA [0, 2] [1] rfl rfl (by decide) (by decide) (fun u4 H locs hP hD hS => ?_)
  have hP : va_P g.1 vwCl [(q4, .inl (g.2 0, 40, .inl f5)), (q7, .inl (g.2 0, 384, .inl f8)), (q1, .inr (5, [.ref q7, .ref q4]))] H := hP
  have hD : va_D A [(q4, .inl (g.2 0, 40, .inl f5)), (q7, .inl (g.2 0, 384, .inl f8)), (q1, .inr (5, [.ref q7, .ref q4]))] := hD
  refine lv_iconst (v := 2) hx hb dX3_measureOne_56 (by decide) ?_
  refine lv_icmp_ne (tgt := 103) hx hb dX3_measureOne_57 (by decide) (fun h => absurd h (by decide)) (fun _ => ?_)
  refine lv_aload_n hx hb dX3_measureOne_60 rfl (lv_at hl 6 rfl) ?_
  refine lv_iload_n hx hb dX3_measureOne_61 rfl (lv_at hl 7 rfl) ?_
  refine lv_iload hx hb dX3_measureOne_62 (lv_at hl 2 rfl) ?_
  refine lv_iconst (v := 1) hx hb dX3_measureOne_64 (by decide) ?_
  refine g_i (wr := [(q4, .inl (g.2 0, 40, .inl f5))]) (rV (rest := []) hx hb hml hown hE hP hD 2 rfl rfl (c763_X3_itemNumber l g q1 q7 1 (.ref q4) f8 (hf12) H.size) (kV_X3_itemNumber hE (e348 hE) rfl rfl ⟨(Nat.le_of_ble_eq_true rfl), (Nat.le_of_ble_eq_true rfl)⟩) [1, 2] rfl (by decide) rfl hl.1 rfl (lv_room (Nat.le_of_ble_eq_true rfl)) dX3_measureOne_65 ⟨(Nat.le_of_ble_eq_true rfl), (Nat.le_of_ble_eq_true rfl)⟩) hP hD hS hA [1, 2] [0] rfl rfl (by decide) (by decide) (fun u5 H locs hP hD hS => ?_)
  have hP : va_P g.1 vwCl [(q4, .inl (g.2 0, 40, .inl f5)), (q7, .inl (g.2 0, 384, .inl f8)), (q1, .inr (5, [.ref q7, .ref q4]))] H := hP
  have hD : va_D A [(q4, .inl (g.2 0, 40, .inl f5)), (q7, .inl (g.2 0, 384, .inl f8)), (q1, .inr (5, [.ref q7, .ref q4]))] := hD
  refine lv_istore (lv' := [(8, .int 1), (3, .int 0), (2, .int 0), (7, .int 0), (6, .int 1), (5, .int 1), (4, .int 0), (0, .ref q1), (1, .int 3)]) hx hb dX3_measureOne_68 hl (by decide) rfl (fun ls hl => ?_)
  refine lv_iload hx hb dX3_measureOne_70 (lv_at hl 6 rfl) ?_
  refine lv_iconst (v := 1) hx hb dX3_measureOne_72 (by decide) ?_
  refine lv_iload hx hb dX3_measureOne_73 (lv_at hl 0 rfl) ?_
  refine lv_ishl hx hb dX3_measureOne_75 ?_
  refine x_top (v := 2) (by decide) ?_
  refine lv_aload_n hx hb dX3_measureOne_76 rfl (lv_at hl 7 rfl) ?_
  refine lv_iload hx hb dX3_measureOne_77 (lv_at hl 0 rfl) ?_
  refine lv_iconst (v := 3) hx hb dX3_measureOne_79 (by decide) ?_
  refine g_i (wr := [(q7, .inl (g.2 0, 384, .inl f8))]) (rV (rest := [.int 2, .int 0]) hx hb hml hown hE hP hD 2 rfl rfl (c731_X3_figure l g q1 q4 (.ref q7) f5 (hf15) H.size) (kV_X3_figure hE (e343 hE) rfl rfl ⟨(Nat.le_of_ble_eq_true rfl), (Nat.le_of_ble_eq_true rfl)⟩) [0, 2] rfl (by decide) rfl hl.1 rfl (lv_room (Nat.le_of_ble_eq_true rfl)) dX3_measureOne_80 ⟨(Nat.le_of_ble_eq_true rfl), (Nat.le_of_ble_eq_true rfl)⟩) hP hD hS hA [0, 2] [1] rfl rfl (by decide) (by decide) (fun u6 H locs hP hD hS => ?_)
  have hP : va_P g.1 vwCl [(q7, .inl (g.2 0, 384, .inl f8)), (q4, .inl (g.2 0, 40, .inl f5)), (q1, .inr (5, [.ref q7, .ref q4]))] H := hP
  have hD : va_D A [(q7, .inl (g.2 0, 384, .inl f8)), (q4, .inl (g.2 0, 40, .inl f5)), (q1, .inr (5, [.ref q7, .ref q4]))] := hD
  refine x_ior (v := 2) hx hb dX3_measureOne_83 (by decide) ?_
  refine x_ior (v := 2) hx hb dX3_measureOne_84 (by decide) ?_
  refine lv_istore (lv' := [(4, .int 2), (8, .int 1), (3, .int 0), (2, .int 0), (7, .int 0), (6, .int 1), (5, .int 1), (0, .ref q1), (1, .int 3)]) hx hb dX3_measureOne_85 hl (by decide) rfl (fun ls hl => ?_)
  refine lv_iload hx hb dX3_measureOne_87 (lv_at hl 6 rfl) ?_
  refine lv_iconst (v := 1) hx hb dX3_measureOne_89 (by decide) ?_
  refine lv_aload_n hx hb dX3_measureOne_90 rfl (lv_at hl 7 rfl) ?_
  refine lv_iload hx hb dX3_measureOne_91 (lv_at hl 1 rfl) ?_
  refine lv_iconst (v := 4) hx hb dX3_measureOne_93 (by decide) ?_
  refine g_i (wr := [(q7, .inl (g.2 0, 384, .inl f8))]) (rV (rest := [.int 1, .int 1]) hx hb hml hown hE hP hD 2 rfl rfl (c732_X3_figure l g q1 q4 (.ref q7) f5 (hf16) H.size) (kV_X3_figure hE (e343 hE) rfl rfl ⟨(Nat.le_of_ble_eq_true rfl), (Nat.le_of_ble_eq_true rfl)⟩) [1, 2] rfl (by decide) rfl hl.1 rfl (lv_room (Nat.le_of_ble_eq_true rfl)) dX3_measureOne_94 ⟨(Nat.le_of_ble_eq_true rfl), (Nat.le_of_ble_eq_true rfl)⟩) hP hD hS hA [1, 2] [0] rfl rfl (by decide) (by decide) (fun u7 H locs hP hD hS => ?_)
  have hP : va_P g.1 vwCl [(q7, .inl (g.2 0, 384, .inl f8)), (q4, .inl (g.2 0, 40, .inl f5)), (q1, .inr (5, [.ref q7, .ref q4]))] H := hP
  have hD : va_D A [(q7, .inl (g.2 0, 384, .inl f8)), (q4, .inl (g.2 0, 40, .inl f5)), (q1, .inr (5, [.ref q7, .ref q4]))] := hD
  refine x_iadd (v := 2) hx hb dX3_measureOne_97 (by decide) ?_
  refine x_mmax (v := 2) hx hb (by rw [hml]; exact hl.1.symm) hown (e702 hE) (e165 hE) (e9 hE) (e166 hE) (Nat.le_of_ble_eq_true rfl) (Nat.le_of_ble_eq_true rfl) (Nat.le_of_ble_eq_true rfl) (Nat.le_of_ble_eq_true rfl) (by decide) dX3_measureOne_98 ?_
  refine lv_istore (lv' := [(5, .int 2), (4, .int 2), (8, .int 1), (3, .int 0), (2, .int 0), (7, .int 0), (6, .int 1), (0, .ref q1), (1, .int 3)]) hx hb dX3_measureOne_101 hl (by decide) rfl (fun ls hl => ?_)
  refine lv_iinc (v := 1) (lv' := [(7, .int 1), (5, .int 2), (4, .int 2), (8, .int 1), (3, .int 0), (2, .int 0), (6, .int 1), (0, .ref q1), (1, .int 3)]) hx hb dX3_measureOne_103 hl (k := 5) rfl (by decide) (by decide) rfl (fun ls hl => ?_)
  refine lv_goto (tgt := 21) hx hb dX3_measureOne_106 (by decide) ?_
  refine lv_iload hx hb dX3_measureOne_21 (lv_at hl 0 rfl) ?_
  refine lv_iload hx hb dX3_measureOne_23 (lv_at hl 6 rfl) ?_
  refine lv_icmp_ge (tgt := 109) hx hb dX3_measureOne_25 (by decide) (fun _ => ?_) (fun h => absurd (by decide) h)
  refine lv_aload_n hx hb dX3_measureOne_109 rfl (lv_at hl 7 rfl) ?_
  refine lv_iload_n hx hb dX3_measureOne_110 rfl (lv_at hl 8 rfl) ?_
  refine lv_iconst (v := 1) hx hb dX3_measureOne_111 (by decide) ?_
  refine lv_iload_n hx hb dX3_measureOne_112 rfl (lv_at hl 5 rfl) ?_
  refine g_v (wr := [(q7, .inl (g.2 0, 384, .inl f8))]) (rV (rest := []) hx hb hml hown hE hP hD 2 rfl rfl (c159_X3_putFigure l g q1 q4 (.ref q7) f5 (hf17) H.size) (kV_X3_putFigure hE (e91 hE) rfl rfl ⟨(Nat.le_of_ble_eq_true rfl), (Nat.le_of_ble_eq_true rfl)⟩) [1, 2] rfl (by decide) rfl hl.1 rfl (lv_room (Nat.le_of_ble_eq_true rfl)) dX3_measureOne_113 ⟨(Nat.le_of_ble_eq_true rfl), (Nat.le_of_ble_eq_true rfl)⟩) hP hD hS hA [1, 2] [0] rfl rfl (by decide) (by decide) (fun u8 H locs hP hD hS => ?_)
  have hP : va_P g.1 vwCl [(q7, .inl (g.2 0, 384, .inl f8)), (q4, .inl (g.2 0, 40, .inl f5)), (q1, .inr (5, [.ref q7, .ref q4]))] H := hP
  have hD : va_D A [(q7, .inl (g.2 0, 384, .inl f8)), (q4, .inl (g.2 0, 40, .inl f5)), (q1, .inr (5, [.ref q7, .ref q4]))] := hD
  refine lv_aload_n hx hb dX3_measureOne_116 rfl (lv_at hl 7 rfl) ?_
  refine lv_iload_n hx hb dX3_measureOne_117 rfl (lv_at hl 8 rfl) ?_
  refine lv_iconst (v := 2) hx hb dX3_measureOne_118 (by decide) ?_
  refine lv_iload_n hx hb dX3_measureOne_119 rfl (lv_at hl 4 rfl) ?_
  refine g_v (wr := [(q7, .inl (g.2 0, 384, .inl f8))]) (rV (rest := []) hx hb hml hown hE hP hD 2 rfl rfl (c160_X3_putFigure l g q1 q4 (.ref q7) f5 (hf18) H.size) (kV_X3_putFigure hE (e91 hE) rfl rfl ⟨(Nat.le_of_ble_eq_true rfl), (Nat.le_of_ble_eq_true rfl)⟩) [1, 2] rfl (by decide) rfl hl.1 rfl (lv_room (Nat.le_of_ble_eq_true rfl)) dX3_measureOne_120 ⟨(Nat.le_of_ble_eq_true rfl), (Nat.le_of_ble_eq_true rfl)⟩) hP hD hS hA [1, 2] [0] rfl rfl (by decide) (by decide) (fun u9 H locs hP hD hS => ?_)
  have hP : va_P g.1 vwCl [(q7, .inl (g.2 0, 384, .inl f8)), (q4, .inl (g.2 0, 40, .inl f5)), (q1, .inr (5, [.ref q7, .ref q4]))] H := hP
  have hD : va_D A [(q7, .inl (g.2 0, 384, .inl f8)), (q4, .inl (g.2 0, 40, .inl f5)), (q1, .inr (5, [.ref q7, .ref q4]))] := hD
  refine lv_aload_n hx hb dX3_measureOne_123 rfl (lv_at hl 7 rfl) ?_
  refine lv_iload_n hx hb dX3_measureOne_124 rfl (lv_at hl 8 rfl) ?_
  refine lv_iconst (v := 3) hx hb dX3_measureOne_125 (by decide) ?_
  refine lv_iload hx hb dX3_measureOne_126 (lv_at hl 2 rfl) ?_
  refine g_v (wr := [(q7, .inl (g.2 0, 384, .inl f8))]) (rV (rest := []) hx hb hml hown hE hP hD 2 rfl rfl (c784_X3_putFigure l g q1 q4 (.ref q7) f5 H.size) (kV_X3_putFigure hE (e91 hE) rfl rfl ⟨(Nat.le_of_ble_eq_true rfl), (Nat.le_of_ble_eq_true rfl)⟩) [1, 2] rfl (by decide) rfl hl.1 rfl (lv_room (Nat.le_of_ble_eq_true rfl)) dX3_measureOne_128 ⟨(Nat.le_of_ble_eq_true rfl), (Nat.le_of_ble_eq_true rfl)⟩) hP hD hS hA [1, 2] [0] rfl rfl (by decide) (by decide) (fun u10 H locs hP hD hS => ?_)
  have hP : va_P g.1 vwCl [(q7, .inl (g.2 0, 384, .inl f8)), (q4, .inl (g.2 0, 40, .inl (upd f5 18 2))), (q1, .inr (5, [.ref q7, .ref q4]))] H := hP
  have hD : va_D A [(q7, .inl (g.2 0, 384, .inl f8)), (q4, .inl (g.2 0, 40, .inl (upd f5 18 2))), (q1, .inr (5, [.ref q7, .ref q4]))] := hD
  refine lv_aload_n hx hb dX3_measureOne_131 rfl (lv_at hl 7 rfl) ?_
  refine lv_iload_n hx hb dX3_measureOne_132 rfl (lv_at hl 8 rfl) ?_
  refine lv_iconst (v := 4) hx hb dX3_measureOne_133 (by decide) ?_
  refine lv_iload hx hb dX3_measureOne_134 (lv_at hl 1 rfl) ?_
  refine g_v (wr := [(q7, .inl (g.2 0, 384, .inl f8))]) (rV (rest := []) hx hb hml hown hE hP hD 2 rfl rfl (c767_X3_putFigure l g q1 q4 (.ref q7) (upd f5 18 2) H.size) (kV_X3_putFigure hE (e91 hE) rfl rfl ⟨(Nat.le_of_ble_eq_true rfl), (Nat.le_of_ble_eq_true rfl)⟩) [1, 2] rfl (by decide) rfl hl.1 rfl (lv_room (Nat.le_of_ble_eq_true rfl)) dX3_measureOne_136 ⟨(Nat.le_of_ble_eq_true rfl), (Nat.le_of_ble_eq_true rfl)⟩) hP hD hS hA [1, 2] [0] rfl rfl (by decide) (by decide) (fun u11 H locs hP hD hS => ?_)
  have hP : va_P g.1 vwCl [(q7, .inl (g.2 0, 384, .inl f8)), (q4, .inl (g.2 0, 40, .inl (upd (upd f5 18 2) 19 2))), (q1, .inr (5, [.ref q7, .ref q4]))] H := hP
  have hD : va_D A [(q7, .inl (g.2 0, 384, .inl f8)), (q4, .inl (g.2 0, 40, .inl (upd (upd f5 18 2) 19 2))), (q1, .inr (5, [.ref q7, .ref q4]))] := hD
  exact x_vret hx hb hr hlocks hP hD hS hAe hsz (Nat.le_of_ble_eq_true rfl) (Nat.le_of_ble_eq_true rfl) (fun _ => 0) [0, 1, 2] (by decide) rfl dX3_measureOne_139

set_option maxHeartbeats 4000000 in
set_option maxRecDepth 100000 in
theorem c786_X3_measure (l : Launch) (g : gG) (q1 q4 q5 : Nat) (x22 : Int32) (f6 : Nat → Int32) (f20 : Nat → Int32) (hf7 : f6 0 = 0) (hf8 : f6 2 = 0) (hf9 : f6 3 = 0) (hf10 : f6 5 = 0) (hf11 : f6 6 = 0) (hf12 : f6 7 = 0) (hf13 : f6 8 = 0) (hf14 : f6 10 = 0) (hf15 : f6 11 = 0) (hf16 : f6 12 = 0) (hf17 : f6 13 = 0) (hf18 : f6 15 = 1) (hf19 : f6 18 = 0) (hf21 : f20 146 = x22) (hf23 : f6 17 = 0) (hf24 : f6 16 = 0) (hf25 : f20 144 = 2) (hf26 : f20 145 = 1) (hf27 : f6 20 = 0) (hf28 : f6 21 = 0) (hf29 : f6 22 = 0) (hf30 : f6 23 = 0) (hf31 : f6 25 = 0) (hf32 : f6 26 = 0) (hf33 : f6 27 = 0) (hf34 : f6 28 = 0) (hf35 : f6 30 = 0) (hf36 : f6 31 = 0) (hf37 : f6 32 = 0) (hf38 : f6 33 = 0) (hf39 : f6 35 = 0) (hf40 : f6 36 = 0) (hf41 : f6 37 = 0) (hf42 : f6 38 = 0) (sz : Nat) : Met l yX3_measure [Cond.code yX3_measure cX3_measure 2 (some .boolean)] ({ frames := 3, cells := 0, slots := 0, locals := 75 } : Room) (va_Pc [.ref q1] (PX g sz [(q4, .inl (g.2 0, 384, .inl f20)), (q5, .inl (g.2 0, 40, .inl f6)), (q1, .inr (5, [.ref q4, .ref q5]))])) (QI g [(q4, .inl (g.2 0, 384, .inl f20)), (q5, .inl (g.2 0, 40, .inl f6)), (q1, .inr (5, [.ref q4, .ref q5]))] sz 1 (fun _ => [(q4, .inl (g.2 0, 384, .inl f20)), (q5, .inl (g.2 0, 40, .inl (upd (upd (upd (upd (upd (upd (upd (upd (upd (upd f6 1 0) 4 1) 9 1) 14 1) 18 2) 19 2) 24 1) 29 1) 34 1) 39 1))), (q1, .inr (5, [.ref q4, .ref q5]))])) 0 0 (va_A [(q4, .inl (g.2 0, 384, .inl f20)), (q5, .inl (g.2 0, 40, .inl f6)), (q1, .inr (5, [.ref q4, .ref q5]))] sz) := by
  refine ofN (by decide) (Nat.le_of_ble_eq_true rfl) rfl ?_
  intro p e s m args below meth c A ls hAe hsz hx hb hml hr hlocks hin hown hE hP hD hA hS hl
  have hown : s.vm.findClass RX3 = some m.cls := hown
  refine lv_iconst (v := 0) hx hb dX3_measure_0 (by decide) ?_
  refine lv_istore_n (lv' := [(1, .int 0), (0, .ref q1)]) hx hb dX3_measure_1 rfl hl (by decide) rfl (fun ls hl => ?_)
  refine lv_iload_n hx hb dX3_measure_2 rfl (lv_at hl 0 rfl) ?_
  refine lv_bipush (v := 8) hx hb dX3_measure_3 (by decide) ?_
  refine lv_icmp_ge (tgt := 33) hx hb dX3_measure_5 (by decide) (fun h => absurd h (by decide)) (fun _ => ?_)
  refine lv_aload_n hx hb dX3_measure_8 rfl (lv_at hl 1 rfl) ?_
  refine lv_iload_n hx hb dX3_measure_9 rfl (lv_at hl 0 rfl) ?_
  refine g_v (wr := [(q4, .inl (g.2 0, 384, .inl f20))]) (rV (rest := []) hx hb hml hown hE hP hD 2 rfl rfl (c231_X3_measureOne l g q1 q5 (.ref q4) f6 (hf7) (hf8) (hf9) s.heap.size) (kV_X3_measureOne hE (e698 hE) rfl rfl ⟨(Nat.le_of_ble_eq_true rfl), (Nat.le_of_ble_eq_true rfl)⟩) [1, 2] rfl (by decide) rfl hl.1 rfl (lv_room (Nat.le_of_ble_eq_true rfl)) dX3_measure_10 ⟨(Nat.le_of_ble_eq_true rfl), (Nat.le_of_ble_eq_true rfl)⟩) hP hD hS hA [1, 2] [0] rfl rfl (by decide) (by decide) (fun u1 H locs hP hD hS => ?_)
  have hP : va_P g.1 vwCl [(q4, .inl (g.2 0, 384, .inl f20)), (q5, .inl (g.2 0, 40, .inl (upd (upd f6 1 0) 4 1))), (q1, .inr (5, [.ref q4, .ref q5]))] H := hP
  have hD : va_D A [(q4, .inl (g.2 0, 384, .inl f20)), (q5, .inl (g.2 0, 40, .inl (upd (upd f6 1 0) 4 1))), (q1, .inr (5, [.ref q4, .ref q5]))] := hD
  refine lv_aload_n hx hb dX3_measure_13 rfl (lv_at hl 1 rfl) ?_
  refine lv_iload_n hx hb dX3_measure_14 rfl (lv_at hl 0 rfl) ?_
  refine lv_iconst (v := 1) hx hb dX3_measure_15 (by decide) ?_
  refine g_i (wr := [(q4, .inl (g.2 0, 384, .inl f20))]) (rV (rest := []) hx hb hml hown hE hP hD 2 rfl rfl (c145_X3_figure l g q1 q5 0 (.ref q4) (upd (upd f6 1 0) 4 1) (((pk_un (by decide)).trans pk_us)) H.size) (kV_X3_figure hE (e343 hE) rfl rfl ⟨(Nat.le_of_ble_eq_true rfl), (Nat.le_of_ble_eq_true rfl)⟩) [1, 2] rfl (by decide) rfl hl.1 rfl (lv_room (Nat.le_of_ble_eq_true rfl)) dX3_measure_16 ⟨(Nat.le_of_ble_eq_true rfl), (Nat.le_of_ble_eq_true rfl)⟩) hP hD hS hA [1, 2] [0] rfl rfl (by decide) (by decide) (fun u2 H locs hP hD hS => ?_)
  have hP : va_P g.1 vwCl [(q4, .inl (g.2 0, 384, .inl f20)), (q5, .inl (g.2 0, 40, .inl (upd (upd f6 1 0) 4 1))), (q1, .inr (5, [.ref q4, .ref q5]))] H := hP
  have hD : va_D A [(q4, .inl (g.2 0, 384, .inl f20)), (q5, .inl (g.2 0, 40, .inl (upd (upd f6 1 0) 4 1))), (q1, .inr (5, [.ref q4, .ref q5]))] := hD
  refine lv_sipush (v := 20000) hx hb dX3_measure_19 (by decide) ?_
  refine lv_icmp_le (tgt := 27) hx hb dX3_measure_22 (by decide) (fun _ => ?_) (fun h => absurd (by decide) h)
  refine lv_iinc (v := 1) (lv' := [(1, .int 1), (0, .ref q1)]) hx hb dX3_measure_27 hl (k := 0) rfl (by decide) (by decide) rfl (fun ls hl => ?_)
  refine lv_goto (tgt := 2) hx hb dX3_measure_30 (by decide) ?_
  refine lv_iload_n hx hb dX3_measure_2 rfl (lv_at hl 0 rfl) ?_
  refine lv_bipush (v := 8) hx hb dX3_measure_3 (by decide) ?_
  refine lv_icmp_ge (tgt := 33) hx hb dX3_measure_5 (by decide) (fun h => absurd h (by decide)) (fun _ => ?_)
  refine lv_aload_n hx hb dX3_measure_8 rfl (lv_at hl 1 rfl) ?_
  refine lv_iload_n hx hb dX3_measure_9 rfl (lv_at hl 0 rfl) ?_
  refine g_v (wr := [(q4, .inl (g.2 0, 384, .inl f20))]) (rV (rest := []) hx hb hml hown hE hP hD 2 rfl rfl (c150_X3_measureOne l g q1 q5 (.ref q4) (upd (upd f6 1 0) 4 1) (((pk_un (by decide)).trans ((pk_un (by decide)).trans hf10))) (((pk_un (by decide)).trans ((pk_un (by decide)).trans hf11))) (((pk_un (by decide)).trans ((pk_un (by decide)).trans hf12))) (((pk_un (by decide)).trans ((pk_un (by decide)).trans hf13))) H.size) (kV_X3_measureOne hE (e698 hE) rfl rfl ⟨(Nat.le_of_ble_eq_true rfl), (Nat.le_of_ble_eq_true rfl)⟩) [1, 2] rfl (by decide) rfl hl.1 rfl (lv_room (Nat.le_of_ble_eq_true rfl)) dX3_measure_10 ⟨(Nat.le_of_ble_eq_true rfl), (Nat.le_of_ble_eq_true rfl)⟩) hP hD hS hA [1, 2] [0] rfl rfl (by decide) (by decide) (fun u3 H locs hP hD hS => ?_)
  have hP : va_P g.1 vwCl [(q4, .inl (g.2 0, 384, .inl f20)), (q5, .inl (g.2 0, 40, .inl (upd (upd (upd f6 1 0) 4 1) 9 1))), (q1, .inr (5, [.ref q4, .ref q5]))] H := hP
  have hD : va_D A [(q4, .inl (g.2 0, 384, .inl f20)), (q5, .inl (g.2 0, 40, .inl (upd (upd (upd f6 1 0) 4 1) 9 1))), (q1, .inr (5, [.ref q4, .ref q5]))] := hD
  refine lv_aload_n hx hb dX3_measure_13 rfl (lv_at hl 1 rfl) ?_
  refine lv_iload_n hx hb dX3_measure_14 rfl (lv_at hl 0 rfl) ?_
  refine lv_iconst (v := 1) hx hb dX3_measure_15 (by decide) ?_
  refine g_i (wr := [(q4, .inl (g.2 0, 384, .inl f20))]) (rV (rest := []) hx hb hml hown hE hP hD 2 rfl rfl (c151_X3_figure l g q1 q5 (.ref q4) (upd (upd (upd f6 1 0) 4 1) 9 1) (((pk_un (by decide)).trans ((pk_un (by decide)).trans ((pk_un (by decide)).trans hf11)))) H.size) (kV_X3_figure hE (e343 hE) rfl rfl ⟨(Nat.le_of_ble_eq_true rfl), (Nat.le_of_ble_eq_true rfl)⟩) [1, 2] rfl (by decide) rfl hl.1 rfl (lv_room (Nat.le_of_ble_eq_true rfl)) dX3_measure_16 ⟨(Nat.le_of_ble_eq_true rfl), (Nat.le_of_ble_eq_true rfl)⟩) hP hD hS hA [1, 2] [0] rfl rfl (by decide) (by decide) (fun u4 H locs hP hD hS => ?_)
  have hP : va_P g.1 vwCl [(q4, .inl (g.2 0, 384, .inl f20)), (q5, .inl (g.2 0, 40, .inl (upd (upd (upd f6 1 0) 4 1) 9 1))), (q1, .inr (5, [.ref q4, .ref q5]))] H := hP
  have hD : va_D A [(q4, .inl (g.2 0, 384, .inl f20)), (q5, .inl (g.2 0, 40, .inl (upd (upd (upd f6 1 0) 4 1) 9 1))), (q1, .inr (5, [.ref q4, .ref q5]))] := hD
  refine lv_sipush (v := 20000) hx hb dX3_measure_19 (by decide) ?_
  refine lv_icmp_le (tgt := 27) hx hb dX3_measure_22 (by decide) (fun _ => ?_) (fun h => absurd (by decide) h)
  refine lv_iinc (v := 2) (lv' := [(1, .int 2), (0, .ref q1)]) hx hb dX3_measure_27 hl (k := 0) rfl (by decide) (by decide) rfl (fun ls hl => ?_)
  refine lv_goto (tgt := 2) hx hb dX3_measure_30 (by decide) ?_
  refine lv_iload_n hx hb dX3_measure_2 rfl (lv_at hl 0 rfl) ?_
  refine lv_bipush (v := 8) hx hb dX3_measure_3 (by decide) ?_
  refine lv_icmp_ge (tgt := 33) hx hb dX3_measure_5 (by decide) (fun h => absurd h (by decide)) (fun _ => ?_)
  refine lv_aload_n hx hb dX3_measure_8 rfl (lv_at hl 1 rfl) ?_
  refine lv_iload_n hx hb dX3_measure_9 rfl (lv_at hl 0 rfl) ?_
  refine g_v (wr := [(q4, .inl (g.2 0, 384, .inl f20))]) (rV (rest := []) hx hb hml hown hE hP hD 2 rfl rfl (c156_X3_measureOne l g q1 q5 (.ref q4) (upd (upd (upd f6 1 0) 4 1) 9 1) (((pk_un (by decide)).trans ((pk_un (by decide)).trans ((pk_un (by decide)).trans hf14)))) (((pk_un (by decide)).trans ((pk_un (by decide)).trans ((pk_un (by decide)).trans hf15)))) (((pk_un (by decide)).trans ((pk_un (by decide)).trans ((pk_un (by decide)).trans hf16)))) (((pk_un (by decide)).trans ((pk_un (by decide)).trans ((pk_un (by decide)).trans hf17)))) H.size) (kV_X3_measureOne hE (e698 hE) rfl rfl ⟨(Nat.le_of_ble_eq_true rfl), (Nat.le_of_ble_eq_true rfl)⟩) [1, 2] rfl (by decide) rfl hl.1 rfl (lv_room (Nat.le_of_ble_eq_true rfl)) dX3_measure_10 ⟨(Nat.le_of_ble_eq_true rfl), (Nat.le_of_ble_eq_true rfl)⟩) hP hD hS hA [1, 2] [0] rfl rfl (by decide) (by decide) (fun u5 H locs hP hD hS => ?_)
  have hP : va_P g.1 vwCl [(q4, .inl (g.2 0, 384, .inl f20)), (q5, .inl (g.2 0, 40, .inl (upd (upd (upd (upd f6 1 0) 4 1) 9 1) 14 1))), (q1, .inr (5, [.ref q4, .ref q5]))] H := hP
  have hD : va_D A [(q4, .inl (g.2 0, 384, .inl f20)), (q5, .inl (g.2 0, 40, .inl (upd (upd (upd (upd f6 1 0) 4 1) 9 1) 14 1))), (q1, .inr (5, [.ref q4, .ref q5]))] := hD
  refine lv_aload_n hx hb dX3_measure_13 rfl (lv_at hl 1 rfl) ?_
  refine lv_iload_n hx hb dX3_measure_14 rfl (lv_at hl 0 rfl) ?_
  refine lv_iconst (v := 1) hx hb dX3_measure_15 (by decide) ?_
  refine g_i (wr := [(q4, .inl (g.2 0, 384, .inl f20))]) (rV (rest := []) hx hb hml hown hE hP hD 2 rfl rfl (c157_X3_figure l g q1 q5 (.ref q4) (upd (upd (upd (upd f6 1 0) 4 1) 9 1) 14 1) (((pk_un (by decide)).trans ((pk_un (by decide)).trans ((pk_un (by decide)).trans ((pk_un (by decide)).trans hf15))))) H.size) (kV_X3_figure hE (e343 hE) rfl rfl ⟨(Nat.le_of_ble_eq_true rfl), (Nat.le_of_ble_eq_true rfl)⟩) [1, 2] rfl (by decide) rfl hl.1 rfl (lv_room (Nat.le_of_ble_eq_true rfl)) dX3_measure_16 ⟨(Nat.le_of_ble_eq_true rfl), (Nat.le_of_ble_eq_true rfl)⟩) hP hD hS hA [1, 2] [0] rfl rfl (by decide) (by decide) (fun u6 H locs hP hD hS => ?_)
  have hP : va_P g.1 vwCl [(q4, .inl (g.2 0, 384, .inl f20)), (q5, .inl (g.2 0, 40, .inl (upd (upd (upd (upd f6 1 0) 4 1) 9 1) 14 1))), (q1, .inr (5, [.ref q4, .ref q5]))] H := hP
  have hD : va_D A [(q4, .inl (g.2 0, 384, .inl f20)), (q5, .inl (g.2 0, 40, .inl (upd (upd (upd (upd f6 1 0) 4 1) 9 1) 14 1))), (q1, .inr (5, [.ref q4, .ref q5]))] := hD
  refine lv_sipush (v := 20000) hx hb dX3_measure_19 (by decide) ?_
  refine lv_icmp_le (tgt := 27) hx hb dX3_measure_22 (by decide) (fun _ => ?_) (fun h => absurd (by decide) h)
  refine lv_iinc (v := 3) (lv' := [(1, .int 3), (0, .ref q1)]) hx hb dX3_measure_27 hl (k := 0) rfl (by decide) (by decide) rfl (fun ls hl => ?_)
  refine lv_goto (tgt := 2) hx hb dX3_measure_30 (by decide) ?_
  refine lv_iload_n hx hb dX3_measure_2 rfl (lv_at hl 0 rfl) ?_
  refine lv_bipush (v := 8) hx hb dX3_measure_3 (by decide) ?_
  refine lv_icmp_ge (tgt := 33) hx hb dX3_measure_5 (by decide) (fun h => absurd h (by decide)) (fun _ => ?_)
  refine lv_aload_n hx hb dX3_measure_8 rfl (lv_at hl 1 rfl) ?_
  refine lv_iload_n hx hb dX3_measure_9 rfl (lv_at hl 0 rfl) ?_
  refine g_v (wr := []) (rV (rest := []) hx hb hml hown hE hP hD 2 rfl rfl (c785_X3_measureOne l g q1 q5 q4 x22 (upd (upd (upd (upd f6 1 0) 4 1) 9 1) 14 1) f20 (((pk_un (by decide)).trans ((pk_un (by decide)).trans ((pk_un (by decide)).trans ((pk_un (by decide)).trans hf18))))) (hf21) (hf25) (hf26) (((pk_un (by decide)).trans ((pk_un (by decide)).trans ((pk_un (by decide)).trans ((pk_un (by decide)).trans hf11))))) (((pk_un (by decide)).trans ((pk_un (by decide)).trans ((pk_un (by decide)).trans ((pk_un (by decide)).trans hf12))))) (((pk_un (by decide)).trans ((pk_un (by decide)).trans ((pk_un (by decide)).trans ((pk_un (by decide)).trans hf13))))) (((pk_un (by decide)).trans pk_us)) (((pk_un (by decide)).trans ((pk_un (by decide)).trans ((pk_un (by decide)).trans ((pk_un (by decide)).trans hf24))))) (((pk_un (by decide)).trans ((pk_un (by decide)).trans ((pk_un (by decide)).trans ((pk_un (by decide)).trans hf23))))) H.size) (kV_X3_measureOne hE (e698 hE) rfl rfl ⟨(Nat.le_of_ble_eq_true rfl), (Nat.le_of_ble_eq_true rfl)⟩) [0, 1, 2] rfl (by decide) rfl hl.1 rfl (lv_room (Nat.le_of_ble_eq_true rfl)) dX3_measure_10 ⟨(Nat.le_of_ble_eq_true rfl), (Nat.le_of_ble_eq_true rfl)⟩) hP hD hS hA [0, 1, 2] [] rfl rfl (by decide) (by decide) (fun u7 H locs hP hD hS => ?_)
  have hP : va_P g.1 vwCl [(q4, .inl (g.2 0, 384, .inl f20)), (q5, .inl (g.2 0, 40, .inl (upd (upd (upd (upd (upd (upd f6 1 0) 4 1) 9 1) 14 1) 18 2) 19 2))), (q1, .inr (5, [.ref q4, .ref q5]))] H := hP
  have hD : va_D A [(q4, .inl (g.2 0, 384, .inl f20)), (q5, .inl (g.2 0, 40, .inl (upd (upd (upd (upd (upd (upd f6 1 0) 4 1) 9 1) 14 1) 18 2) 19 2))), (q1, .inr (5, [.ref q4, .ref q5]))] := hD
  refine lv_aload_n hx hb dX3_measure_13 rfl (lv_at hl 1 rfl) ?_
  refine lv_iload_n hx hb dX3_measure_14 rfl (lv_at hl 0 rfl) ?_
  refine lv_iconst (v := 1) hx hb dX3_measure_15 (by decide) ?_
  refine g_i (wr := [(q4, .inl (g.2 0, 384, .inl f20))]) (rV (rest := []) hx hb hml hown hE hP hD 2 rfl rfl (c163_X3_figure l g q1 q5 (.ref q4) (upd (upd (upd (upd (upd (upd f6 1 0) 4 1) 9 1) 14 1) 18 2) 19 2) (((pk_un (by decide)).trans ((pk_un (by decide)).trans ((pk_un (by decide)).trans ((pk_un (by decide)).trans ((pk_un (by decide)).trans ((pk_un (by decide)).trans hf24))))))) H.size) (kV_X3_figure hE (e343 hE) rfl rfl ⟨(Nat.le_of_ble_eq_true rfl), (Nat.le_of_ble_eq_true rfl)⟩) [1, 2] rfl (by decide) rfl hl.1 rfl (lv_room (Nat.le_of_ble_eq_true rfl)) dX3_measure_16 ⟨(Nat.le_of_ble_eq_true rfl), (Nat.le_of_ble_eq_true rfl)⟩) hP hD hS hA [1, 2] [0] rfl rfl (by decide) (by decide) (fun u8 H locs hP hD hS => ?_)
  have hP : va_P g.1 vwCl [(q4, .inl (g.2 0, 384, .inl f20)), (q5, .inl (g.2 0, 40, .inl (upd (upd (upd (upd (upd (upd f6 1 0) 4 1) 9 1) 14 1) 18 2) 19 2))), (q1, .inr (5, [.ref q4, .ref q5]))] H := hP
  have hD : va_D A [(q4, .inl (g.2 0, 384, .inl f20)), (q5, .inl (g.2 0, 40, .inl (upd (upd (upd (upd (upd (upd f6 1 0) 4 1) 9 1) 14 1) 18 2) 19 2))), (q1, .inr (5, [.ref q4, .ref q5]))] := hD
  refine lv_sipush (v := 20000) hx hb dX3_measure_19 (by decide) ?_
  refine lv_icmp_le (tgt := 27) hx hb dX3_measure_22 (by decide) (fun _ => ?_) (fun h => absurd (by decide) h)
  refine lv_iinc (v := 4) (lv' := [(1, .int 4), (0, .ref q1)]) hx hb dX3_measure_27 hl (k := 0) rfl (by decide) (by decide) rfl (fun ls hl => ?_)
  refine lv_goto (tgt := 2) hx hb dX3_measure_30 (by decide) ?_
  refine lv_iload_n hx hb dX3_measure_2 rfl (lv_at hl 0 rfl) ?_
  refine lv_bipush (v := 8) hx hb dX3_measure_3 (by decide) ?_
  refine lv_icmp_ge (tgt := 33) hx hb dX3_measure_5 (by decide) (fun h => absurd h (by decide)) (fun _ => ?_)
  refine lv_aload_n hx hb dX3_measure_8 rfl (lv_at hl 1 rfl) ?_
  refine lv_iload_n hx hb dX3_measure_9 rfl (lv_at hl 0 rfl) ?_
  refine g_v (wr := [(q4, .inl (g.2 0, 384, .inl f20))]) (rV (rest := []) hx hb hml hown hE hP hD 2 rfl rfl (c168_X3_measureOne l g q1 q5 (.ref q4) (upd (upd (upd (upd (upd (upd f6 1 0) 4 1) 9 1) 14 1) 18 2) 19 2) (((pk_un (by decide)).trans ((pk_un (by decide)).trans ((pk_un (by decide)).trans ((pk_un (by decide)).trans ((pk_un (by decide)).trans ((pk_un (by decide)).trans hf27))))))) (((pk_un (by decide)).trans ((pk_un (by decide)).trans ((pk_un (by decide)).trans ((pk_un (by decide)).trans ((pk_un (by decide)).trans ((pk_un (by decide)).trans hf28))))))) (((pk_un (by decide)).trans ((pk_un (by decide)).trans ((pk_un (by decide)).trans ((pk_un (by decide)).trans ((pk_un (by decide)).trans ((pk_un (by decide)).trans hf29))))))) (((pk_un (by decide)).trans ((pk_un (by decide)).trans ((pk_un (by decide)).trans ((pk_un (by decide)).trans ((pk_un (by decide)).trans ((pk_un (by decide)).trans hf30))))))) H.size) (kV_X3_measureOne hE (e698 hE) rfl rfl ⟨(Nat.le_of_ble_eq_true rfl), (Nat.le_of_ble_eq_true rfl)⟩) [1, 2] rfl (by decide) rfl hl.1 rfl (lv_room (Nat.le_of_ble_eq_true rfl)) dX3_measure_10 ⟨(Nat.le_of_ble_eq_true rfl), (Nat.le_of_ble_eq_true rfl)⟩) hP hD hS hA [1, 2] [0] rfl rfl (by decide) (by decide) (fun u9 H locs hP hD hS => ?_)
  have hP : va_P g.1 vwCl [(q4, .inl (g.2 0, 384, .inl f20)), (q5, .inl (g.2 0, 40, .inl (upd (upd (upd (upd (upd (upd (upd f6 1 0) 4 1) 9 1) 14 1) 18 2) 19 2) 24 1))), (q1, .inr (5, [.ref q4, .ref q5]))] H := hP
  have hD : va_D A [(q4, .inl (g.2 0, 384, .inl f20)), (q5, .inl (g.2 0, 40, .inl (upd (upd (upd (upd (upd (upd (upd f6 1 0) 4 1) 9 1) 14 1) 18 2) 19 2) 24 1))), (q1, .inr (5, [.ref q4, .ref q5]))] := hD
  refine lv_aload_n hx hb dX3_measure_13 rfl (lv_at hl 1 rfl) ?_
  refine lv_iload_n hx hb dX3_measure_14 rfl (lv_at hl 0 rfl) ?_
  refine lv_iconst (v := 1) hx hb dX3_measure_15 (by decide) ?_
  refine g_i (wr := [(q4, .inl (g.2 0, 384, .inl f20))]) (rV (rest := []) hx hb hml hown hE hP hD 2 rfl rfl (c169_X3_figure l g q1 q5 (.ref q4) (upd (upd (upd (upd (upd (upd (upd f6 1 0) 4 1) 9 1) 14 1) 18 2) 19 2) 24 1) (((pk_un (by decide)).trans ((pk_un (by decide)).trans ((pk_un (by decide)).trans ((pk_un (by decide)).trans ((pk_un (by decide)).trans ((pk_un (by decide)).trans ((pk_un (by decide)).trans hf28)))))))) H.size) (kV_X3_figure hE (e343 hE) rfl rfl ⟨(Nat.le_of_ble_eq_true rfl), (Nat.le_of_ble_eq_true rfl)⟩) [1, 2] rfl (by decide) rfl hl.1 rfl (lv_room (Nat.le_of_ble_eq_true rfl)) dX3_measure_16 ⟨(Nat.le_of_ble_eq_true rfl), (Nat.le_of_ble_eq_true rfl)⟩) hP hD hS hA [1, 2] [0] rfl rfl (by decide) (by decide) (fun u10 H locs hP hD hS => ?_)
  have hP : va_P g.1 vwCl [(q4, .inl (g.2 0, 384, .inl f20)), (q5, .inl (g.2 0, 40, .inl (upd (upd (upd (upd (upd (upd (upd f6 1 0) 4 1) 9 1) 14 1) 18 2) 19 2) 24 1))), (q1, .inr (5, [.ref q4, .ref q5]))] H := hP
  have hD : va_D A [(q4, .inl (g.2 0, 384, .inl f20)), (q5, .inl (g.2 0, 40, .inl (upd (upd (upd (upd (upd (upd (upd f6 1 0) 4 1) 9 1) 14 1) 18 2) 19 2) 24 1))), (q1, .inr (5, [.ref q4, .ref q5]))] := hD
  refine lv_sipush (v := 20000) hx hb dX3_measure_19 (by decide) ?_
  refine lv_icmp_le (tgt := 27) hx hb dX3_measure_22 (by decide) (fun _ => ?_) (fun h => absurd (by decide) h)
  refine lv_iinc (v := 5) (lv' := [(1, .int 5), (0, .ref q1)]) hx hb dX3_measure_27 hl (k := 0) rfl (by decide) (by decide) rfl (fun ls hl => ?_)
  refine lv_goto (tgt := 2) hx hb dX3_measure_30 (by decide) ?_
  refine lv_iload_n hx hb dX3_measure_2 rfl (lv_at hl 0 rfl) ?_
  refine lv_bipush (v := 8) hx hb dX3_measure_3 (by decide) ?_
  refine lv_icmp_ge (tgt := 33) hx hb dX3_measure_5 (by decide) (fun h => absurd h (by decide)) (fun _ => ?_)
  refine lv_aload_n hx hb dX3_measure_8 rfl (lv_at hl 1 rfl) ?_
  refine lv_iload_n hx hb dX3_measure_9 rfl (lv_at hl 0 rfl) ?_
  refine g_v (wr := [(q4, .inl (g.2 0, 384, .inl f20))]) (rV (rest := []) hx hb hml hown hE hP hD 2 rfl rfl (c174_X3_measureOne l g q1 q5 (.ref q4) (upd (upd (upd (upd (upd (upd (upd f6 1 0) 4 1) 9 1) 14 1) 18 2) 19 2) 24 1) (((pk_un (by decide)).trans ((pk_un (by decide)).trans ((pk_un (by decide)).trans ((pk_un (by decide)).trans ((pk_un (by decide)).trans ((pk_un (by decide)).trans ((pk_un (by decide)).trans hf31)))))))) (((pk_un (by decide)).trans ((pk_un (by decide)).trans ((pk_un (by decide)).trans ((pk_un (by decide)).trans ((pk_un (by decide)).trans ((pk_un (by decide)).trans ((pk_un (by decide)).trans hf32)))))))) (((pk_un (by decide)).trans ((pk_un (by decide)).trans ((pk_un (by decide)).trans ((pk_un (by decide)).trans ((pk_un (by decide)).trans ((pk_un (by decide)).trans ((pk_un (by decide)).trans hf33)))))))) (((pk_un (by decide)).trans ((pk_un (by decide)).trans ((pk_un (by decide)).trans ((pk_un (by decide)).trans ((pk_un (by decide)).trans ((pk_un (by decide)).trans ((pk_un (by decide)).trans hf34)))))))) H.size) (kV_X3_measureOne hE (e698 hE) rfl rfl ⟨(Nat.le_of_ble_eq_true rfl), (Nat.le_of_ble_eq_true rfl)⟩) [1, 2] rfl (by decide) rfl hl.1 rfl (lv_room (Nat.le_of_ble_eq_true rfl)) dX3_measure_10 ⟨(Nat.le_of_ble_eq_true rfl), (Nat.le_of_ble_eq_true rfl)⟩) hP hD hS hA [1, 2] [0] rfl rfl (by decide) (by decide) (fun u11 H locs hP hD hS => ?_)
  have hP : va_P g.1 vwCl [(q4, .inl (g.2 0, 384, .inl f20)), (q5, .inl (g.2 0, 40, .inl (upd (upd (upd (upd (upd (upd (upd (upd f6 1 0) 4 1) 9 1) 14 1) 18 2) 19 2) 24 1) 29 1))), (q1, .inr (5, [.ref q4, .ref q5]))] H := hP
  have hD : va_D A [(q4, .inl (g.2 0, 384, .inl f20)), (q5, .inl (g.2 0, 40, .inl (upd (upd (upd (upd (upd (upd (upd (upd f6 1 0) 4 1) 9 1) 14 1) 18 2) 19 2) 24 1) 29 1))), (q1, .inr (5, [.ref q4, .ref q5]))] := hD
  refine lv_aload_n hx hb dX3_measure_13 rfl (lv_at hl 1 rfl) ?_
  refine lv_iload_n hx hb dX3_measure_14 rfl (lv_at hl 0 rfl) ?_
  refine lv_iconst (v := 1) hx hb dX3_measure_15 (by decide) ?_
  refine g_i (wr := [(q4, .inl (g.2 0, 384, .inl f20))]) (rV (rest := []) hx hb hml hown hE hP hD 2 rfl rfl (c175_X3_figure l g q1 q5 (.ref q4) (upd (upd (upd (upd (upd (upd (upd (upd f6 1 0) 4 1) 9 1) 14 1) 18 2) 19 2) 24 1) 29 1) (((pk_un (by decide)).trans ((pk_un (by decide)).trans ((pk_un (by decide)).trans ((pk_un (by decide)).trans ((pk_un (by decide)).trans ((pk_un (by decide)).trans ((pk_un (by decide)).trans ((pk_un (by decide)).trans hf32))))))))) H.size) (kV_X3_figure hE (e343 hE) rfl rfl ⟨(Nat.le_of_ble_eq_true rfl), (Nat.le_of_ble_eq_true rfl)⟩) [1, 2] rfl (by decide) rfl hl.1 rfl (lv_room (Nat.le_of_ble_eq_true rfl)) dX3_measure_16 ⟨(Nat.le_of_ble_eq_true rfl), (Nat.le_of_ble_eq_true rfl)⟩) hP hD hS hA [1, 2] [0] rfl rfl (by decide) (by decide) (fun u12 H locs hP hD hS => ?_)
  have hP : va_P g.1 vwCl [(q4, .inl (g.2 0, 384, .inl f20)), (q5, .inl (g.2 0, 40, .inl (upd (upd (upd (upd (upd (upd (upd (upd f6 1 0) 4 1) 9 1) 14 1) 18 2) 19 2) 24 1) 29 1))), (q1, .inr (5, [.ref q4, .ref q5]))] H := hP
  have hD : va_D A [(q4, .inl (g.2 0, 384, .inl f20)), (q5, .inl (g.2 0, 40, .inl (upd (upd (upd (upd (upd (upd (upd (upd f6 1 0) 4 1) 9 1) 14 1) 18 2) 19 2) 24 1) 29 1))), (q1, .inr (5, [.ref q4, .ref q5]))] := hD
  refine lv_sipush (v := 20000) hx hb dX3_measure_19 (by decide) ?_
  refine lv_icmp_le (tgt := 27) hx hb dX3_measure_22 (by decide) (fun _ => ?_) (fun h => absurd (by decide) h)
  refine lv_iinc (v := 6) (lv' := [(1, .int 6), (0, .ref q1)]) hx hb dX3_measure_27 hl (k := 0) rfl (by decide) (by decide) rfl (fun ls hl => ?_)
  refine lv_goto (tgt := 2) hx hb dX3_measure_30 (by decide) ?_
  refine lv_iload_n hx hb dX3_measure_2 rfl (lv_at hl 0 rfl) ?_
  refine lv_bipush (v := 8) hx hb dX3_measure_3 (by decide) ?_
  refine lv_icmp_ge (tgt := 33) hx hb dX3_measure_5 (by decide) (fun h => absurd h (by decide)) (fun _ => ?_)
  refine lv_aload_n hx hb dX3_measure_8 rfl (lv_at hl 1 rfl) ?_
  refine lv_iload_n hx hb dX3_measure_9 rfl (lv_at hl 0 rfl) ?_
  refine g_v (wr := [(q4, .inl (g.2 0, 384, .inl f20))]) (rV (rest := []) hx hb hml hown hE hP hD 2 rfl rfl (c180_X3_measureOne l g q1 q5 (.ref q4) (upd (upd (upd (upd (upd (upd (upd (upd f6 1 0) 4 1) 9 1) 14 1) 18 2) 19 2) 24 1) 29 1) (((pk_un (by decide)).trans ((pk_un (by decide)).trans ((pk_un (by decide)).trans ((pk_un (by decide)).trans ((pk_un (by decide)).trans ((pk_un (by decide)).trans ((pk_un (by decide)).trans ((pk_un (by decide)).trans hf35))))))))) (((pk_un (by decide)).trans ((pk_un (by decide)).trans ((pk_un (by decide)).trans ((pk_un (by decide)).trans ((pk_un (by decide)).trans ((pk_un (by decide)).trans ((pk_un (by decide)).trans ((pk_un (by decide)).trans hf36))))))))) (((pk_un (by decide)).trans ((pk_un (by decide)).trans ((pk_un (by decide)).trans ((pk_un (by decide)).trans ((pk_un (by decide)).trans ((pk_un (by decide)).trans ((pk_un (by decide)).trans ((pk_un (by decide)).trans hf37))))))))) (((pk_un (by decide)).trans ((pk_un (by decide)).trans ((pk_un (by decide)).trans ((pk_un (by decide)).trans ((pk_un (by decide)).trans ((pk_un (by decide)).trans ((pk_un (by decide)).trans ((pk_un (by decide)).trans hf38))))))))) H.size) (kV_X3_measureOne hE (e698 hE) rfl rfl ⟨(Nat.le_of_ble_eq_true rfl), (Nat.le_of_ble_eq_true rfl)⟩) [1, 2] rfl (by decide) rfl hl.1 rfl (lv_room (Nat.le_of_ble_eq_true rfl)) dX3_measure_10 ⟨(Nat.le_of_ble_eq_true rfl), (Nat.le_of_ble_eq_true rfl)⟩) hP hD hS hA [1, 2] [0] rfl rfl (by decide) (by decide) (fun u13 H locs hP hD hS => ?_)
  have hP : va_P g.1 vwCl [(q4, .inl (g.2 0, 384, .inl f20)), (q5, .inl (g.2 0, 40, .inl (upd (upd (upd (upd (upd (upd (upd (upd (upd f6 1 0) 4 1) 9 1) 14 1) 18 2) 19 2) 24 1) 29 1) 34 1))), (q1, .inr (5, [.ref q4, .ref q5]))] H := hP
  have hD : va_D A [(q4, .inl (g.2 0, 384, .inl f20)), (q5, .inl (g.2 0, 40, .inl (upd (upd (upd (upd (upd (upd (upd (upd (upd f6 1 0) 4 1) 9 1) 14 1) 18 2) 19 2) 24 1) 29 1) 34 1))), (q1, .inr (5, [.ref q4, .ref q5]))] := hD
  refine lv_aload_n hx hb dX3_measure_13 rfl (lv_at hl 1 rfl) ?_
  refine lv_iload_n hx hb dX3_measure_14 rfl (lv_at hl 0 rfl) ?_
  refine lv_iconst (v := 1) hx hb dX3_measure_15 (by decide) ?_
  refine g_i (wr := [(q4, .inl (g.2 0, 384, .inl f20))]) (rV (rest := []) hx hb hml hown hE hP hD 2 rfl rfl (c181_X3_figure l g q1 q5 (.ref q4) (upd (upd (upd (upd (upd (upd (upd (upd (upd f6 1 0) 4 1) 9 1) 14 1) 18 2) 19 2) 24 1) 29 1) 34 1) (((pk_un (by decide)).trans ((pk_un (by decide)).trans ((pk_un (by decide)).trans ((pk_un (by decide)).trans ((pk_un (by decide)).trans ((pk_un (by decide)).trans ((pk_un (by decide)).trans ((pk_un (by decide)).trans ((pk_un (by decide)).trans hf36)))))))))) H.size) (kV_X3_figure hE (e343 hE) rfl rfl ⟨(Nat.le_of_ble_eq_true rfl), (Nat.le_of_ble_eq_true rfl)⟩) [1, 2] rfl (by decide) rfl hl.1 rfl (lv_room (Nat.le_of_ble_eq_true rfl)) dX3_measure_16 ⟨(Nat.le_of_ble_eq_true rfl), (Nat.le_of_ble_eq_true rfl)⟩) hP hD hS hA [1, 2] [0] rfl rfl (by decide) (by decide) (fun u14 H locs hP hD hS => ?_)
  have hP : va_P g.1 vwCl [(q4, .inl (g.2 0, 384, .inl f20)), (q5, .inl (g.2 0, 40, .inl (upd (upd (upd (upd (upd (upd (upd (upd (upd f6 1 0) 4 1) 9 1) 14 1) 18 2) 19 2) 24 1) 29 1) 34 1))), (q1, .inr (5, [.ref q4, .ref q5]))] H := hP
  have hD : va_D A [(q4, .inl (g.2 0, 384, .inl f20)), (q5, .inl (g.2 0, 40, .inl (upd (upd (upd (upd (upd (upd (upd (upd (upd f6 1 0) 4 1) 9 1) 14 1) 18 2) 19 2) 24 1) 29 1) 34 1))), (q1, .inr (5, [.ref q4, .ref q5]))] := hD
  refine lv_sipush (v := 20000) hx hb dX3_measure_19 (by decide) ?_
  refine lv_icmp_le (tgt := 27) hx hb dX3_measure_22 (by decide) (fun _ => ?_) (fun h => absurd (by decide) h)
  refine lv_iinc (v := 7) (lv' := [(1, .int 7), (0, .ref q1)]) hx hb dX3_measure_27 hl (k := 0) rfl (by decide) (by decide) rfl (fun ls hl => ?_)
  refine lv_goto (tgt := 2) hx hb dX3_measure_30 (by decide) ?_
  refine lv_iload_n hx hb dX3_measure_2 rfl (lv_at hl 0 rfl) ?_
  refine lv_bipush (v := 8) hx hb dX3_measure_3 (by decide) ?_
  refine lv_icmp_ge (tgt := 33) hx hb dX3_measure_5 (by decide) (fun h => absurd h (by decide)) (fun _ => ?_)
  refine lv_aload_n hx hb dX3_measure_8 rfl (lv_at hl 1 rfl) ?_
  refine lv_iload_n hx hb dX3_measure_9 rfl (lv_at hl 0 rfl) ?_
  refine g_v (wr := [(q4, .inl (g.2 0, 384, .inl f20))]) (rV (rest := []) hx hb hml hown hE hP hD 2 rfl rfl (c186_X3_measureOne l g q1 q5 (.ref q4) (upd (upd (upd (upd (upd (upd (upd (upd (upd f6 1 0) 4 1) 9 1) 14 1) 18 2) 19 2) 24 1) 29 1) 34 1) (((pk_un (by decide)).trans ((pk_un (by decide)).trans ((pk_un (by decide)).trans ((pk_un (by decide)).trans ((pk_un (by decide)).trans ((pk_un (by decide)).trans ((pk_un (by decide)).trans ((pk_un (by decide)).trans ((pk_un (by decide)).trans hf39)))))))))) (((pk_un (by decide)).trans ((pk_un (by decide)).trans ((pk_un (by decide)).trans ((pk_un (by decide)).trans ((pk_un (by decide)).trans ((pk_un (by decide)).trans ((pk_un (by decide)).trans ((pk_un (by decide)).trans ((pk_un (by decide)).trans hf40)))))))))) (((pk_un (by decide)).trans ((pk_un (by decide)).trans ((pk_un (by decide)).trans ((pk_un (by decide)).trans ((pk_un (by decide)).trans ((pk_un (by decide)).trans ((pk_un (by decide)).trans ((pk_un (by decide)).trans ((pk_un (by decide)).trans hf41)))))))))) (((pk_un (by decide)).trans ((pk_un (by decide)).trans ((pk_un (by decide)).trans ((pk_un (by decide)).trans ((pk_un (by decide)).trans ((pk_un (by decide)).trans ((pk_un (by decide)).trans ((pk_un (by decide)).trans ((pk_un (by decide)).trans hf42)))))))))) H.size) (kV_X3_measureOne hE (e698 hE) rfl rfl ⟨(Nat.le_of_ble_eq_true rfl), (Nat.le_of_ble_eq_true rfl)⟩) [1, 2] rfl (by decide) rfl hl.1 rfl (lv_room (Nat.le_of_ble_eq_true rfl)) dX3_measure_10 ⟨(Nat.le_of_ble_eq_true rfl), (Nat.le_of_ble_eq_true rfl)⟩) hP hD hS hA [1, 2] [0] rfl rfl (by decide) (by decide) (fun u15 H locs hP hD hS => ?_)
  have hP : va_P g.1 vwCl [(q4, .inl (g.2 0, 384, .inl f20)), (q5, .inl (g.2 0, 40, .inl (upd (upd (upd (upd (upd (upd (upd (upd (upd (upd f6 1 0) 4 1) 9 1) 14 1) 18 2) 19 2) 24 1) 29 1) 34 1) 39 1))), (q1, .inr (5, [.ref q4, .ref q5]))] H := hP
  have hD : va_D A [(q4, .inl (g.2 0, 384, .inl f20)), (q5, .inl (g.2 0, 40, .inl (upd (upd (upd (upd (upd (upd (upd (upd (upd (upd f6 1 0) 4 1) 9 1) 14 1) 18 2) 19 2) 24 1) 29 1) 34 1) 39 1))), (q1, .inr (5, [.ref q4, .ref q5]))] := hD
  refine lv_aload_n hx hb dX3_measure_13 rfl (lv_at hl 1 rfl) ?_
  refine lv_iload_n hx hb dX3_measure_14 rfl (lv_at hl 0 rfl) ?_
  refine lv_iconst (v := 1) hx hb dX3_measure_15 (by decide) ?_
  refine g_i (wr := [(q4, .inl (g.2 0, 384, .inl f20))]) (rV (rest := []) hx hb hml hown hE hP hD 2 rfl rfl (c187_X3_figure l g q1 q5 (.ref q4) (upd (upd (upd (upd (upd (upd (upd (upd (upd (upd f6 1 0) 4 1) 9 1) 14 1) 18 2) 19 2) 24 1) 29 1) 34 1) 39 1) (((pk_un (by decide)).trans ((pk_un (by decide)).trans ((pk_un (by decide)).trans ((pk_un (by decide)).trans ((pk_un (by decide)).trans ((pk_un (by decide)).trans ((pk_un (by decide)).trans ((pk_un (by decide)).trans ((pk_un (by decide)).trans ((pk_un (by decide)).trans hf40))))))))))) H.size) (kV_X3_figure hE (e343 hE) rfl rfl ⟨(Nat.le_of_ble_eq_true rfl), (Nat.le_of_ble_eq_true rfl)⟩) [1, 2] rfl (by decide) rfl hl.1 rfl (lv_room (Nat.le_of_ble_eq_true rfl)) dX3_measure_16 ⟨(Nat.le_of_ble_eq_true rfl), (Nat.le_of_ble_eq_true rfl)⟩) hP hD hS hA [1, 2] [0] rfl rfl (by decide) (by decide) (fun u16 H locs hP hD hS => ?_)
  have hP : va_P g.1 vwCl [(q4, .inl (g.2 0, 384, .inl f20)), (q5, .inl (g.2 0, 40, .inl (upd (upd (upd (upd (upd (upd (upd (upd (upd (upd f6 1 0) 4 1) 9 1) 14 1) 18 2) 19 2) 24 1) 29 1) 34 1) 39 1))), (q1, .inr (5, [.ref q4, .ref q5]))] H := hP
  have hD : va_D A [(q4, .inl (g.2 0, 384, .inl f20)), (q5, .inl (g.2 0, 40, .inl (upd (upd (upd (upd (upd (upd (upd (upd (upd (upd f6 1 0) 4 1) 9 1) 14 1) 18 2) 19 2) 24 1) 29 1) 34 1) 39 1))), (q1, .inr (5, [.ref q4, .ref q5]))] := hD
  refine lv_sipush (v := 20000) hx hb dX3_measure_19 (by decide) ?_
  refine lv_icmp_le (tgt := 27) hx hb dX3_measure_22 (by decide) (fun _ => ?_) (fun h => absurd (by decide) h)
  refine lv_iinc (v := 8) (lv' := [(1, .int 8), (0, .ref q1)]) hx hb dX3_measure_27 hl (k := 0) rfl (by decide) (by decide) rfl (fun ls hl => ?_)
  refine lv_goto (tgt := 2) hx hb dX3_measure_30 (by decide) ?_
  refine lv_iload_n hx hb dX3_measure_2 rfl (lv_at hl 0 rfl) ?_
  refine lv_bipush (v := 8) hx hb dX3_measure_3 (by decide) ?_
  refine lv_icmp_ge (tgt := 33) hx hb dX3_measure_5 (by decide) (fun _ => ?_) (fun h => absurd (by decide) h)
  refine lv_iconst (v := 1) hx hb dX3_measure_33 (by decide) ?_
  exact x_zret hx hb hr rfl rfl hlocks hP hD hS hAe hsz (Nat.le_of_ble_eq_true rfl) (Nat.le_of_ble_eq_true rfl) (fun _ => 0) [0, 1, 2] (by decide) rfl dX3_measure_34

set_option maxHeartbeats 4000000 in
set_option maxRecDepth 100000 in
theorem c787_X9_acceptIfFitting (l : Launch) (g : gG) (q1 q2 q10 q13 q14 q63 : Nat) (x47 : Int32) (w4 w5 w6 w8 w9 w53 w54 w55 w56 w57 w58 w59 w60 w61 w62 w64 : Value) (f15 : Nat → Int32) (f45 : Nat → Int32) (hf16 : f15 0 = 0) (hf17 : f15 2 = 0) (hf18 : f15 3 = 0) (hf19 : f15 5 = 0) (hf20 : f15 6 = 0) (hf21 : f15 7 = 0) (hf22 : f15 8 = 0) (hf23 : f15 10 = 0) (hf24 : f15 11 = 0) (hf25 : f15 12 = 0) (hf26 : f15 13 = 0) (hf27 : f15 15 = 1) (hf28 : f15 18 = 0) (hf29 : f15 20 = 0) (hf30 : f15 21 = 0) (hf31 : f15 22 = 0) (hf32 : f15 23 = 0) (hf33 : f15 25 = 0) (hf34 : f15 26 = 0) (hf35 : f15 27 = 0) (hf36 : f15 28 = 0) (hf37 : f15 30 = 0) (hf38 : f15 31 = 0) (hf39 : f15 32 = 0) (hf40 : f15 33 = 0) (hf41 : f15 35 = 0) (hf42 : f15 36 = 0) (hf43 : f15 37 = 0) (hf44 : f15 38 = 0) (hf46 : f45 146 = x47) (hf48 : f15 17 = 0) (hf49 : f15 16 = 0) (hf50 : f45 144 = 2) (hf51 : f45 145 = 1) (sz : Nat) : Met l yX9_acceptIfFitting [Cond.code yX9_acceptIfFitting cX9_acceptIfFitting 2 none] ({ frames := 4, cells := 0, slots := 0, locals := 96 } : Room) (va_Pc [.ref q1, .ref q2] (PX g sz [(q63, .inr (10, [w64, .int 0, .int 0])), (q1, .inr (11, [.ref q63, w53, w54, w55, w56, w57, w58, w59, w60, w61, w62])), (q13, .inl (g.2 0, 384, .inl f45)), (q14, .inl (g.2 0, 40, .inl f15)), (q10, .inr (5, [.ref q13, .ref q14])), (q2, .inr (8, [.ref q10, w4, w5, w6, .int 0, w8, w9]))])) (QV g [(q63, .inr (10, [w64, .int 0, .int 0])), (q1, .inr (11, [.ref q63, w53, w54, w55, w56, w57, w58, w59, w60, w61, w62])), (q13, .inl (g.2 0, 384, .inl f45)), (q14, .inl (g.2 0, 40, .inl f15)), (q10, .inr (5, [.ref q13, .ref q14])), (q2, .inr (8, [.ref q10, w4, w5, w6, .int 0, w8, w9]))] sz (fun _ => [(q13, .inl (g.2 0, 384, .inl f45)), (q14, .inl (g.2 0, 40, .inl (upd (upd (upd (upd (upd (upd (upd (upd (upd (upd f15 1 0) 4 1) 9 1) 14 1) 18 2) 19 2) 24 1) 29 1) 34 1) 39 1))), (q10, .inr (5, [.ref q13, .ref q14])), (q2, .inr (8, [.ref q10, w4, w5, w6, .int 0, w8, w9])), (q63, .inr (10, [w64, .int 1, .int 1])), (q1, .inr (11, [.ref q63, w53, w54, w55, w56, w57, w58, w59, .int 0, .int 0, w62]))])) 0 0 (va_A [(q63, .inr (10, [w64, .int 0, .int 0])), (q1, .inr (11, [.ref q63, w53, w54, w55, w56, w57, w58, w59, w60, w61, w62])), (q13, .inl (g.2 0, 384, .inl f45)), (q14, .inl (g.2 0, 40, .inl f15)), (q10, .inr (5, [.ref q13, .ref q14])), (q2, .inr (8, [.ref q10, w4, w5, w6, .int 0, w8, w9]))] sz) := by
  refine ofN (by decide) (Nat.le_of_ble_eq_true rfl) rfl ?_
  intro p e s m args below meth c A ls hAe hsz hx hb hml hr hlocks hin hown hE hP hD hA hS hl
  have hown : s.vm.findClass RX9 = some m.cls := hown
  refine lv_aload_n hx hb dX9_acceptIfFitting_0 rfl (lv_at hl 1 rfl) ?_
  refine gf_RX9_108 hx hb hown hE hP 5 rfl rfl dX9_acceptIfFitting_1 ?_
  refine g_i (wr := [(q63, .inr (10, [w64, .int 0, .int 0])), (q1, .inr (11, [.ref q63, w53, w54, w55, w56, w57, w58, w59, w60, w61, w62])), (q2, .inr (8, [.ref q10, w4, w5, w6, .int 0, w8, w9]))]) (rV (rest := []) hx hb hml hown hE hP hD 4 rfl rfl (c786_X3_measure l g q10 q13 q14 x47 f15 f45 (hf16) (hf17) (hf18) (hf19) (hf20) (hf21) (hf22) (hf23) (hf24) (hf25) (hf26) (hf27) (hf28) (hf46) (hf48) (hf49) (hf50) (hf51) (hf29) (hf30) (hf31) (hf32) (hf33) (hf34) (hf35) (hf36) (hf37) (hf38) (hf39) (hf40) (hf41) (hf42) (hf43) (hf44) s.heap.size) (kV_X3_measure hE (e694 hE) rfl rfl ⟨(Nat.le_of_ble_eq_true rfl), (Nat.le_of_ble_eq_true rfl)⟩) [2, 3, 4] rfl (by decide) rfl hl.1 rfl (lv_room (Nat.le_of_ble_eq_true rfl)) dX9_acceptIfFitting_4 ⟨(Nat.le_of_ble_eq_true rfl), (Nat.le_of_ble_eq_true rfl)⟩) hP hD hS hA [2, 3, 4] [0, 1, 5] rfl rfl (by decide) (by decide) (fun u1 H locs hP hD hS => ?_)
  have hP : va_P g.1 vwCl [(q63, .inr (10, [w64, .int 0, .int 0])), (q1, .inr (11, [.ref q63, w53, w54, w55, w56, w57, w58, w59, w60, w61, w62])), (q2, .inr (8, [.ref q10, w4, w5, w6, .int 0, w8, w9])), (q13, .inl (g.2 0, 384, .inl f45)), (q14, .inl (g.2 0, 40, .inl (upd (upd (upd (upd (upd (upd (upd (upd (upd (upd f15 1 0) 4 1) 9 1) 14 1) 18 2) 19 2) 24 1) 29 1) 34 1) 39 1))), (q10, .inr (5, [.ref q13, .ref q14]))] H := hP
  have hD : va_D A [(q63, .inr (10, [w64, .int 0, .int 0])), (q1, .inr (11, [.ref q63, w53, w54, w55, w56, w57, w58, w59, w60, w61, w62])), (q2, .inr (8, [.ref q10, w4, w5, w6, .int 0, w8, w9])), (q13, .inl (g.2 0, 384, .inl f45)), (q14, .inl (g.2 0, 40, .inl (upd (upd (upd (upd (upd (upd (upd (upd (upd (upd f15 1 0) 4 1) 9 1) 14 1) 18 2) 19 2) 24 1) 29 1) 34 1) 39 1))), (q10, .inr (5, [.ref q13, .ref q14]))] := hD
  refine lv_if_eq (tgt := 17) hx hb dX9_acceptIfFitting_7 (by decide) (fun h => absurd h (by decide)) (fun _ => ?_)
  refine lv_aload_n hx hb dX9_acceptIfFitting_10 rfl (lv_at hl 1 rfl) ?_
  refine g_i (wr := [(q63, .inr (10, [w64, .int 0, .int 0])), (q1, .inr (11, [.ref q63, w53, w54, w55, w56, w57, w58, w59, w60, w61, w62])), (q13, .inl (g.2 0, 384, .inl f45)), (q14, .inl (g.2 0, 40, .inl (upd (upd (upd (upd (upd (upd (upd (upd (upd (upd f15 1 0) 4 1) 9 1) 14 1) 18 2) 19 2) 24 1) 29 1) 34 1) 39 1))), (q10, .inr (5, [.ref q13, .ref q14]))]) (rV (rest := []) hx hb hml hown hE hP hD 2 rfl rfl (c189_X6_hasFittingClips l g q2 (.ref q10) w4 w5 w6 w8 w9 H.size) (kV_X6_hasFittingClips hE (e703 hE) rfl rfl ⟨(Nat.le_of_ble_eq_true rfl), (Nat.le_of_ble_eq_true rfl)⟩) [2] rfl (by decide) rfl hl.1 rfl (lv_room (Nat.le_of_ble_eq_true rfl)) dX9_acceptIfFitting_11 ⟨(Nat.le_of_ble_eq_true rfl), (Nat.le_of_ble_eq_true rfl)⟩) hP hD hS hA [2] [0, 1, 3, 4, 5] rfl rfl (by decide) (by decide) (fun u2 H locs hP hD hS => ?_)
  have hP : va_P g.1 vwCl [(q63, .inr (10, [w64, .int 0, .int 0])), (q1, .inr (11, [.ref q63, w53, w54, w55, w56, w57, w58, w59, w60, w61, w62])), (q13, .inl (g.2 0, 384, .inl f45)), (q14, .inl (g.2 0, 40, .inl (upd (upd (upd (upd (upd (upd (upd (upd (upd (upd f15 1 0) 4 1) 9 1) 14 1) 18 2) 19 2) 24 1) 29 1) 34 1) 39 1))), (q10, .inr (5, [.ref q13, .ref q14])), (q2, .inr (8, [.ref q10, w4, w5, w6, .int 0, w8, w9]))] H := hP
  have hD : va_D A [(q63, .inr (10, [w64, .int 0, .int 0])), (q1, .inr (11, [.ref q63, w53, w54, w55, w56, w57, w58, w59, w60, w61, w62])), (q13, .inl (g.2 0, 384, .inl f45)), (q14, .inl (g.2 0, 40, .inl (upd (upd (upd (upd (upd (upd (upd (upd (upd (upd f15 1 0) 4 1) 9 1) 14 1) 18 2) 19 2) 24 1) 29 1) 34 1) 39 1))), (q10, .inr (5, [.ref q13, .ref q14])), (q2, .inr (8, [.ref q10, w4, w5, w6, .int 0, w8, w9]))] := hD
  refine lv_if_ne (tgt := 28) hx hb dX9_acceptIfFitting_14 (by decide) (fun _ => ?_) (fun h => absurd h (by decide))
  refine lv_aload_n hx hb dX9_acceptIfFitting_28 rfl (lv_at hl 0 rfl) ?_
  refine g_v (wr := [(q13, .inl (g.2 0, 384, .inl f45)), (q14, .inl (g.2 0, 40, .inl (upd (upd (upd (upd (upd (upd (upd (upd (upd (upd f15 1 0) 4 1) 9 1) 14 1) 18 2) 19 2) 24 1) 29 1) 34 1) 39 1))), (q10, .inr (5, [.ref q13, .ref q14])), (q2, .inr (8, [.ref q10, w4, w5, w6, .int 0, w8, w9]))]) (rV (rest := []) hx hb hml hown hE hP hD 1 rfl rfl (c191_X9_accept l g q1 q63 w53 w54 w55 w56 w57 w58 w59 w60 w61 w62 w64 H.size) (kV_X9_accept hE (e718 hE) rfl rfl ⟨(Nat.le_of_ble_eq_true rfl), (Nat.le_of_ble_eq_true rfl)⟩) [0, 1] rfl (by decide) rfl hl.1 rfl (lv_room (Nat.le_of_ble_eq_true rfl)) dX9_acceptIfFitting_29 ⟨(Nat.le_of_ble_eq_true rfl), (Nat.le_of_ble_eq_true rfl)⟩) hP hD hS hA [0, 1] [2, 3, 4, 5] rfl rfl (by decide) (by decide) (fun u3 H locs hP hD hS => ?_)
  have hP : va_P g.1 vwCl [(q13, .inl (g.2 0, 384, .inl f45)), (q14, .inl (g.2 0, 40, .inl (upd (upd (upd (upd (upd (upd (upd (upd (upd (upd f15 1 0) 4 1) 9 1) 14 1) 18 2) 19 2) 24 1) 29 1) 34 1) 39 1))), (q10, .inr (5, [.ref q13, .ref q14])), (q2, .inr (8, [.ref q10, w4, w5, w6, .int 0, w8, w9])), (q63, .inr (10, [w64, .int 1, .int 1])), (q1, .inr (11, [.ref q63, w53, w54, w55, w56, w57, w58, w59, .int 0, .int 0, w62]))] H := hP
  have hD : va_D A [(q13, .inl (g.2 0, 384, .inl f45)), (q14, .inl (g.2 0, 40, .inl (upd (upd (upd (upd (upd (upd (upd (upd (upd (upd f15 1 0) 4 1) 9 1) 14 1) 18 2) 19 2) 24 1) 29 1) 34 1) 39 1))), (q10, .inr (5, [.ref q13, .ref q14])), (q2, .inr (8, [.ref q10, w4, w5, w6, .int 0, w8, w9])), (q63, .inr (10, [w64, .int 1, .int 1])), (q1, .inr (11, [.ref q63, w53, w54, w55, w56, w57, w58, w59, .int 0, .int 0, w62]))] := hD
  exact x_vret hx hb hr hlocks hP hD hS hAe hsz (Nat.le_of_ble_eq_true rfl) (Nat.le_of_ble_eq_true rfl) (fun _ => 0) [0, 1, 2, 3, 4, 5] (by decide) rfl dX9_acceptIfFitting_32

set_option maxHeartbeats 4000000 in
set_option maxRecDepth 100000 in
theorem c788_X9_addOneItem (l : Launch) (g : gG) (q1 q14 q18 q21 q23 q31 q32 q33 q34 q42 q43 q44 q45 q48 q49 q52 q53 q60 q61 q66 q67 : Nat) (x2 : Int32) (w4 w5 w6 w7 w8 w9 w10 w11 w12 w13 w28 w29 w30 w64 w65 : Value) (f19 : Nat → Option Nat) (f54 : Nat → Int32) (f55 : Nat → Int32) (f68 : Nat → Int32) (f69 : Nat → Int32) (hf20 : f19 1 = some q21) (hf22 : f19 0 = some q23) (hf70 : f55 15 = 0) (hf71 : f55 0 = 0) (hf72 : f55 2 = 0) (hf73 : f55 3 = 0) (hf74 : f55 5 = 0) (hf75 : f55 6 = 0) (hf76 : f55 7 = 0) (hf77 : f55 8 = 0) (hf78 : f55 10 = 0) (hf79 : f55 11 = 0) (hf80 : f55 12 = 0) (hf81 : f55 13 = 0) (hf82 : f55 18 = 0) (hf83 : f55 20 = 0) (hf84 : f55 21 = 0) (hf85 : f55 22 = 0) (hf86 : f55 23 = 0) (hf87 : f55 25 = 0) (hf88 : f55 26 = 0) (hf89 : f55 27 = 0) (hf90 : f55 28 = 0) (hf91 : f55 30 = 0) (hf92 : f55 31 = 0) (hf93 : f55 32 = 0) (hf94 : f55 33 = 0) (hf95 : f55 35 = 0) (hf96 : f55 36 = 0) (hf97 : f55 37 = 0) (hf98 : f55 38 = 0) (hf99 : f55 17 = 0) (hf100 : f55 16 = 0) (sz : Nat) : Met l yX9_addOneItem [Cond.code yX9_addOneItem cX9_addOneItem 7 (some .int)] ({ frames := 5, cells := 0, slots := 0, locals := 148 } : Room) (va_Pc [.ref q1, .int 3, .int 2, .int 1, .int x2, .int (-1)] (PX g sz [(q34, .inl (g.2 0, 20, .inl f69)), (q45, .inl (g.2 0, 20, .inl f69)), (q33, .inl (g.2 0, 60, .inl f54)), (q44, .inl (g.2 0, 60, .inl f54)), (q67, .inl (g.2 0, 10, .inl f68)), (q61, .inl (g.2 0, 10, .inl f68)), (q66, .inl (g.2 0, 10, .inl f54)), (q60, .inl (g.2 0, 10, .inl f54)), (q32, .inr (9, [.ref q66, .ref q67, w64, w65])), (q43, .inr (9, [.ref q60, .ref q61, .int 1, .int 0])), (q53, .inl (g.2 0, 40, .inl f55)), (q49, .inl (g.2 0, 40, .inl f55)), (q52, .inl (g.2 0, 384, .inl f54)), (q48, .inl (g.2 0, 384, .inl f54)), (q31, .inr (5, [.ref q52, .ref q53])), (q42, .inr (5, [.ref q48, .ref q49])), (q23, .inr (8, [.ref q42, .ref q43, .ref q44, .ref q45, .int 0, .int 4, .int 0])), (q21, .inr (8, [.ref q31, .ref q32, .ref q33, .ref q34, w28, w29, w30])), (q18, .inl (g.2 3, 10, .inr (.inr (.inr (.inr f19))))), (q14, .inr (10, [.ref q18, .int 0, .int 0])), (q1, .inr (11, [.ref q14, w4, w5, w6, w7, w8, w9, w10, w11, w12, w13]))])) (QI g [(q34, .inl (g.2 0, 20, .inl f69)), (q45, .inl (g.2 0, 20, .inl f69)), (q33, .inl (g.2 0, 60, .inl f54)), (q44, .inl (g.2 0, 60, .inl f54)), (q67, .inl (g.2 0, 10, .inl f68)), (q61, .inl (g.2 0, 10, .inl f68)), (q66, .inl (g.2 0, 10, .inl f54)), (q60, .inl (g.2 0, 10, .inl f54)), (q32, .inr (9, [.ref q66, .ref q67, w64, w65])), (q43, .inr (9, [.ref q60, .ref q61, .int 1, .int 0])), (q53, .inl (g.2 0, 40, .inl f55)), (q49, .inl (g.2 0, 40, .inl f55)), (q52, .inl (g.2 0, 384, .inl f54)), (q48, .inl (g.2 0, 384, .inl f54)), (q31, .inr (5, [.ref q52, .ref q53])), (q42, .inr (5, [.ref q48, .ref q49])), (q23, .inr (8, [.ref q42, .ref q43, .ref q44, .ref q45, .int 0, .int 4, .int 0])), (q21, .inr (8, [.ref q31, .ref q32, .ref q33, .ref q34, w28, w29, w30])), (q18, .inl (g.2 3, 10, .inr (.inr (.inr (.inr f19))))), (q14, .inr (10, [.ref q18, .int 0, .int 0])), (q1, .inr (11, [.ref q14, w4, w5, w6, w7, w8, w9, w10, w11, w12, w13]))] sz 1 (fun _ => [(q18, .inl (g.2 3, 10, .inr (.inr (.inr (.inr f19))))), (q23, .inr (8, [.ref q42, .ref q43, .ref q44, .ref q45, .int 0, .int 4, .int 0])), (q42, .inr (5, [.ref q48, .ref q49])), (q48, .inl (g.2 0, 384, .inl f54)), (q49, .inl (g.2 0, 40, .inl f55)), (q32, .inr (9, [.ref q66, .ref q67, .int 1, .int 0])), (q43, .inr (9, [.ref q60, .ref q61, .int 1, .int 0])), (q66, .inl (g.2 0, 10, .inl f54)), (q60, .inl (g.2 0, 10, .inl f54)), (q67, .inl (g.2 0, 10, .inl f68)), (q61, .inl (g.2 0, 10, .inl f68)), (q33, .inl (g.2 0, 60, .inl f54)), (q44, .inl (g.2 0, 60, .inl f54)), (q34, .inl (g.2 0, 20, .inl f69)), (q45, .inl (g.2 0, 20, .inl f69)), (q52, .inl (g.2 0, 384, .inl (upd (upd (upd (upd f54 144 2) 145 1) 146 x2) 147 (-1)))), (q21, .inr (8, [.ref q31, .ref q32, .ref q33, .ref q34, .int 0, .int 4, .int 0])), (q14, .inr (10, [.ref q18, .int 1, .int 1])), (q1, .inr (11, [.ref q14, w4, w5, w6, w7, w8, w9, w10, .int 0, .int 0, w13])), (q53, .inl (g.2 0, 40, .inl (upd (upd (upd (upd (upd (upd (upd (upd (upd (upd (upd f55 15 1) 1 0) 4 1) 9 1) 14 1) 18 2) 19 2) 24 1) 29 1) 34 1) 39 1))), (q31, .inr (5, [.ref q52, .ref q53]))])) 0 0 (va_A [(q34, .inl (g.2 0, 20, .inl f69)), (q45, .inl (g.2 0, 20, .inl f69)), (q33, .inl (g.2 0, 60, .inl f54)), (q44, .inl (g.2 0, 60, .inl f54)), (q67, .inl (g.2 0, 10, .inl f68)), (q61, .inl (g.2 0, 10, .inl f68)), (q66, .inl (g.2 0, 10, .inl f54)), (q60, .inl (g.2 0, 10, .inl f54)), (q32, .inr (9, [.ref q66, .ref q67, w64, w65])), (q43, .inr (9, [.ref q60, .ref q61, .int 1, .int 0])), (q53, .inl (g.2 0, 40, .inl f55)), (q49, .inl (g.2 0, 40, .inl f55)), (q52, .inl (g.2 0, 384, .inl f54)), (q48, .inl (g.2 0, 384, .inl f54)), (q31, .inr (5, [.ref q52, .ref q53])), (q42, .inr (5, [.ref q48, .ref q49])), (q23, .inr (8, [.ref q42, .ref q43, .ref q44, .ref q45, .int 0, .int 4, .int 0])), (q21, .inr (8, [.ref q31, .ref q32, .ref q33, .ref q34, w28, w29, w30])), (q18, .inl (g.2 3, 10, .inr (.inr (.inr (.inr f19))))), (q14, .inr (10, [.ref q18, .int 0, .int 0])), (q1, .inr (11, [.ref q14, w4, w5, w6, w7, w8, w9, w10, w11, w12, w13]))] sz) := by
  refine ofN (by decide) (Nat.le_of_ble_eq_true rfl) rfl ?_
  intro p e s m args below meth c A ls hAe hsz hx hb hml hr hlocks hin hown hE hP hD hA hS hl
  have hown : s.vm.findClass RX9 = some m.cls := hown
  refine lv_aload_n hx hb dX9_addOneItem_0 rfl (lv_at hl 0 rfl) ?_
  refine gf_RX9_12 hx hb hown hE hP 20 rfl rfl dX9_addOneItem_1 ?_
  refine g_r (wr := [(q1, .inr (11, [.ref q14, w4, w5, w6, w7, w8, w9, w10, w11, w12, w13]))]) (rV (rest := []) hx hb hml hown hE hP hD 19 rfl rfl (c127_X8_draft l g q14 q18 q21 q23 q31 q42 q48 q52 q49 q53 q32 q43 q60 q66 q61 q67 q44 q33 q45 q34 (.int 0) w28 w29 w30 w64 w65 f19 f54 f55 f68 f69 (hf20) (hf22) s.heap.size) (kV_X8_draft hE (e659 hE) rfl rfl ⟨(Nat.le_of_ble_eq_true rfl), (Nat.le_of_ble_eq_true rfl)⟩) [0, 1, 2, 3, 4, 5, 6, 7, 8, 9, 10, 11, 12, 13, 14, 15, 16, 17, 18, 19] rfl (by decide) rfl hl.1 rfl (lv_room (Nat.le_of_ble_eq_true rfl)) dX9_addOneItem_4 ⟨(Nat.le_of_ble_eq_true rfl), (Nat.le_of_ble_eq_true rfl)⟩) hP hD hS hA [0, 1, 2, 3, 4, 5, 6, 7, 8, 9, 10, 11, 12, 13, 14, 15, 16, 17, 18, 19] [20] rfl rfl (by decide) (by decide) (fun u1 H locs hP hD hS => ?_)
  have hP : va_P g.1 vwCl [(q1, .inr (11, [.ref q14, w4, w5, w6, w7, w8, w9, w10, w11, w12, w13])), (q18, .inl (g.2 3, 10, .inr (.inr (.inr (.inr f19))))), (q14, .inr (10, [.ref q18, .int 0, .int 0])), (q23, .inr (8, [.ref q42, .ref q43, .ref q44, .ref q45, .int 0, .int 4, .int 0])), (q21, .inr (8, [.ref q31, .ref q32, .ref q33, .ref q34, .int 0, .int 4, .int 0])), (q31, .inr (5, [.ref q52, .ref q53])), (q42, .inr (5, [.ref q48, .ref q49])), (q52, .inl (g.2 0, 384, .inl f54)), (q48, .inl (g.2 0, 384, .inl f54)), (q53, .inl (g.2 0, 40, .inl f55)), (q49, .inl (g.2 0, 40, .inl f55)), (q32, .inr (9, [.ref q66, .ref q67, .int 1, .int 0])), (q43, .inr (9, [.ref q60, .ref q61, .int 1, .int 0])), (q66, .inl (g.2 0, 10, .inl f54)), (q60, .inl (g.2 0, 10, .inl f54)), (q67, .inl (g.2 0, 10, .inl f68)), (q61, .inl (g.2 0, 10, .inl f68)), (q33, .inl (g.2 0, 60, .inl f54)), (q44, .inl (g.2 0, 60, .inl f54)), (q34, .inl (g.2 0, 20, .inl f69)), (q45, .inl (g.2 0, 20, .inl f69))] H := hP
  have hD : va_D A [(q1, .inr (11, [.ref q14, w4, w5, w6, w7, w8, w9, w10, w11, w12, w13])), (q18, .inl (g.2 3, 10, .inr (.inr (.inr (.inr f19))))), (q14, .inr (10, [.ref q18, .int 0, .int 0])), (q23, .inr (8, [.ref q42, .ref q43, .ref q44, .ref q45, .int 0, .int 4, .int 0])), (q21, .inr (8, [.ref q31, .ref q32, .ref q33, .ref q34, .int 0, .int 4, .int 0])), (q31, .inr (5, [.ref q52, .ref q53])), (q42, .inr (5, [.ref q48, .ref q49])), (q52, .inl (g.2 0, 384, .inl f54)), (q48, .inl (g.2 0, 384, .inl f54)), (q53, .inl (g.2 0, 40, .inl f55)), (q49, .inl (g.2 0, 40, .inl f55)), (q32, .inr (9, [.ref q66, .ref q67, .int 1, .int 0])), (q43, .inr (9, [.ref q60, .ref q61, .int 1, .int 0])), (q66, .inl (g.2 0, 10, .inl f54)), (q60, .inl (g.2 0, 10, .inl f54)), (q67, .inl (g.2 0, 10, .inl f68)), (q61, .inl (g.2 0, 10, .inl f68)), (q33, .inl (g.2 0, 60, .inl f54)), (q44, .inl (g.2 0, 60, .inl f54)), (q34, .inl (g.2 0, 20, .inl f69)), (q45, .inl (g.2 0, 20, .inl f69))] := hD
  refine lv_astore (lv' := [(6, .ref q21), (0, .ref q1), (1, .int 3), (2, .int 2), (3, .int 1), (4, .int x2), (5, .int (-1))]) hx hb dX9_addOneItem_7 hl (by decide) rfl (fun ls hl => ?_)
  refine lv_aload hx hb dX9_addOneItem_9 (lv_at hl 0 rfl) ?_
  refine lv_iload_n hx hb dX9_addOneItem_11 rfl (lv_at hl 2 rfl) ?_
  refine lv_iload_n hx hb dX9_addOneItem_12 rfl (lv_at hl 3 rfl) ?_
  refine lv_iload_n hx hb dX9_addOneItem_13 rfl (lv_at hl 4 rfl) ?_
  refine lv_iload hx hb dX9_addOneItem_14 (lv_at hl 5 rfl) ?_
  refine lv_iload hx hb dX9_addOneItem_16 (lv_at hl 6 rfl) ?_
  refine g_v (wr := [(q1, .inr (11, [.ref q14, w4, w5, w6, w7, w8, w9, w10, w11, w12, w13])), (q18, .inl (g.2 3, 10, .inr (.inr (.inr (.inr f19))))), (q14, .inr (10, [.ref q18, .int 0, .int 0])), (q23, .inr (8, [.ref q42, .ref q43, .ref q44, .ref q45, .int 0, .int 4, .int 0])), (q42, .inr (5, [.ref q48, .ref q49])), (q48, .inl (g.2 0, 384, .inl f54)), (q49, .inl (g.2 0, 40, .inl f55)), (q32, .inr (9, [.ref q66, .ref q67, .int 1, .int 0])), (q43, .inr (9, [.ref q60, .ref q61, .int 1, .int 0])), (q66, .inl (g.2 0, 10, .inl f54)), (q60, .inl (g.2 0, 10, .inl f54)), (q67, .inl (g.2 0, 10, .inl f68)), (q61, .inl (g.2 0, 10, .inl f68)), (q33, .inl (g.2 0, 60, .inl f54)), (q44, .inl (g.2 0, 60, .inl f54)), (q34, .inl (g.2 0, 20, .inl f69)), (q45, .inl (g.2 0, 20, .inl f69))]) (rS (rest := []) hx hb hml hown hE hP hD (c761_X9_putItem l g q21 q31 q53 q52 1 x2 (.ref q32) (.ref q33) (.ref q34) (.int 0) (.int 4) (.int 0) f55 f54 (hf70) H.size) (kS_X9_putItem hE (e665 hE) rfl rfl ⟨(Nat.le_of_ble_eq_true rfl), (Nat.le_of_ble_eq_true rfl)⟩) [7, 9, 5, 4] rfl (by decide) rfl hl.1 rfl (lv_room (Nat.le_of_ble_eq_true rfl)) dX9_addOneItem_18 ⟨(Nat.le_of_ble_eq_true rfl), (Nat.le_of_ble_eq_true rfl)⟩) hP hD hS hA [7, 9, 5, 4] [0, 1, 2, 3, 6, 8, 10, 11, 12, 13, 14, 15, 16, 17, 18, 19, 20] rfl rfl (by decide) (by decide) (fun u2 H locs hP hD hS => ?_)
  have hP : va_P g.1 vwCl [(q1, .inr (11, [.ref q14, w4, w5, w6, w7, w8, w9, w10, w11, w12, w13])), (q18, .inl (g.2 3, 10, .inr (.inr (.inr (.inr f19))))), (q14, .inr (10, [.ref q18, .int 0, .int 0])), (q23, .inr (8, [.ref q42, .ref q43, .ref q44, .ref q45, .int 0, .int 4, .int 0])), (q42, .inr (5, [.ref q48, .ref q49])), (q48, .inl (g.2 0, 384, .inl f54)), (q49, .inl (g.2 0, 40, .inl f55)), (q32, .inr (9, [.ref q66, .ref q67, .int 1, .int 0])), (q43, .inr (9, [.ref q60, .ref q61, .int 1, .int 0])), (q66, .inl (g.2 0, 10, .inl f54)), (q60, .inl (g.2 0, 10, .inl f54)), (q67, .inl (g.2 0, 10, .inl f68)), (q61, .inl (g.2 0, 10, .inl f68)), (q33, .inl (g.2 0, 60, .inl f54)), (q44, .inl (g.2 0, 60, .inl f54)), (q34, .inl (g.2 0, 20, .inl f69)), (q45, .inl (g.2 0, 20, .inl f69)), (q21, .inr (8, [.ref q31, .ref q32, .ref q33, .ref q34, .int 0, .int 4, .int 0])), (q52, .inl (g.2 0, 384, .inl (upd (upd (upd (upd f54 144 2) 145 1) 146 x2) 147 (-1)))), (q53, .inl (g.2 0, 40, .inl (upd f55 15 1))), (q31, .inr (5, [.ref q52, .ref q53]))] H := hP
  have hD : va_D A [(q1, .inr (11, [.ref q14, w4, w5, w6, w7, w8, w9, w10, w11, w12, w13])), (q18, .inl (g.2 3, 10, .inr (.inr (.inr (.inr f19))))), (q14, .inr (10, [.ref q18, .int 0, .int 0])), (q23, .inr (8, [.ref q42, .ref q43, .ref q44, .ref q45, .int 0, .int 4, .int 0])), (q42, .inr (5, [.ref q48, .ref q49])), (q48, .inl (g.2 0, 384, .inl f54)), (q49, .inl (g.2 0, 40, .inl f55)), (q32, .inr (9, [.ref q66, .ref q67, .int 1, .int 0])), (q43, .inr (9, [.ref q60, .ref q61, .int 1, .int 0])), (q66, .inl (g.2 0, 10, .inl f54)), (q60, .inl (g.2 0, 10, .inl f54)), (q67, .inl (g.2 0, 10, .inl f68)), (q61, .inl (g.2 0, 10, .inl f68)), (q33, .inl (g.2 0, 60, .inl f54)), (q44, .inl (g.2 0, 60, .inl f54)), (q34, .inl (g.2 0, 20, .inl f69)), (q45, .inl (g.2 0, 20, .inl f69)), (q21, .inr (8, [.ref q31, .ref q32, .ref q33, .ref q34, .int 0, .int 4, .int 0])), (q52, .inl (g.2 0, 384, .inl (upd (upd (upd (upd f54 144 2) 145 1) 146 x2) 147 (-1)))), (q53, .inl (g.2 0, 40, .inl (upd f55 15 1))), (q31, .inr (5, [.ref q52, .ref q53]))] := hD
  refine lv_aload_n hx hb dX9_addOneItem_21 rfl (lv_at hl 1 rfl) ?_
  refine lv_aload hx hb dX9_addOneItem_22 (lv_at hl 0 rfl) ?_
  refine g_v (wr := [(q18, .inl (g.2 3, 10, .inr (.inr (.inr (.inr f19))))), (q23, .inr (8, [.ref q42, .ref q43, .ref q44, .ref q45, .int 0, .int 4, .int 0])), (q42, .inr (5, [.ref q48, .ref q49])), (q48, .inl (g.2 0, 384, .inl f54)), (q49, .inl (g.2 0, 40, .inl f55)), (q32, .inr (9, [.ref q66, .ref q67, .int 1, .int 0])), (q43, .inr (9, [.ref q60, .ref q61, .int 1, .int 0])), (q66, .inl (g.2 0, 10, .inl f54)), (q60, .inl (g.2 0, 10, .inl f54)), (q67, .inl (g.2 0, 10, .inl f68)), (q61, .inl (g.2 0, 10, .inl f68)), (q33, .inl (g.2 0, 60, .inl f54)), (q44, .inl (g.2 0, 60, .inl f54)), (q34, .inl (g.2 0, 20, .inl f69)), (q45, .inl (g.2 0, 20, .inl f69))]) (rV (rest := []) hx hb hml hown hE hP hD 0 rfl rfl (c787_X9_acceptIfFitting l g q1 q21 q31 q52 q53 q14 x2 (.ref q32) (.ref q33) (.ref q34) (.int 4) (.int 0) w4 w5 w6 w7 w8 w9 w10 w11 w12 w13 (.ref q18) (upd f55 15 1) (upd (upd (upd (upd f54 144 2) 145 1) 146 x2) 147 (-1)) (((pk_un (by decide)).trans hf71)) (((pk_un (by decide)).trans hf72)) (((pk_un (by decide)).trans hf73)) (((pk_un (by decide)).trans hf74)) (((pk_un (by decide)).trans hf75)) (((pk_un (by decide)).trans hf76)) (((pk_un (by decide)).trans hf77)) (((pk_un (by decide)).trans hf78)) (((pk_un (by decide)).trans hf79)) (((pk_un (by decide)).trans hf80)) (((pk_un (by decide)).trans hf81)) (pk_us) (((pk_un (by decide)).trans hf82)) (((pk_un (by decide)).trans hf83)) (((pk_un (by decide)).trans hf84)) (((pk_un (by decide)).trans hf85)) (((pk_un (by decide)).trans hf86)) (((pk_un (by decide)).trans hf87)) (((pk_un (by decide)).trans hf88)) (((pk_un (by decide)).trans hf89)) (((pk_un (by decide)).trans hf90)) (((pk_un (by decide)).trans hf91)) (((pk_un (by decide)).trans hf92)) (((pk_un (by decide)).trans hf93)) (((pk_un (by decide)).trans hf94)) (((pk_un (by decide)).trans hf95)) (((pk_un (by decide)).trans hf96)) (((pk_un (by decide)).trans hf97)) (((pk_un (by decide)).trans hf98)) (((pk_un (by decide)).trans pk_us)) (((pk_un (by decide)).trans hf99)) (((pk_un (by decide)).trans hf100)) (((pk_un (by decide)).trans ((pk_un (by decide)).trans ((pk_un (by decide)).trans pk_us)))) (((pk_un (by decide)).trans ((pk_un (by decide)).trans pk_us))) H.size) (kV_X9_acceptIfFitting hE (e690 hE) rfl rfl ⟨(Nat.le_of_ble_eq_true rfl), (Nat.le_of_ble_eq_true rfl)⟩) [2, 0, 18, 19, 20, 17] rfl (by decide) rfl hl.1 rfl (lv_room (Nat.le_of_ble_eq_true rfl)) dX9_addOneItem_24 ⟨(Nat.le_of_ble_eq_true rfl), (Nat.le_of_ble_eq_true rfl)⟩) hP hD hS hA [2, 0, 18, 19, 20, 17] [1, 3, 4, 5, 6, 7, 8, 9, 10, 11, 12, 13, 14, 15, 16] rfl rfl (by decide) (by decide) (fun u3 H locs hP hD hS => ?_)
  have hP : va_P g.1 vwCl [(q18, .inl (g.2 3, 10, .inr (.inr (.inr (.inr f19))))), (q23, .inr (8, [.ref q42, .ref q43, .ref q44, .ref q45, .int 0, .int 4, .int 0])), (q42, .inr (5, [.ref q48, .ref q49])), (q48, .inl (g.2 0, 384, .inl f54)), (q49, .inl (g.2 0, 40, .inl f55)), (q32, .inr (9, [.ref q66, .ref q67, .int 1, .int 0])), (q43, .inr (9, [.ref q60, .ref q61, .int 1, .int 0])), (q66, .inl (g.2 0, 10, .inl f54)), (q60, .inl (g.2 0, 10, .inl f54)), (q67, .inl (g.2 0, 10, .inl f68)), (q61, .inl (g.2 0, 10, .inl f68)), (q33, .inl (g.2 0, 60, .inl f54)), (q44, .inl (g.2 0, 60, .inl f54)), (q34, .inl (g.2 0, 20, .inl f69)), (q45, .inl (g.2 0, 20, .inl f69)), (q52, .inl (g.2 0, 384, .inl (upd (upd (upd (upd f54 144 2) 145 1) 146 x2) 147 (-1)))), (q53, .inl (g.2 0, 40, .inl (upd (upd (upd (upd (upd (upd (upd (upd (upd (upd (upd f55 15 1) 1 0) 4 1) 9 1) 14 1) 18 2) 19 2) 24 1) 29 1) 34 1) 39 1))), (q31, .inr (5, [.ref q52, .ref q53])), (q21, .inr (8, [.ref q31, .ref q32, .ref q33, .ref q34, .int 0, .int 4, .int 0])), (q14, .inr (10, [.ref q18, .int 1, .int 1])), (q1, .inr (11, [.ref q14, w4, w5, w6, w7, w8, w9, w10, .int 0, .int 0, w13]))] H := hP
  have hD : va_D A [(q18, .inl (g.2 3, 10, .inr (.inr (.inr (.inr f19))))), (q23, .inr (8, [.ref q42, .ref q43, .ref q44, .ref q45, .int 0, .int 4, .int 0])), (q42, .inr (5, [.ref q48, .ref q49])), (q48, .inl (g.2 0, 384, .inl f54)), (q49, .inl (g.2 0, 40, .inl f55)), (q32, .inr (9, [.ref q66, .ref q67, .int 1, .int 0])), (q43, .inr (9, [.ref q60, .ref q61, .int 1, .int 0])), (q66, .inl (g.2 0, 10, .inl f54)), (q60, .inl (g.2 0, 10, .inl f54)), (q67, .inl (g.2 0, 10, .inl f68)), (q61, .inl (g.2 0, 10, .inl f68)), (q33, .inl (g.2 0, 60, .inl f54)), (q44, .inl (g.2 0, 60, .inl f54)), (q34, .inl (g.2 0, 20, .inl f69)), (q45, .inl (g.2 0, 20, .inl f69)), (q52, .inl (g.2 0, 384, .inl (upd (upd (upd (upd f54 144 2) 145 1) 146 x2) 147 (-1)))), (q53, .inl (g.2 0, 40, .inl (upd (upd (upd (upd (upd (upd (upd (upd (upd (upd (upd f55 15 1) 1 0) 4 1) 9 1) 14 1) 18 2) 19 2) 24 1) 29 1) 34 1) 39 1))), (q31, .inr (5, [.ref q52, .ref q53])), (q21, .inr (8, [.ref q31, .ref q32, .ref q33, .ref q34, .int 0, .int 4, .int 0])), (q14, .inr (10, [.ref q18, .int 1, .int 1])), (q1, .inr (11, [.ref q14, w4, w5, w6, w7, w8, w9, w10, .int 0, .int 0, w13]))] := hD
  refine lv_aload hx hb dX9_addOneItem_27 (lv_at hl 0 rfl) ?_
  refine gf_RX9_108 hx hb hown hE hP 18 rfl rfl dX9_addOneItem_29 ?_
  refine lv_iload_n hx hb dX9_addOneItem_32 rfl (lv_at hl 2 rfl) ?_
  refine lv_iconst (v := 0) hx hb dX9_addOneItem_33 (by decide) ?_
  refine g_i (wr := [(q18, .inl (g.2 3, 10, .inr (.inr (.inr (.inr f19))))), (q23, .inr (8, [.ref q42, .ref q43, .ref q44, .ref q45, .int 0, .int 4, .int 0])), (q42, .inr (5, [.ref q48, .ref q49])), (q48, .inl (g.2 0, 384, .inl f54)), (q49, .inl (g.2 0, 40, .inl f55)), (q32, .inr (9, [.ref q66, .ref q67, .int 1, .int 0])), (q43, .inr (9, [.ref q60, .ref q61, .int 1, .int 0])), (q66, .inl (g.2 0, 10, .inl f54)), (q60, .inl (g.2 0, 10, .inl f54)), (q67, .inl (g.2 0, 10, .inl f68)), (q61, .inl (g.2 0, 10, .inl f68)), (q33, .inl (g.2 0, 60, .inl f54)), (q44, .inl (g.2 0, 60, .inl f54)), (q34, .inl (g.2 0, 20, .inl f69)), (q45, .inl (g.2 0, 20, .inl f69)), (q52, .inl (g.2 0, 384, .inl (upd (upd (upd (upd f54 144 2) 145 1) 146 x2) 147 (-1)))), (q21, .inr (8, [.ref q31, .ref q32, .ref q33, .ref q34, .int 0, .int 4, .int 0])), (q14, .inr (10, [.ref q18, .int 1, .int 1])), (q1, .inr (11, [.ref q14, w4, w5, w6, w7, w8, w9, w10, .int 0, .int 0, w13]))]) (rV (rest := []) hx hb hml hown hE hP hD 17 rfl rfl (c293_X3_figure l g q31 q53 (.ref q52) (upd (upd (upd (upd (upd (upd (upd (upd (upd (upd (upd f55 15 1) 1 0) 4 1) 9 1) 14 1) 18 2) 19 2) 24 1) 29 1) 34 1) 39 1) (((pk_un (by decide)).trans ((pk_un (by decide)).trans ((pk_un (by decide)).trans ((pk_un (by decide)).trans ((pk_un (by decide)).trans ((pk_un (by decide)).trans ((pk_un (by decide)).trans ((pk_un (by decide)).trans ((pk_un (by decide)).trans ((pk_un (by decide)).trans pk_us))))))))))) H.size) (kV_X3_figure hE (e668 hE) rfl rfl ⟨(Nat.le_of_ble_eq_true rfl), (Nat.le_of_ble_eq_true rfl)⟩) [16, 17] rfl (by decide) rfl hl.1 rfl (lv_room (Nat.le_of_ble_eq_true rfl)) dX9_addOneItem_34 ⟨(Nat.le_of_ble_eq_true rfl), (Nat.le_of_ble_eq_true rfl)⟩) hP hD hS hA [16, 17] [0, 1, 2, 3, 4, 5, 6, 7, 8, 9, 10, 11, 12, 13, 14, 15, 18, 19, 20] rfl rfl (by decide) (by decide) (fun u4 H locs hP hD hS => ?_)
  have hP : va_P g.1 vwCl [(q18, .inl (g.2 3, 10, .inr (.inr (.inr (.inr f19))))), (q23, .inr (8, [.ref q42, .ref q43, .ref q44, .ref q45, .int 0, .int 4, .int 0])), (q42, .inr (5, [.ref q48, .ref q49])), (q48, .inl (g.2 0, 384, .inl f54)), (q49, .inl (g.2 0, 40, .inl f55)), (q32, .inr (9, [.ref q66, .ref q67, .int 1, .int 0])), (q43, .inr (9, [.ref q60, .ref q61, .int 1, .int 0])), (q66, .inl (g.2 0, 10, .inl f54)), (q60, .inl (g.2 0, 10, .inl f54)), (q67, .inl (g.2 0, 10, .inl f68)), (q61, .inl (g.2 0, 10, .inl f68)), (q33, .inl (g.2 0, 60, .inl f54)), (q44, .inl (g.2 0, 60, .inl f54)), (q34, .inl (g.2 0, 20, .inl f69)), (q45, .inl (g.2 0, 20, .inl f69)), (q52, .inl (g.2 0, 384, .inl (upd (upd (upd (upd f54 144 2) 145 1) 146 x2) 147 (-1)))), (q21, .inr (8, [.ref q31, .ref q32, .ref q33, .ref q34, .int 0, .int 4, .int 0])), (q14, .inr (10, [.ref q18, .int 1, .int 1])), (q1, .inr (11, [.ref q14, w4, w5, w6, w7, w8, w9, w10, .int 0, .int 0, w13])), (q53, .inl (g.2 0, 40, .inl (upd (upd (upd (upd (upd (upd (upd (upd (upd (upd (upd f55 15 1) 1 0) 4 1) 9 1) 14 1) 18 2) 19 2) 24 1) 29 1) 34 1) 39 1))), (q31, .inr (5, [.ref q52, .ref q53]))] H := hP
  have hD : va_D A [(q18, .inl (g.2 3, 10, .inr (.inr (.inr (.inr f19))))), (q23, .inr (8, [.ref q42, .ref q43, .ref q44, .ref q45, .int 0, .int 4, .int 0])), (q42, .inr (5, [.ref q48, .ref q49])), (q48, .inl (g.2 0, 384, .inl f54)), (q49, .inl (g.2 0, 40, .inl f55)), (q32, .inr (9, [.ref q66, .ref q67, .int 1, .int 0])), (q43, .inr (9, [.ref q60, .ref q61, .int 1, .int 0])), (q66, .inl (g.2 0, 10, .inl f54)), (q60, .inl (g.2 0, 10, .inl f54)), (q67, .inl (g.2 0, 10, .inl f68)), (q61, .inl (g.2 0, 10, .inl f68)), (q33, .inl (g.2 0, 60, .inl f54)), (q44, .inl (g.2 0, 60, .inl f54)), (q34, .inl (g.2 0, 20, .inl f69)), (q45, .inl (g.2 0, 20, .inl f69)), (q52, .inl (g.2 0, 384, .inl (upd (upd (upd (upd f54 144 2) 145 1) 146 x2) 147 (-1)))), (q21, .inr (8, [.ref q31, .ref q32, .ref q33, .ref q34, .int 0, .int 4, .int 0])), (q14, .inr (10, [.ref q18, .int 1, .int 1])), (q1, .inr (11, [.ref q14, w4, w5, w6, w7, w8, w9, w10, .int 0, .int 0, w13])), (q53, .inl (g.2 0, 40, .inl (upd (upd (upd (upd (upd (upd (upd (upd (upd (upd (upd f55 15 1) 1 0) 4 1) 9 1) 14 1) 18 2) 19 2) 24 1) 29 1) 34 1) 39 1))), (q31, .inr (5, [.ref q52, .ref q53]))] := hD
  exact x_zret hx hb hr rfl rfl hlocks hP hD hS hAe hsz (Nat.le_of_ble_eq_true rfl) (Nat.le_of_ble_eq_true rfl) (fun _ => 0) [0, 1, 2, 3, 4, 5, 6, 7, 8, 9, 10, 11, 12, 13, 14, 15, 16, 17, 18, 19, 20] (by decide) rfl dX9_addOneItem_37

set_option maxHeartbeats 4000000 in
set_option maxRecDepth 100000 in
theorem c789_X9_addCall (l : Launch) (g : gG) (q1 q16 q20 q23 q25 q33 q34 q35 q36 q44 q45 q46 q47 q50 q51 q54 q55 q62 q63 q68 q69 : Nat) (x2 : Int32) (w6 w7 w8 w9 w10 w11 w12 w13 w14 w15 w30 w31 w32 w66 w67 : Value) (f21 : Nat → Option Nat) (f56 : Nat → Int32) (f57 : Nat → Int32) (f70 : Nat → Int32) (f71 : Nat → Int32) (hf22 : f21 1 = some q23) (hf24 : f21 0 = some q25) (hf72 : f57 15 = 0) (hf73 : f57 0 = 0) (hf74 : f57 2 = 0) (hf75 : f57 3 = 0) (hf76 : f57 5 = 0) (hf77 : f57 6 = 0) (hf78 : f57 7 = 0) (hf79 : f57 8 = 0) (hf80 : f57 10 = 0) (hf81 : f57 11 = 0) (hf82 : f57 12 = 0) (hf83 : f57 13 = 0) (hf84 : f57 18 = 0) (hf85 : f57 20 = 0) (hf86 : f57 21 = 0) (hf87 : f57 22 = 0) (hf88 : f57 23 = 0) (hf89 : f57 25 = 0) (hf90 : f57 26 = 0) (hf91 : f57 27 = 0) (hf92 : f57 28 = 0) (hf93 : f57 30 = 0) (hf94 : f57 31 = 0) (hf95 : f57 32 = 0) (hf96 : f57 33 = 0) (hf97 : f57 35 = 0) (hf98 : f57 36 = 0) (hf99 : f57 37 = 0) (hf100 : f57 38 = 0) (hf101 : f57 17 = 0) (hf102 : f57 16 = 0) (h3 : (1 : Int32) ≤ x2) (h4 : x2 ≤ 9) (sz : Nat) : Met l yX9_addCall [Cond.code yX9_addCall cX9_addCall 4 (some .int)] ({ frames := 6, cells := 0, slots := 0, locals := 174 } : Room) (va_Pc [.ref q1, .int 3, .int 1, .int x2] (PX g sz [(q36, .inl (g.2 0, 20, .inl f71)), (q47, .inl (g.2 0, 20, .inl f71)), (q35, .inl (g.2 0, 60, .inl f56)), (q46, .inl (g.2 0, 60, .inl f56)), (q69, .inl (g.2 0, 10, .inl f70)), (q63, .inl (g.2 0, 10, .inl f70)), (q68, .inl (g.2 0, 10, .inl f56)), (q62, .inl (g.2 0, 10, .inl f56)), (q34, .inr (9, [.ref q68, .ref q69, w66, w67])), (q45, .inr (9, [.ref q62, .ref q63, .int 1, .int 0])), (q55, .inl (g.2 0, 40, .inl f57)), (q51, .inl (g.2 0, 40, .inl f57)), (q54, .inl (g.2 0, 384, .inl f56)), (q50, .inl (g.2 0, 384, .inl f56)), (q33, .inr (5, [.ref q54, .ref q55])), (q44, .inr (5, [.ref q50, .ref q51])), (q25, .inr (8, [.ref q44, .ref q45, .ref q46, .ref q47, .int 0, .int 4, .int 0])), (q23, .inr (8, [.ref q33, .ref q34, .ref q35, .ref q36, w30, w31, w32])), (q20, .inl (g.2 3, 10, .inr (.inr (.inr (.inr f21))))), (q16, .inr (10, [.ref q20, .int 0, .int 0])), (q1, .inr (11, [.ref q16, w6, w7, w8, w9, w10, w11, w12, w13, w14, w15]))])) (QI g [(q36, .inl (g.2 0, 20, .inl f71)), (q47, .inl (g.2 0, 20, .inl f71)), (q35, .inl (g.2 0, 60, .inl f56)), (q46, .inl (g.2 0, 60, .inl f56)), (q69, .inl (g.2 0, 10, .inl f70)), (q63, .inl (g.2 0, 10, .inl f70)), (q68, .inl (g.2 0, 10, .inl f56)), (q62, .inl (g.2 0, 10, .inl f56)), (q34, .inr (9, [.ref q68, .ref q69, w66, w67])), (q45, .inr (9, [.ref q62, .ref q63, .int 1, .int 0])), (q55, .inl (g.2 0, 40, .inl f57)), (q51, .inl (g.2 0, 40, .inl f57)), (q54, .inl (g.2 0, 384, .inl f56)), (q50, .inl (g.2 0, 384, .inl f56)), (q33, .inr (5, [.ref q54, .ref q55])), (q44, .inr (5, [.ref q50, .ref q51])), (q25, .inr (8, [.ref q44, .ref q45, .ref q46, .ref q47, .int 0, .int 4, .int 0])), (q23, .inr (8, [.ref q33, .ref q34, .ref q35, .ref q36, w30, w31, w32])), (q20, .inl (g.2 3, 10, .inr (.inr (.inr (.inr f21))))), (q16, .inr (10, [.ref q20, .int 0, .int 0])), (q1, .inr (11, [.ref q16, w6, w7, w8, w9, w10, w11, w12, w13, w14, w15]))] sz 1 (fun _ => [(q20, .inl (g.2 3, 10, .inr (.inr (.inr (.inr f21))))), (q25, .inr (8, [.ref q44, .ref q45, .ref q46, .ref q47, .int 0, .int 4, .int 0])), (q44, .inr (5, [.ref q50, .ref q51])), (q50, .inl (g.2 0, 384, .inl f56)), (q51, .inl (g.2 0, 40, .inl f57)), (q34, .inr (9, [.ref q68, .ref q69, .int 1, .int 0])), (q45, .inr (9, [.ref q62, .ref q63, .int 1, .int 0])), (q68, .inl (g.2 0, 10, .inl f56)), (q62, .inl (g.2 0, 10, .inl f56)), (q69, .inl (g.2 0, 10, .inl f70)), (q63, .inl (g.2 0, 10, .inl f70)), (q35, .inl (g.2 0, 60, .inl f56)), (q46, .inl (g.2 0, 60, .inl f56)), (q36, .inl (g.2 0, 20, .inl f71)), (q47, .inl (g.2 0, 20, .inl f71)), (q54, .inl (g.2 0, 384, .inl (upd (upd (upd (upd f56 144 2) 145 1) 146 x2) 147 (-1)))), (q23, .inr (8, [.ref q33, .ref q34, .ref q35, .ref q36, .int 0, .int 4, .int 0])), (q16, .inr (10, [.ref q20, .int 1, .int 1])), (q1, .inr (11, [.ref q16, w6, w7, w8, w9, w10, w11, w12, .int 0, .int 0, w15])), (q55, .inl (g.2 0, 40, .inl (upd (upd (upd (upd (upd (upd (upd (upd (upd (upd (upd f57 15 1) 1 0) 4 1) 9 1) 14 1) 18 2) 19 2) 24 1) 29 1) 34 1) 39 1))), (q33, .inr (5, [.ref q54, .ref q55]))])) 0 0 (va_A [(q36, .inl (g.2 0, 20, .inl f71)), (q47, .inl (g.2 0, 20, .inl f71)), (q35, .inl (g.2 0, 60, .inl f56)), (q46, .inl (g.2 0, 60, .inl f56)), (q69, .inl (g.2 0, 10, .inl f70)), (q63, .inl (g.2 0, 10, .inl f70)), (q68, .inl (g.2 0, 10, .inl f56)), (q62, .inl (g.2 0, 10, .inl f56)), (q34, .inr (9, [.ref q68, .ref q69, w66, w67])), (q45, .inr (9, [.ref q62, .ref q63, .int 1, .int 0])), (q55, .inl (g.2 0, 40, .inl f57)), (q51, .inl (g.2 0, 40, .inl f57)), (q54, .inl (g.2 0, 384, .inl f56)), (q50, .inl (g.2 0, 384, .inl f56)), (q33, .inr (5, [.ref q54, .ref q55])), (q44, .inr (5, [.ref q50, .ref q51])), (q25, .inr (8, [.ref q44, .ref q45, .ref q46, .ref q47, .int 0, .int 4, .int 0])), (q23, .inr (8, [.ref q33, .ref q34, .ref q35, .ref q36, w30, w31, w32])), (q20, .inl (g.2 3, 10, .inr (.inr (.inr (.inr f21))))), (q16, .inr (10, [.ref q20, .int 0, .int 0])), (q1, .inr (11, [.ref q16, w6, w7, w8, w9, w10, w11, w12, w13, w14, w15]))] sz) := by
  refine ofN (by decide) (Nat.le_of_ble_eq_true rfl) rfl ?_
  intro p e s m args below meth c A ls hAe hsz hx hb hml hr hlocks hin hown hE hP hD hA hS hl
  have hown : s.vm.findClass RX9 = some m.cls := hown
  refine lv_iload_n hx hb dX9_addCall_0 rfl (lv_at hl 1 rfl) ?_
  refine g0_v (rS (rest := []) hx hb hml hown hE hP hD (c89_X9_requirePattern l g 3 (by decide) (by decide) s.heap.size) (kS_X9_requirePattern hE (e617 hE) rfl rfl ⟨(Nat.le_of_ble_eq_true rfl), (Nat.le_of_ble_eq_true rfl)⟩) [] rfl (by decide) rfl hl.1 rfl (lv_room (Nat.le_of_ble_eq_true rfl)) dX9_addCall_1 ⟨(Nat.le_of_ble_eq_true rfl), (Nat.le_of_ble_eq_true rfl)⟩) hP hD hS hA (fun u9 H locs hP hS => ?_)
  refine lv_iload_n hx hb dX9_addCall_4 rfl (lv_at hl 2 rfl) ?_
  refine lv_iconst (v := 0) hx hb dX9_addCall_5 (by decide) ?_
  refine lv_iload_n hx hb dX9_addCall_6 rfl (lv_at hl 1 rfl) ?_
  refine lv_iconst (v := 1) hx hb dX9_addCall_7 (by decide) ?_
  refine x_isub (v := 2) hx hb dX9_addCall_8 (by decide) ?_
  refine g0_v (rS (rest := []) hx hb hml hown hE hP hD (c752_X9_requireRange l g 1 (by decide) (by decide) H.size) (kS_X9_requireRange hE (e636 hE) rfl rfl ⟨(Nat.le_of_ble_eq_true rfl), (Nat.le_of_ble_eq_true rfl)⟩) [] rfl (by decide) rfl hl.1 rfl (lv_room (Nat.le_of_ble_eq_true rfl)) dX9_addCall_9 ⟨(Nat.le_of_ble_eq_true rfl), (Nat.le_of_ble_eq_true rfl)⟩) hP hD hS hA (fun u9 H locs hP hS => ?_)
  refine lv_iload_n hx hb dX9_addCall_12 rfl (lv_at hl 3 rfl) ?_
  refine lv_iconst (v := 1) hx hb dX9_addCall_13 (by decide) ?_
  refine lv_bipush (v := 9) hx hb dX9_addCall_14 (by decide) ?_
  refine g0_v (rS (rest := []) hx hb hml hown hE hP hD (c117_X9_requireRange l g x2 h3 h4 H.size) (kS_X9_requireRange hE (e636 hE) rfl rfl ⟨(Nat.le_of_ble_eq_true rfl), (Nat.le_of_ble_eq_true rfl)⟩) [] rfl (by decide) rfl hl.1 rfl (lv_room (Nat.le_of_ble_eq_true rfl)) dX9_addCall_16 ⟨(Nat.le_of_ble_eq_true rfl), (Nat.le_of_ble_eq_true rfl)⟩) hP hD hS hA (fun u9 H locs hP hS => ?_)
  refine lv_aload_n hx hb dX9_addCall_19 rfl (lv_at hl 0 rfl) ?_
  refine lv_iload_n hx hb dX9_addCall_20 rfl (lv_at hl 1 rfl) ?_
  refine lv_iconst (v := 2) hx hb dX9_addCall_21 (by decide) ?_
  refine lv_iload_n hx hb dX9_addCall_22 rfl (lv_at hl 2 rfl) ?_
  refine lv_iload_n hx hb dX9_addCall_23 rfl (lv_at hl 3 rfl) ?_
  refine lv_iconst (v := (-1)) hx hb dX9_addCall_24 (by decide) ?_
  refine g_i (wr := []) (rV (rest := []) hx hb hml hown hE hP hD 20 rfl rfl (c788_X9_addOneItem l g q1 q16 q20 q23 q25 q33 q34 q35 q36 q44 q45 q46 q47 q50 q51 q54 q55 q62 q63 q68 q69 x2 w6 w7 w8 w9 w10 w11 w12 w13 w14 w15 w30 w31 w32 w66 w67 f21 f56 f57 f70 f71 (hf22) (hf24) (hf72) (hf73) (hf74) (hf75) (hf76) (hf77) (hf78) (hf79) (hf80) (hf81) (hf82) (hf83) (hf84) (hf85) (hf86) (hf87) (hf88) (hf89) (hf90) (hf91) (hf92) (hf93) (hf94) (hf95) (hf96) (hf97) (hf98) (hf99) (hf100) (hf101) (hf102) H.size) (kV_X9_addOneItem hE (e655 hE) rfl rfl ⟨(Nat.le_of_ble_eq_true rfl), (Nat.le_of_ble_eq_true rfl)⟩) [0, 1, 2, 3, 4, 5, 6, 7, 8, 9, 10, 11, 12, 13, 14, 15, 16, 17, 18, 19, 20] rfl (by decide) rfl hl.1 rfl (lv_room (Nat.le_of_ble_eq_true rfl)) dX9_addCall_25 ⟨(Nat.le_of_ble_eq_true rfl), (Nat.le_of_ble_eq_true rfl)⟩) hP hD hS hA [0, 1, 2, 3, 4, 5, 6, 7, 8, 9, 10, 11, 12, 13, 14, 15, 16, 17, 18, 19, 20] [] rfl rfl (by decide) (by decide) (fun u4 H locs hP hD hS => ?_)
  have hP : va_P g.1 vwCl [(q20, .inl (g.2 3, 10, .inr (.inr (.inr (.inr f21))))), (q25, .inr (8, [.ref q44, .ref q45, .ref q46, .ref q47, .int 0, .int 4, .int 0])), (q44, .inr (5, [.ref q50, .ref q51])), (q50, .inl (g.2 0, 384, .inl f56)), (q51, .inl (g.2 0, 40, .inl f57)), (q34, .inr (9, [.ref q68, .ref q69, .int 1, .int 0])), (q45, .inr (9, [.ref q62, .ref q63, .int 1, .int 0])), (q68, .inl (g.2 0, 10, .inl f56)), (q62, .inl (g.2 0, 10, .inl f56)), (q69, .inl (g.2 0, 10, .inl f70)), (q63, .inl (g.2 0, 10, .inl f70)), (q35, .inl (g.2 0, 60, .inl f56)), (q46, .inl (g.2 0, 60, .inl f56)), (q36, .inl (g.2 0, 20, .inl f71)), (q47, .inl (g.2 0, 20, .inl f71)), (q54, .inl (g.2 0, 384, .inl (upd (upd (upd (upd f56 144 2) 145 1) 146 x2) 147 (-1)))), (q23, .inr (8, [.ref q33, .ref q34, .ref q35, .ref q36, .int 0, .int 4, .int 0])), (q16, .inr (10, [.ref q20, .int 1, .int 1])), (q1, .inr (11, [.ref q16, w6, w7, w8, w9, w10, w11, w12, .int 0, .int 0, w15])), (q55, .inl (g.2 0, 40, .inl (upd (upd (upd (upd (upd (upd (upd (upd (upd (upd (upd f57 15 1) 1 0) 4 1) 9 1) 14 1) 18 2) 19 2) 24 1) 29 1) 34 1) 39 1))), (q33, .inr (5, [.ref q54, .ref q55]))] H := hP
  have hD : va_D A [(q20, .inl (g.2 3, 10, .inr (.inr (.inr (.inr f21))))), (q25, .inr (8, [.ref q44, .ref q45, .ref q46, .ref q47, .int 0, .int 4, .int 0])), (q44, .inr (5, [.ref q50, .ref q51])), (q50, .inl (g.2 0, 384, .inl f56)), (q51, .inl (g.2 0, 40, .inl f57)), (q34, .inr (9, [.ref q68, .ref q69, .int 1, .int 0])), (q45, .inr (9, [.ref q62, .ref q63, .int 1, .int 0])), (q68, .inl (g.2 0, 10, .inl f56)), (q62, .inl (g.2 0, 10, .inl f56)), (q69, .inl (g.2 0, 10, .inl f70)), (q63, .inl (g.2 0, 10, .inl f70)), (q35, .inl (g.2 0, 60, .inl f56)), (q46, .inl (g.2 0, 60, .inl f56)), (q36, .inl (g.2 0, 20, .inl f71)), (q47, .inl (g.2 0, 20, .inl f71)), (q54, .inl (g.2 0, 384, .inl (upd (upd (upd (upd f56 144 2) 145 1) 146 x2) 147 (-1)))), (q23, .inr (8, [.ref q33, .ref q34, .ref q35, .ref q36, .int 0, .int 4, .int 0])), (q16, .inr (10, [.ref q20, .int 1, .int 1])), (q1, .inr (11, [.ref q16, w6, w7, w8, w9, w10, w11, w12, .int 0, .int 0, w15])), (q55, .inl (g.2 0, 40, .inl (upd (upd (upd (upd (upd (upd (upd (upd (upd (upd (upd f57 15 1) 1 0) 4 1) 9 1) 14 1) 18 2) 19 2) 24 1) 29 1) 34 1) 39 1))), (q33, .inr (5, [.ref q54, .ref q55]))] := hD
  exact x_zret hx hb hr rfl rfl hlocks hP hD hS hAe hsz (Nat.le_of_ble_eq_true rfl) (Nat.le_of_ble_eq_true rfl) (fun _ => 0) [0, 1, 2, 3, 4, 5, 6, 7, 8, 9, 10, 11, 12, 13, 14, 15, 16, 17, 18, 19, 20] (by decide) rfl dX9_addCall_28

set_option maxHeartbeats 4000000 in
set_option maxRecDepth 100000 in
theorem c790_L_addCall (l : Launch) (g : gG) (hlx : l.stackTraces = false) (q1 q3 q17 q21 q24 q26 q34 q35 q36 q37 q45 q46 q47 q48 q51 q52 q55 q56 q63 q64 q69 q70 : Nat) (x2 : Int32) (w7 w8 w9 w10 w11 w12 w13 w14 w15 w16 w31 w32 w33 w67 w68 : Value) (f22 : Nat → Option Nat) (f57 : Nat → Int32) (f58 : Nat → Int32) (f71 : Nat → Int32) (f72 : Nat → Int32) (f104 : Nat → Int64) (hf23 : f22 1 = some q24) (hf25 : f22 0 = some q26) (hf73 : f58 15 = 0) (hf74 : f58 0 = 0) (hf75 : f58 2 = 0) (hf76 : f58 3 = 0) (hf77 : f58 5 = 0) (hf78 : f58 6 = 0) (hf79 : f58 7 = 0) (hf80 : f58 8 = 0) (hf81 : f58 10 = 0) (hf82 : f58 11 = 0) (hf83 : f58 12 = 0) (hf84 : f58 13 = 0) (hf85 : f58 18 = 0) (hf86 : f58 20 = 0) (hf87 : f58 21 = 0) (hf88 : f58 22 = 0) (hf89 : f58 23 = 0) (hf90 : f58 25 = 0) (hf91 : f58 26 = 0) (hf92 : f58 27 = 0) (hf93 : f58 28 = 0) (hf94 : f58 30 = 0) (hf95 : f58 31 = 0) (hf96 : f58 32 = 0) (hf97 : f58 33 = 0) (hf98 : f58 35 = 0) (hf99 : f58 36 = 0) (hf100 : f58 37 = 0) (hf101 : f58 38 = 0) (hf102 : f58 17 = 0) (hf103 : f58 16 = 0) (h4 : (1 : Int32) ≤ x2) (h5 : x2 ≤ 9) (sz : Nat) : Met l yL_addCall [Cond.codeWith yL_addCall cL_addCall 6 (some .int) [(0, 12, 15, 13), (0, 12, 19, 15), (0, 12, 23, 17)]] ({ frames := 7, cells := 0, slots := 0, locals := 197 } : Room) (va_Pc [.ref q1, .int 3, .int 1, .int x2, .ref q3] (PZ g sz [(q3, .inl (g.2 1, 1, .inr (.inl f104))), (q37, .inl (g.2 0, 20, .inl f72)), (q48, .inl (g.2 0, 20, .inl f72)), (q36, .inl (g.2 0, 60, .inl f57)), (q47, .inl (g.2 0, 60, .inl f57)), (q70, .inl (g.2 0, 10, .inl f71)), (q64, .inl (g.2 0, 10, .inl f71)), (q69, .inl (g.2 0, 10, .inl f57)), (q63, .inl (g.2 0, 10, .inl f57)), (q35, .inr (9, [.ref q69, .ref q70, w67, w68])), (q46, .inr (9, [.ref q63, .ref q64, .int 1, .int 0])), (q56, .inl (g.2 0, 40, .inl f58)), (q52, .inl (g.2 0, 40, .inl f58)), (q55, .inl (g.2 0, 384, .inl f57)), (q51, .inl (g.2 0, 384, .inl f57)), (q34, .inr (5, [.ref q55, .ref q56])), (q45, .inr (5, [.ref q51, .ref q52])), (q26, .inr (8, [.ref q45, .ref q46, .ref q47, .ref q48, .int 0, .int 4, .int 0])), (q24, .inr (8, [.ref q34, .ref q35, .ref q36, .ref q37, w31, w32, w33])), (q21, .inl (g.2 3, 10, .inr (.inr (.inr (.inr f22))))), (q17, .inr (10, [.ref q21, .int 0, .int 0])), (q1, .inr (11, [.ref q17, w7, w8, w9, w10, w11, w12, w13, w14, w15, w16]))])) (QI g [(q3, .inl (g.2 1, 1, .inr (.inl f104))), (q37, .inl (g.2 0, 20, .inl f72)), (q48, .inl (g.2 0, 20, .inl f72)), (q36, .inl (g.2 0, 60, .inl f57)), (q47, .inl (g.2 0, 60, .inl f57)), (q70, .inl (g.2 0, 10, .inl f71)), (q64, .inl (g.2 0, 10, .inl f71)), (q69, .inl (g.2 0, 10, .inl f57)), (q63, .inl (g.2 0, 10, .inl f57)), (q35, .inr (9, [.ref q69, .ref q70, w67, w68])), (q46, .inr (9, [.ref q63, .ref q64, .int 1, .int 0])), (q56, .inl (g.2 0, 40, .inl f58)), (q52, .inl (g.2 0, 40, .inl f58)), (q55, .inl (g.2 0, 384, .inl f57)), (q51, .inl (g.2 0, 384, .inl f57)), (q34, .inr (5, [.ref q55, .ref q56])), (q45, .inr (5, [.ref q51, .ref q52])), (q26, .inr (8, [.ref q45, .ref q46, .ref q47, .ref q48, .int 0, .int 4, .int 0])), (q24, .inr (8, [.ref q34, .ref q35, .ref q36, .ref q37, w31, w32, w33])), (q21, .inl (g.2 3, 10, .inr (.inr (.inr (.inr f22))))), (q17, .inr (10, [.ref q21, .int 0, .int 0])), (q1, .inr (11, [.ref q17, w7, w8, w9, w10, w11, w12, w13, w14, w15, w16]))] sz 0 (fun _ => [(q3, .inl (g.2 1, 1, .inr (.inl (vp_updL f104 0 1))))])) 0 0 (va_A [(q3, .inl (g.2 1, 1, .inr (.inl f104))), (q37, .inl (g.2 0, 20, .inl f72)), (q48, .inl (g.2 0, 20, .inl f72)), (q36, .inl (g.2 0, 60, .inl f57)), (q47, .inl (g.2 0, 60, .inl f57)), (q70, .inl (g.2 0, 10, .inl f71)), (q64, .inl (g.2 0, 10, .inl f71)), (q69, .inl (g.2 0, 10, .inl f57)), (q63, .inl (g.2 0, 10, .inl f57)), (q35, .inr (9, [.ref q69, .ref q70, w67, w68])), (q46, .inr (9, [.ref q63, .ref q64, .int 1, .int 0])), (q56, .inl (g.2 0, 40, .inl f58)), (q52, .inl (g.2 0, 40, .inl f58)), (q55, .inl (g.2 0, 384, .inl f57)), (q51, .inl (g.2 0, 384, .inl f57)), (q34, .inr (5, [.ref q55, .ref q56])), (q45, .inr (5, [.ref q51, .ref q52])), (q26, .inr (8, [.ref q45, .ref q46, .ref q47, .ref q48, .int 0, .int 4, .int 0])), (q24, .inr (8, [.ref q34, .ref q35, .ref q36, .ref q37, w31, w32, w33])), (q21, .inl (g.2 3, 10, .inr (.inr (.inr (.inr f22))))), (q17, .inr (10, [.ref q21, .int 0, .int 0])), (q1, .inr (11, [.ref q17, w7, w8, w9, w10, w11, w12, w13, w14, w15, w16]))] sz) := by
  refine ofH (by decide) (Nat.le_of_ble_eq_true rfl) rfl ?_
  intro p e s m args below meth c A ls hAe hsz hx hb hml hr hlocks hin hown hE hP hD hA hS hl htb hz
  have hown : s.vm.findClass RL = some m.cls := hown
  refine lv_aload hx hb dL_addCall_0 (lv_at hl 4 rfl) ?_
  refine lv_iconst (v := 0) hx hb dL_addCall_2 (by decide) ?_
  refine lv_aload_n hx hb dL_addCall_3 rfl (lv_at hl 0 rfl) ?_
  refine lv_iload_n hx hb dL_addCall_4 rfl (lv_at hl 1 rfl) ?_
  refine lv_iload_n hx hb dL_addCall_5 rfl (lv_at hl 2 rfl) ?_
  refine lv_iload_n hx hb dL_addCall_6 rfl (lv_at hl 3 rfl) ?_
  refine g_i (wr := [(q3, .inl (g.2 1, 1, .inr (.inl f104)))]) (rV (rest := [.int 0, .ref q3]) hx hb hml hown hE hP hD 21 rfl rfl (c789_X9_addCall l g q1 q17 q21 q24 q26 q34 q35 q36 q37 q45 q46 q47 q48 q51 q52 q55 q56 q63 q64 q69 q70 x2 w7 w8 w9 w10 w11 w12 w13 w14 w15 w16 w31 w32 w33 w67 w68 f22 f57 f58 f71 f72 (hf23) (hf25) (hf73) (hf74) (hf75) (hf76) (hf77) (hf78) (hf79) (hf80) (hf81) (hf82) (hf83) (hf84) (hf85) (hf86) (hf87) (hf88) (hf89) (hf90) (hf91) (hf92) (hf93) (hf94) (hf95) (hf96) (hf97) (hf98) (hf99) (hf100) (hf101) (hf102) (hf103) h4 h5 s.heap.size) (kV_X9_addCall hE (e737 hE) rfl rfl ⟨(Nat.le_of_ble_eq_true rfl), (Nat.le_of_ble_eq_true rfl)⟩) [1, 2, 3, 4, 5, 6, 7, 8, 9, 10, 11, 12, 13, 14, 15, 16, 17, 18, 19, 20, 21] rfl (by decide) rfl hl.1 rfl (lv_room (Nat.le_of_ble_eq_true rfl)) dL_addCall_7 ⟨(Nat.le_of_ble_eq_true rfl), (Nat.le_of_ble_eq_true rfl)⟩) hP hD hS hA [1, 2, 3, 4, 5, 6, 7, 8, 9, 10, 11, 12, 13, 14, 15, 16, 17, 18, 19, 20, 21] [0] rfl rfl (by decide) (by decide) (fun u1 H locs hP hD hS => ?_)
  have hP : va_P g.1 vwCl [(q3, .inl (g.2 1, 1, .inr (.inl f104))), (q21, .inl (g.2 3, 10, .inr (.inr (.inr (.inr f22))))), (q26, .inr (8, [.ref q45, .ref q46, .ref q47, .ref q48, .int 0, .int 4, .int 0])), (q45, .inr (5, [.ref q51, .ref q52])), (q51, .inl (g.2 0, 384, .inl f57)), (q52, .inl (g.2 0, 40, .inl f58)), (q35, .inr (9, [.ref q69, .ref q70, .int 1, .int 0])), (q46, .inr (9, [.ref q63, .ref q64, .int 1, .int 0])), (q69, .inl (g.2 0, 10, .inl f57)), (q63, .inl (g.2 0, 10, .inl f57)), (q70, .inl (g.2 0, 10, .inl f71)), (q64, .inl (g.2 0, 10, .inl f71)), (q36, .inl (g.2 0, 60, .inl f57)), (q47, .inl (g.2 0, 60, .inl f57)), (q37, .inl (g.2 0, 20, .inl f72)), (q48, .inl (g.2 0, 20, .inl f72)), (q55, .inl (g.2 0, 384, .inl (upd (upd (upd (upd f57 144 2) 145 1) 146 x2) 147 (-1)))), (q24, .inr (8, [.ref q34, .ref q35, .ref q36, .ref q37, .int 0, .int 4, .int 0])), (q17, .inr (10, [.ref q21, .int 1, .int 1])), (q1, .inr (11, [.ref q17, w7, w8, w9, w10, w11, w12, w13, .int 0, .int 0, w16])), (q56, .inl (g.2 0, 40, .inl (upd (upd (upd (upd (upd (upd (upd (upd (upd (upd (upd f58 15 1) 1 0) 4 1) 9 1) 14 1) 18 2) 19 2) 24 1) 29 1) 34 1) 39 1))), (q34, .inr (5, [.ref q55, .ref q56]))] H := hP
  have hD : va_D A [(q3, .inl (g.2 1, 1, .inr (.inl f104))), (q21, .inl (g.2 3, 10, .inr (.inr (.inr (.inr f22))))), (q26, .inr (8, [.ref q45, .ref q46, .ref q47, .ref q48, .int 0, .int 4, .int 0])), (q45, .inr (5, [.ref q51, .ref q52])), (q51, .inl (g.2 0, 384, .inl f57)), (q52, .inl (g.2 0, 40, .inl f58)), (q35, .inr (9, [.ref q69, .ref q70, .int 1, .int 0])), (q46, .inr (9, [.ref q63, .ref q64, .int 1, .int 0])), (q69, .inl (g.2 0, 10, .inl f57)), (q63, .inl (g.2 0, 10, .inl f57)), (q70, .inl (g.2 0, 10, .inl f71)), (q64, .inl (g.2 0, 10, .inl f71)), (q36, .inl (g.2 0, 60, .inl f57)), (q47, .inl (g.2 0, 60, .inl f57)), (q37, .inl (g.2 0, 20, .inl f72)), (q48, .inl (g.2 0, 20, .inl f72)), (q55, .inl (g.2 0, 384, .inl (upd (upd (upd (upd f57 144 2) 145 1) 146 x2) 147 (-1)))), (q24, .inr (8, [.ref q34, .ref q35, .ref q36, .ref q37, .int 0, .int 4, .int 0])), (q17, .inr (10, [.ref q21, .int 1, .int 1])), (q1, .inr (11, [.ref q17, w7, w8, w9, w10, w11, w12, w13, .int 0, .int 0, w16])), (q56, .inl (g.2 0, 40, .inl (upd (upd (upd (upd (upd (upd (upd (upd (upd (upd (upd f58 15 1) 1 0) 4 1) 9 1) 14 1) 18 2) 19 2) 24 1) 29 1) 34 1) 39 1))), (q34, .inr (5, [.ref q55, .ref q56]))] := hD
  refine lv_i2l (v := 1) hx hb dL_addCall_10 (by decide) ?_
  refine x_last (ws' := [(q3, .inl (g.2 1, 1, .inr (.inl (vp_updL f104 0 1)))), (q21, .inl (g.2 3, 10, .inr (.inr (.inr (.inr f22))))), (q26, .inr (8, [.ref q45, .ref q46, .ref q47, .ref q48, .int 0, .int 4, .int 0])), (q45, .inr (5, [.ref q51, .ref q52])), (q51, .inl (g.2 0, 384, .inl f57)), (q52, .inl (g.2 0, 40, .inl f58)), (q35, .inr (9, [.ref q69, .ref q70, .int 1, .int 0])), (q46, .inr (9, [.ref q63, .ref q64, .int 1, .int 0])), (q69, .inl (g.2 0, 10, .inl f57)), (q63, .inl (g.2 0, 10, .inl f57)), (q70, .inl (g.2 0, 10, .inl f71)), (q64, .inl (g.2 0, 10, .inl f71)), (q36, .inl (g.2 0, 60, .inl f57)), (q47, .inl (g.2 0, 60, .inl f57)), (q37, .inl (g.2 0, 20, .inl f72)), (q48, .inl (g.2 0, 20, .inl f72)), (q55, .inl (g.2 0, 384, .inl (upd (upd (upd (upd f57 144 2) 145 1) 146 x2) 147 (-1)))), (q24, .inr (8, [.ref q34, .ref q35, .ref q36, .ref q37, .int 0, .int 4, .int 0])), (q17, .inr (10, [.ref q21, .int 1, .int 1])), (q1, .inr (11, [.ref q17, w7, w8, w9, w10, w11, w12, w13, .int 0, .int 0, w16])), (q56, .inl (g.2 0, 40, .inl (upd (upd (upd (upd (upd (upd (upd (upd (upd (upd (upd f58 15 1) 1 0) 4 1) 9 1) 14 1) 18 2) 19 2) 24 1) 29 1) 34 1) 39 1))), (q34, .inr (5, [.ref q55, .ref q56]))]) hx hb hE hP hD hS 0 rfl 0 (x_in (by decide)) (by decide) dL_addCall_11 rfl (fun H locs hP hD hS => ?_)
  refine lv_goto (tgt := 27) hx hb dL_addCall_12 (by decide) ?_
  refine lv_iconst (v := 0) hx hb dL_addCall_27 (by decide) ?_
  exact x_zret hx hb hr rfl rfl hlocks hP hD hS hAe hsz (Nat.le_of_ble_eq_true rfl) (Nat.le_of_ble_eq_true rfl) (fun _ => 0) [0] (by decide) rfl dL_addCall_28

set_option maxHeartbeats 4000000 in
set_option maxRecDepth 100000 in
theorem c791_X3_lengthOf (l : Launch) (g : gG) (q1 q4 q10 : Nat) (x7 : Int32) (f5 : Nat → Int32) (f11 : Nat → Int32) (hf6 : f5 146 = x7) (hf8 : f5 144 = 2) (hf9 : f5 145 = 2) (hf12 : f11 11 = 0) (sz : Nat) : Met l yX3_lengthOf [Cond.code yX3_lengthOf cX3_lengthOf 4 (some .int)] ({ frames := 1, cells := 0, slots := 0, locals := 24 } : Room) (va_Pc [.ref q1, .int 3, .int 0] (PX g sz [(q10, .inl (g.2 0, 40, .inl f11)), (q4, .inl (g.2 0, 384, .inl f5)), (q1, .inr (5, [.ref q4, .ref q10]))])) (QI g [(q10, .inl (g.2 0, 40, .inl f11)), (q4, .inl (g.2 0, 384, .inl f5)), (q1, .inr (5, [.ref q4, .ref q10]))] sz 0 (fun _ => [(q4, .inl (g.2 0, 384, .inl f5)), (q10, .inl (g.2 0, 40, .inl f11)), (q1, .inr (5, [.ref q4, .ref q10]))])) 0 0 (va_A [(q10, .inl (g.2 0, 40, .inl f11)), (q4, .inl (g.2 0, 384, .inl f5)), (q1, .inr (5, [.ref q4, .ref q10]))] sz) := by
  refine ofN (by decide) (Nat.le_of_ble_eq_true rfl) rfl ?_
  intro p e s m args below meth c A ls hAe hsz hx hb hml hr hlocks hin hown hE hP hD hA hS hl
  have hown : s.vm.findClass RX3 = some m.cls := hown
  refine lv_aload_n hx hb dX3_lengthOf_0 rfl (lv_at hl 0 rfl) ?_
  refine lv_iload_n hx hb dX3_lengthOf_1 rfl (lv_at hl 1 rfl) ?_
  refine lv_iload_n hx hb dX3_lengthOf_2 rfl (lv_at hl 2 rfl) ?_
  refine lv_iconst (v := 2) hx hb dX3_lengthOf_3 (by decide) ?_
  refine g_i (wr := [(q10, .inl (g.2 0, 40, .inl f11))]) (rV (rest := []) hx hb hml hown hE hP hD 2 rfl rfl (c294_X3_itemNumber l g q1 q4 x7 (.ref q10) f5 (hf6) s.heap.size) (kV_X3_itemNumber hE (e348 hE) rfl rfl ⟨(Nat.le_of_ble_eq_true rfl), (Nat.le_of_ble_eq_true rfl)⟩) [1, 2] rfl (by decide) rfl hl.1 rfl (lv_room (Nat.le_of_ble_eq_true rfl)) dX3_lengthOf_4 ⟨(Nat.le_of_ble_eq_true rfl), (Nat.le_of_ble_eq_true rfl)⟩) hP hD hS hA [1, 2] [0] rfl rfl (by decide) (by decide) (fun u1 H locs hP hD hS => ?_)
  have hP : va_P g.1 vwCl [(q10, .inl (g.2 0, 40, .inl f11)), (q4, .inl (g.2 0, 384, .inl f5)), (q1, .inr (5, [.ref q4, .ref q10]))] H := hP
  have hD : va_D A [(q10, .inl (g.2 0, 40, .inl f11)), (q4, .inl (g.2 0, 384, .inl f5)), (q1, .inr (5, [.ref q4, .ref q10]))] := hD
  refine lv_istore_n (lv' := [(3, .int x7), (0, .ref q1), (1, .int 3), (2, .int 0)]) hx hb dX3_lengthOf_7 rfl hl (by decide) rfl (fun ls hl => ?_)
  refine lv_aload_n hx hb dX3_lengthOf_8 rfl (lv_at hl 1 rfl) ?_
  refine lv_iload_n hx hb dX3_lengthOf_9 rfl (lv_at hl 2 rfl) ?_
  refine lv_iload_n hx hb dX3_lengthOf_10 rfl (lv_at hl 3 rfl) ?_
  refine lv_iconst (v := 0) hx hb dX3_lengthOf_11 (by decide) ?_
  refine g_i (wr := [(q10, .inl (g.2 0, 40, .inl f11))]) (rV (rest := []) hx hb hml hown hE hP hD 2 rfl rfl (c762_X3_itemNumber l g q1 q4 (.ref q10) f5 (hf8) H.size) (kV_X3_itemNumber hE (e348 hE) rfl rfl ⟨(Nat.le_of_ble_eq_true rfl), (Nat.le_of_ble_eq_true rfl)⟩) [1, 2] rfl (by decide) rfl hl.1 rfl (lv_room (Nat.le_of_ble_eq_true rfl)) dX3_lengthOf_12 ⟨(Nat.le_of_ble_eq_true rfl), (Nat.le_of_ble_eq_true rfl)⟩) hP hD hS hA [1, 2] [0] rfl rfl (by decide) (by decide) (fun u2 H locs hP hD hS => ?_)
  have hP : va_P g.1 vwCl [(q10, .inl (g.2 0, 40, .inl f11)), (q4, .inl (g.2 0, 384, .inl f5)), (q1, .inr (5, [.ref q4, .ref q10]))] H := hP
  have hD : va_D A [(q10, .inl (g.2 0, 40, .inl f11)), (q4, .inl (g.2 0, 384, .inl f5)), (q1, .inr (5, [.ref q4, .ref q10]))] := hD
  refine lv_iconst (v := 2) hx hb dX3_lengthOf_15 (by decide) ?_
  refine lv_icmp_ne (tgt := 34) hx hb dX3_lengthOf_16 (by decide) (fun h => absurd h (by decide)) (fun _ => ?_)
  refine lv_iload_n hx hb dX3_lengthOf_19 rfl (lv_at hl 0 rfl) ?_
  refine lv_aload_n hx hb dX3_lengthOf_20 rfl (lv_at hl 1 rfl) ?_
  refine lv_aload_n hx hb dX3_lengthOf_21 rfl (lv_at hl 1 rfl) ?_
  refine lv_iload_n hx hb dX3_lengthOf_22 rfl (lv_at hl 2 rfl) ?_
  refine lv_iload_n hx hb dX3_lengthOf_23 rfl (lv_at hl 3 rfl) ?_
  refine lv_iconst (v := 1) hx hb dX3_lengthOf_24 (by decide) ?_
  refine g_i (wr := [(q10, .inl (g.2 0, 40, .inl f11))]) (rV (rest := [.ref q1, .int x7]) hx hb hml hown hE hP hD 2 rfl rfl (c763_X3_itemNumber l g q1 q4 2 (.ref q10) f5 (hf9) H.size) (kV_X3_itemNumber hE (e348 hE) rfl rfl ⟨(Nat.le_of_ble_eq_true rfl), (Nat.le_of_ble_eq_true rfl)⟩) [1, 2] rfl (by decide) rfl hl.1 rfl (lv_room (Nat.le_of_ble_eq_true rfl)) dX3_lengthOf_25 ⟨(Nat.le_of_ble_eq_true rfl), (Nat.le_of_ble_eq_true rfl)⟩) hP hD hS hA [1, 2] [0] rfl rfl (by decide) (by decide) (fun u3 H locs hP hD hS => ?_)
  have hP : va_P g.1 vwCl [(q10, .inl (g.2 0, 40, .inl f11)), (q4, .inl (g.2 0, 384, .inl f5)), (q1, .inr (5, [.ref q4, .ref q10]))] H := hP
  have hD : va_D A [(q10, .inl (g.2 0, 40, .inl f11)), (q4, .inl (g.2 0, 384, .inl f5)), (q1, .inr (5, [.ref q4, .ref q10]))] := hD
  refine lv_iconst (v := 1) hx hb dX3_lengthOf_28 (by decide) ?_
  refine g_i (wr := [(q4, .inl (g.2 0, 384, .inl f5))]) (rV (rest := [.int x7]) hx hb hml hown hE hP hD 2 rfl rfl (c157_X3_figure l g q1 q10 (.ref q4) f11 (hf12) H.size) (kV_X3_figure hE (e343 hE) rfl rfl ⟨(Nat.le_of_ble_eq_true rfl), (Nat.le_of_ble_eq_true rfl)⟩) [0, 2] rfl (by decide) rfl hl.1 rfl (lv_room (Nat.le_of_ble_eq_true rfl)) dX3_lengthOf_29 ⟨(Nat.le_of_ble_eq_true rfl), (Nat.le_of_ble_eq_true rfl)⟩) hP hD hS hA [0, 2] [1] rfl rfl (by decide) (by decide) (fun u4 H locs hP hD hS => ?_)
  have hP : va_P g.1 vwCl [(q4, .inl (g.2 0, 384, .inl f5)), (q10, .inl (g.2 0, 40, .inl f11)), (q1, .inr (5, [.ref q4, .ref q10]))] H := hP
  have hD : va_D A [(q4, .inl (g.2 0, 384, .inl f5)), (q10, .inl (g.2 0, 40, .inl f11)), (q1, .inr (5, [.ref q4, .ref q10]))] := hD
  refine x_imul (v := 0) hx hb dX3_lengthOf_32 (Int32.mul_zero) ?_
  exact x_zret hx hb hr rfl rfl hlocks hP hD hS hAe hsz (Nat.le_of_ble_eq_true rfl) (Nat.le_of_ble_eq_true rfl) (fun _ => 0) [0, 1, 2] (by decide) rfl dX3_lengthOf_33

set_option maxHeartbeats 4000000 in
set_option maxRecDepth 100000 in
theorem c792_X3_figure (l : Launch) (g : gG) (q1 q4 : Nat) (w2 : Value) (f5 : Nat → Int32) (hf6 : f5 12 = 0) (sz : Nat) : Met l yX3_figure [Cond.code yX3_figure cX3_figure 4 (some .int)] ({ frames := 0, cells := 0, slots := 0, locals := 0 } : Room) (va_Pc [.ref q1, .int 2, .int 2] (PX g sz [(q4, .inl (g.2 0, 40, .inl f5)), (q1, .inr (5, [w2, .ref q4]))])) (QI g [(q4, .inl (g.2 0, 40, .inl f5)), (q1, .inr (5, [w2, .ref q4]))] sz 0 (fun _ => [(q4, .inl (g.2 0, 40, .inl f5)), (q1, .inr (5, [w2, .ref q4]))])) 0 0 (va_A [(q4, .inl (g.2 0, 40, .inl f5)), (q1, .inr (5, [w2, .ref q4]))] sz) := by
  refine ofN (by decide) (Nat.le_of_ble_eq_true rfl) rfl ?_
  intro p e s m args below meth c A ls hAe hsz hx hb hml hr hlocks hin hown hE hP hD hA hS hl
  have hown : s.vm.findClass RX3 = some m.cls := hown
  refine lv_iload_n hx hb dX3_figure_0 rfl (lv_at hl 1 rfl) ?_
  refine lv_iconst (v := 5) hx hb dX3_figure_1 (by decide) ?_
  refine x_imul (v := 10) hx hb dX3_figure_2 (by decide) ?_
  refine lv_iload_n hx hb dX3_figure_3 rfl (lv_at hl 2 rfl) ?_
  refine x_iadd (v := 12) hx hb dX3_figure_4 (by decide) ?_
  refine lv_istore_n (lv' := [(3, .int 12), (0, .ref q1), (1, .int 2), (2, .int 2)]) hx hb dX3_figure_5 rfl hl (by decide) rfl (fun ls hl => ?_)
  refine lv_iload_n hx hb dX3_figure_6 rfl (lv_at hl 0 rfl) ?_
  refine lv_if_lt (tgt := 28) hx hb dX3_figure_7 (by decide) (fun h => absurd h (by decide)) (fun _ => ?_)
  refine lv_iload_n hx hb dX3_figure_10 rfl (lv_at hl 0 rfl) ?_
  refine lv_aload_n hx hb dX3_figure_11 rfl (lv_at hl 1 rfl) ?_
  refine gf_RX3_15 hx hb hown hE hP 1 rfl rfl dX3_figure_12 ?_
  refine x_aleni (v := 40) hx hb hE hP 0 rfl rfl dX3_figure_15 ?_
  refine lv_icmp_ge (tgt := 28) hx hb dX3_figure_16 (by decide) (fun h => absurd h (by decide)) (fun _ => ?_)
  refine lv_aload_n hx hb dX3_figure_19 rfl (lv_at hl 1 rfl) ?_
  refine gf_RX3_15 hx hb hown hE hP 1 rfl rfl dX3_figure_20 ?_
  refine lv_iload_n hx hb dX3_figure_23 rfl (lv_at hl 0 rfl) ?_
  refine x_iald (v := 0) hx hb hE hP 0 rfl 12 (x_in (by decide)) (by decide) hf6 dX3_figure_24 ?_
  refine lv_goto (tgt := 29) hx hb dX3_figure_25 (by decide) ?_
  exact x_zret hx hb hr rfl rfl hlocks hP hD hS hAe hsz (Nat.le_of_ble_eq_true rfl) (Nat.le_of_ble_eq_true rfl) (fun _ => 0) [0, 1] (by decide) rfl dX3_figure_29

set_option maxHeartbeats 4000000 in
set_option maxRecDepth 100000 in
theorem c793_X3_notesOf (l : Launch) (g : gG) (q1 q4 q10 : Nat) (x8 : Int32) (f5 : Nat → Int32) (f11 : Nat → Int32) (hf6 : f5 144 = 2) (hf7 : f5 146 = x8) (hf9 : f5 145 = 2) (hf12 : f11 12 = 0) (sz : Nat) : Met l yX3_notesOf [Cond.code yX3_notesOf cX3_notesOf 4 (some .int)] ({ frames := 1, cells := 0, slots := 0, locals := 24 } : Room) (va_Pc [.ref q1, .int 3, .int 0] (PX g sz [(q10, .inl (g.2 0, 40, .inl f11)), (q4, .inl (g.2 0, 384, .inl f5)), (q1, .inr (5, [.ref q4, .ref q10]))])) (QI g [(q10, .inl (g.2 0, 40, .inl f11)), (q4, .inl (g.2 0, 384, .inl f5)), (q1, .inr (5, [.ref q4, .ref q10]))] sz 0 (fun _ => [(q4, .inl (g.2 0, 384, .inl f5)), (q10, .inl (g.2 0, 40, .inl f11)), (q1, .inr (5, [.ref q4, .ref q10]))])) 0 0 (va_A [(q10, .inl (g.2 0, 40, .inl f11)), (q4, .inl (g.2 0, 384, .inl f5)), (q1, .inr (5, [.ref q4, .ref q10]))] sz) := by
  refine ofN (by decide) (Nat.le_of_ble_eq_true rfl) rfl ?_
  intro p e s m args below meth c A ls hAe hsz hx hb hml hr hlocks hin hown hE hP hD hA hS hl
  have hown : s.vm.findClass RX3 = some m.cls := hown
  refine lv_aload_n hx hb dX3_notesOf_0 rfl (lv_at hl 0 rfl) ?_
  refine lv_iload_n hx hb dX3_notesOf_1 rfl (lv_at hl 1 rfl) ?_
  refine lv_iload_n hx hb dX3_notesOf_2 rfl (lv_at hl 2 rfl) ?_
  refine lv_iconst (v := 0) hx hb dX3_notesOf_3 (by decide) ?_
  refine g_i (wr := [(q10, .inl (g.2 0, 40, .inl f11))]) (rV (rest := []) hx hb hml hown hE hP hD 2 rfl rfl (c762_X3_itemNumber l g q1 q4 (.ref q10) f5 (hf6) s.heap.size) (kV_X3_itemNumber hE (e348 hE) rfl rfl ⟨(Nat.le_of_ble_eq_true rfl), (Nat.le_of_ble_eq_true rfl)⟩) [1, 2] rfl (by decide) rfl hl.1 rfl (lv_room (Nat.le_of_ble_eq_true rfl)) dX3_notesOf_4 ⟨(Nat.le_of_ble_eq_true rfl), (Nat.le_of_ble_eq_true rfl)⟩) hP hD hS hA [1, 2] [0] rfl rfl (by decide) (by decide) (fun u1 H locs hP hD hS => ?_)
  have hP : va_P g.1 vwCl [(q10, .inl (g.2 0, 40, .inl f11)), (q4, .inl (g.2 0, 384, .inl f5)), (q1, .inr (5, [.ref q4, .ref q10]))] H := hP
  have hD : va_D A [(q10, .inl (g.2 0, 40, .inl f11)), (q4, .inl (g.2 0, 384, .inl f5)), (q1, .inr (5, [.ref q4, .ref q10]))] := hD
  refine lv_istore_n (lv' := [(3, .int 2), (0, .ref q1), (1, .int 3), (2, .int 0)]) hx hb dX3_notesOf_7 rfl hl (by decide) rfl (fun ls hl => ?_)
  refine lv_iload_n hx hb dX3_notesOf_8 rfl (lv_at hl 0 rfl) ?_
  refine lv_iconst (v := 2) hx hb dX3_notesOf_9 (by decide) ?_
  refine lv_icmp_ne (tgt := 34) hx hb dX3_notesOf_10 (by decide) (fun h => absurd h (by decide)) (fun _ => ?_)
  refine lv_aload_n hx hb dX3_notesOf_13 rfl (lv_at hl 1 rfl) ?_
  refine lv_iload_n hx hb dX3_notesOf_14 rfl (lv_at hl 2 rfl) ?_
  refine lv_iload_n hx hb dX3_notesOf_15 rfl (lv_at hl 3 rfl) ?_
  refine lv_iconst (v := 2) hx hb dX3_notesOf_16 (by decide) ?_
  refine g_i (wr := [(q10, .inl (g.2 0, 40, .inl f11))]) (rV (rest := []) hx hb hml hown hE hP hD 2 rfl rfl (c294_X3_itemNumber l g q1 q4 x8 (.ref q10) f5 (hf7) H.size) (kV_X3_itemNumber hE (e348 hE) rfl rfl ⟨(Nat.le_of_ble_eq_true rfl), (Nat.le_of_ble_eq_true rfl)⟩) [1, 2] rfl (by decide) rfl hl.1 rfl (lv_room (Nat.le_of_ble_eq_true rfl)) dX3_notesOf_17 ⟨(Nat.le_of_ble_eq_true rfl), (Nat.le_of_ble_eq_true rfl)⟩) hP hD hS hA [1, 2] [0] rfl rfl (by decide) (by decide) (fun u2 H locs hP hD hS => ?_)
  have hP : va_P g.1 vwCl [(q10, .inl (g.2 0, 40, .inl f11)), (q4, .inl (g.2 0, 384, .inl f5)), (q1, .inr (5, [.ref q4, .ref q10]))] H := hP
  have hD : va_D A [(q10, .inl (g.2 0, 40, .inl f11)), (q4, .inl (g.2 0, 384, .inl f5)), (q1, .inr (5, [.ref q4, .ref q10]))] := hD
  refine lv_aload_n hx hb dX3_notesOf_20 rfl (lv_at hl 1 rfl) ?_
  refine lv_aload_n hx hb dX3_notesOf_21 rfl (lv_at hl 1 rfl) ?_
  refine lv_iload_n hx hb dX3_notesOf_22 rfl (lv_at hl 2 rfl) ?_
  refine lv_iload_n hx hb dX3_notesOf_23 rfl (lv_at hl 3 rfl) ?_
  refine lv_iconst (v := 1) hx hb dX3_notesOf_24 (by decide) ?_
  refine g_i (wr := [(q10, .inl (g.2 0, 40, .inl f11))]) (rV (rest := [.ref q1, .int x8]) hx hb hml hown hE hP hD 2 rfl rfl (c763_X3_itemNumber l g q1 q4 2 (.ref q10) f5 (hf9) H.size) (kV_X3_itemNumber hE (e348 hE) rfl rfl ⟨(Nat.le_of_ble_eq_true rfl), (Nat.le_of_ble_eq_true rfl)⟩) [1, 2] rfl (by decide) rfl hl.1 rfl (lv_room (Nat.le_of_ble_eq_true rfl)) dX3_notesOf_25 ⟨(Nat.le_of_ble_eq_true rfl), (Nat.le_of_ble_eq_true rfl)⟩) hP hD hS hA [1, 2] [0] rfl rfl (by decide) (by decide) (fun u3 H locs hP hD hS => ?_)
  have hP : va_P g.1 vwCl [(q10, .inl (g.2 0, 40, .inl f11)), (q4, .inl (g.2 0, 384, .inl f5)), (q1, .inr (5, [.ref q4, .ref q10]))] H := hP
  have hD : va_D A [(q10, .inl (g.2 0, 40, .inl f11)), (q4, .inl (g.2 0, 384, .inl f5)), (q1, .inr (5, [.ref q4, .ref q10]))] := hD
  refine lv_iconst (v := 2) hx hb dX3_notesOf_28 (by decide) ?_
  refine g_i (wr := [(q4, .inl (g.2 0, 384, .inl f5))]) (rV (rest := [.int x8]) hx hb hml hown hE hP hD 2 rfl rfl (c792_X3_figure l g q1 q10 (.ref q4) f11 (hf12) H.size) (kV_X3_figure hE (e343 hE) rfl rfl ⟨(Nat.le_of_ble_eq_true rfl), (Nat.le_of_ble_eq_true rfl)⟩) [0, 2] rfl (by decide) rfl hl.1 rfl (lv_room (Nat.le_of_ble_eq_true rfl)) dX3_notesOf_29 ⟨(Nat.le_of_ble_eq_true rfl), (Nat.le_of_ble_eq_true rfl)⟩) hP hD hS hA [0, 2] [1] rfl rfl (by decide) (by decide) (fun u4 H locs hP hD hS => ?_)
  have hP : va_P g.1 vwCl [(q4, .inl (g.2 0, 384, .inl f5)), (q10, .inl (g.2 0, 40, .inl f11)), (q1, .inr (5, [.ref q4, .ref q10]))] H := hP
  have hD : va_D A [(q4, .inl (g.2 0, 384, .inl f5)), (q10, .inl (g.2 0, 40, .inl f11)), (q1, .inr (5, [.ref q4, .ref q10]))] := hD
  refine x_imul (v := 0) hx hb dX3_notesOf_32 (Int32.mul_zero) ?_
  exact x_zret hx hb hr rfl rfl hlocks hP hD hS hAe hsz (Nat.le_of_ble_eq_true rfl) (Nat.le_of_ble_eq_true rfl) (fun _ => 0) [0, 1, 2] (by decide) rfl dX3_notesOf_33

set_option maxHeartbeats 4000000 in
set_option maxRecDepth 100000 in
theorem c794_X3_figure (l : Launch) (g : gG) (q1 q4 : Nat) (w2 : Value) (f5 : Nat → Int32) (hf6 : f5 13 = 0) (sz : Nat) : Met l yX3_figure [Cond.code yX3_figure cX3_figure 4 (some .int)] ({ frames := 0, cells := 0, slots := 0, locals := 0 } : Room) (va_Pc [.ref q1, .int 2, .int 3] (PX g sz [(q4, .inl (g.2 0, 40, .inl f5)), (q1, .inr (5, [w2, .ref q4]))])) (QI g [(q4, .inl (g.2 0, 40, .inl f5)), (q1, .inr (5, [w2, .ref q4]))] sz 0 (fun _ => [(q4, .inl (g.2 0, 40, .inl f5)), (q1, .inr (5, [w2, .ref q4]))])) 0 0 (va_A [(q4, .inl (g.2 0, 40, .inl f5)), (q1, .inr (5, [w2, .ref q4]))] sz) := by
  refine ofN (by decide) (Nat.le_of_ble_eq_true rfl) rfl ?_
  intro p e s m args below meth c A ls hAe hsz hx hb hml hr hlocks hin hown hE hP hD hA hS hl
  have hown : s.vm.findClass RX3 = some m.cls := hown
  refine lv_iload_n hx hb dX3_figure_0 rfl (lv_at hl 1 rfl) ?_
  refine lv_iconst (v := 5) hx hb dX3_figure_1 (by decide) ?_
  refine x_imul (v := 10) hx hb dX3_figure_2 (by decide) ?_
  refine lv_iload_n hx hb dX3_figure_3 rfl (lv_at hl 2 rfl) ?_
  refine x_iadd (v := 13) hx hb dX3_figure_4 (by decide) ?_
  refine lv_istore_n (lv' := [(3, .int 13), (0, .ref q1), (1, .int 2), (2, .int 3)]) hx hb dX3_figure_5 rfl hl (by decide) rfl (fun ls hl => ?_)
  refine lv_iload_n hx hb dX3_figure_6 rfl (lv_at hl 0 rfl) ?_
  refine lv_if_lt (tgt := 28) hx hb dX3_figure_7 (by decide) (fun h => absurd h (by decide)) (fun _ => ?_)
  refine lv_iload_n hx hb dX3_figure_10 rfl (lv_at hl 0 rfl) ?_
  refine lv_aload_n hx hb dX3_figure_11 rfl (lv_at hl 1 rfl) ?_
  refine gf_RX3_15 hx hb hown hE hP 1 rfl rfl dX3_figure_12 ?_
  refine x_aleni (v := 40) hx hb hE hP 0 rfl rfl dX3_figure_15 ?_
  refine lv_icmp_ge (tgt := 28) hx hb dX3_figure_16 (by decide) (fun h => absurd h (by decide)) (fun _ => ?_)
  refine lv_aload_n hx hb dX3_figure_19 rfl (lv_at hl 1 rfl) ?_
  refine gf_RX3_15 hx hb hown hE hP 1 rfl rfl dX3_figure_20 ?_
  refine lv_iload_n hx hb dX3_figure_23 rfl (lv_at hl 0 rfl) ?_
  refine x_iald (v := 0) hx hb hE hP 0 rfl 13 (x_in (by decide)) (by decide) hf6 dX3_figure_24 ?_
  refine lv_goto (tgt := 29) hx hb dX3_figure_25 (by decide) ?_
  exact x_zret hx hb hr rfl rfl hlocks hP hD hS hAe hsz (Nat.le_of_ble_eq_true rfl) (Nat.le_of_ble_eq_true rfl) (fun _ => 0) [0, 1] (by decide) rfl dX3_figure_29

set_option maxHeartbeats 4000000 in
set_option maxRecDepth 100000 in
theorem c795_X3_figure (l : Launch) (g : gG) (q1 q4 : Nat) (w2 : Value) (f5 : Nat → Int32) (hf6 : f5 14 = 1) (sz : Nat) : Met l yX3_figure [Cond.code yX3_figure cX3_figure 4 (some .int)] ({ frames := 0, cells := 0, slots := 0, locals := 0 } : Room) (va_Pc [.ref q1, .int 2, .int 4] (PX g sz [(q4, .inl (g.2 0, 40, .inl f5)), (q1, .inr (5, [w2, .ref q4]))])) (QI g [(q4, .inl (g.2 0, 40, .inl f5)), (q1, .inr (5, [w2, .ref q4]))] sz 1 (fun _ => [(q4, .inl (g.2 0, 40, .inl f5)), (q1, .inr (5, [w2, .ref q4]))])) 0 0 (va_A [(q4, .inl (g.2 0, 40, .inl f5)), (q1, .inr (5, [w2, .ref q4]))] sz) := by
  refine ofN (by decide) (Nat.le_of_ble_eq_true rfl) rfl ?_
  intro p e s m args below meth c A ls hAe hsz hx hb hml hr hlocks hin hown hE hP hD hA hS hl
  have hown : s.vm.findClass RX3 = some m.cls := hown
  refine lv_iload_n hx hb dX3_figure_0 rfl (lv_at hl 1 rfl) ?_
  refine lv_iconst (v := 5) hx hb dX3_figure_1 (by decide) ?_
  refine x_imul (v := 10) hx hb dX3_figure_2 (by decide) ?_
  refine lv_iload_n hx hb dX3_figure_3 rfl (lv_at hl 2 rfl) ?_
  refine x_iadd (v := 14) hx hb dX3_figure_4 (by decide) ?_
  refine lv_istore_n (lv' := [(3, .int 14), (0, .ref q1), (1, .int 2), (2, .int 4)]) hx hb dX3_figure_5 rfl hl (by decide) rfl (fun ls hl => ?_)
  refine lv_iload_n hx hb dX3_figure_6 rfl (lv_at hl 0 rfl) ?_
  refine lv_if_lt (tgt := 28) hx hb dX3_figure_7 (by decide) (fun h => absurd h (by decide)) (fun _ => ?_)
  refine lv_iload_n hx hb dX3_figure_10 rfl (lv_at hl 0 rfl) ?_
  refine lv_aload_n hx hb dX3_figure_11 rfl (lv_at hl 1 rfl) ?_
  refine gf_RX3_15 hx hb hown hE hP 1 rfl rfl dX3_figure_12 ?_
  refine x_aleni (v := 40) hx hb hE hP 0 rfl rfl dX3_figure_15 ?_
  refine lv_icmp_ge (tgt := 28) hx hb dX3_figure_16 (by decide) (fun h => absurd h (by decide)) (fun _ => ?_)
  refine lv_aload_n hx hb dX3_figure_19 rfl (lv_at hl 1 rfl) ?_
  refine gf_RX3_15 hx hb hown hE hP 1 rfl rfl dX3_figure_20 ?_
  refine lv_iload_n hx hb dX3_figure_23 rfl (lv_at hl 0 rfl) ?_
  refine x_iald (v := 1) hx hb hE hP 0 rfl 14 (x_in (by decide)) (by decide) hf6 dX3_figure_24 ?_
  refine lv_goto (tgt := 29) hx hb dX3_figure_25 (by decide) ?_
  exact x_zret hx hb hr rfl rfl hlocks hP hD hS hAe hsz (Nat.le_of_ble_eq_true rfl) (Nat.le_of_ble_eq_true rfl) (fun _ => 0) [0, 1] (by decide) rfl dX3_figure_29

set_option maxHeartbeats 4000000 in
set_option maxRecDepth 100000 in
theorem c796_X3_putFigure (l : Launch) (g : gG) (q1 q4 : Nat) (w2 : Value) (f5 : Nat → Int32) (sz : Nat) : Met l yX3_putFigure [Cond.code yX3_putFigure cX3_putFigure 5 none] ({ frames := 0, cells := 0, slots := 0, locals := 0 } : Room) (va_Pc [.ref q1, .int 3, .int 3, .int 4] (PX g sz [(q4, .inl (g.2 0, 40, .inl f5)), (q1, .inr (5, [w2, .ref q4]))])) (QV g [(q4, .inl (g.2 0, 40, .inl f5)), (q1, .inr (5, [w2, .ref q4]))] sz (fun _ => [(q4, .inl (g.2 0, 40, .inl (upd f5 18 4))), (q1, .inr (5, [w2, .ref q4]))])) 0 0 (va_A [(q4, .inl (g.2 0, 40, .inl f5)), (q1, .inr (5, [w2, .ref q4]))] sz) := by
  refine ofN (by decide) (Nat.le_of_ble_eq_true rfl) rfl ?_
  intro p e s m args below meth c A ls hAe hsz hx hb hml hr hlocks hin hown hE hP hD hA hS hl
  have hown : s.vm.findClass RX3 = some m.cls := hown
  refine lv_iload_n hx hb dX3_putFigure_0 rfl (lv_at hl 1 rfl) ?_
  refine lv_iconst (v := 5) hx hb dX3_putFigure_1 (by decide) ?_
  refine x_imul (v := 15) hx hb dX3_putFigure_2 (by decide) ?_
  refine lv_iload_n hx hb dX3_putFigure_3 rfl (lv_at hl 2 rfl) ?_
  refine x_iadd (v := 18) hx hb dX3_putFigure_4 (by decide) ?_
  refine lv_istore (lv' := [(4, .int 18), (0, .ref q1), (1, .int 3), (2, .int 3), (3, .int 4)]) hx hb dX3_putFigure_5 hl (by decide) rfl (fun ls hl => ?_)
  refine lv_iload hx hb dX3_putFigure_7 (lv_at hl 0 rfl) ?_
  refine lv_if_lt (tgt := 30) hx hb dX3_putFigure_9 (by decide) (fun h => absurd h (by decide)) (fun _ => ?_)
  refine lv_iload hx hb dX3_putFigure_12 (lv_at hl 0 rfl) ?_
  refine lv_aload_n hx hb dX3_putFigure_14 rfl (lv_at hl 1 rfl) ?_
  refine gf_RX3_15 hx hb hown hE hP 1 rfl rfl dX3_putFigure_15 ?_
  refine x_aleni (v := 40) hx hb hE hP 0 rfl rfl dX3_putFigure_18 ?_
  refine lv_icmp_ge (tgt := 30) hx hb dX3_putFigure_19 (by decide) (fun h => absurd h (by decide)) (fun _ => ?_)
  refine lv_aload_n hx hb dX3_putFigure_22 rfl (lv_at hl 1 rfl) ?_
  refine gf_RX3_15 hx hb hown hE hP 1 rfl rfl dX3_putFigure_23 ?_
  refine lv_iload hx hb dX3_putFigure_26 (lv_at hl 0 rfl) ?_
  refine lv_iload_n hx hb dX3_putFigure_28 rfl (lv_at hl 4 rfl) ?_
  refine x_iast (ws' := [(q4, .inl (g.2 0, 40, .inl (upd f5 18 4))), (q1, .inr (5, [w2, .ref q4]))]) hx hb hE hP hD hS 0 rfl 18 (x_in (by decide)) (by decide) dX3_putFigure_29 rfl (fun H locs hP hD hS => ?_)
  exact x_vret hx hb hr hlocks hP hD hS hAe hsz (Nat.le_of_ble_eq_true rfl) (Nat.le_of_ble_eq_true rfl) (fun _ => 0) [0, 1] (by decide) rfl dX3_putFigure_30

set_option maxHeartbeats 4000000 in
set_option maxRecDepth 100000 in
theorem c797_X3_measureOne (l : Launch) (g : gG) (q1 q4 q7 : Nat) (x10 : Int32) (f5 : Nat → Int32) (f8 : Nat → Int32) (hf6 : f5 15 = 1) (hf9 : f8 146 = x10) (hf11 : f8 144 = 2) (hf12 : f8 145 = 2) (hf13 : f5 11 = 0) (hf14 : f5 12 = 0) (hf15 : f5 13 = 0) (hf16 : f5 14 = 1) (hf17 : f5 16 = 0) (hf18 : f5 17 = 0) (sz : Nat) : Met l yX3_measureOne [Cond.code yX3_measureOne cX3_measureOne 9 none] ({ frames := 2, cells := 0, slots := 0, locals := 47 } : Room) (va_Pc [.ref q1, .int 3] (PX g sz [(q7, .inl (g.2 0, 384, .inl f8)), (q4, .inl (g.2 0, 40, .inl f5)), (q1, .inr (5, [.ref q7, .ref q4]))])) (QV g [(q7, .inl (g.2 0, 384, .inl f8)), (q4, .inl (g.2 0, 40, .inl f5)), (q1, .inr (5, [.ref q7, .ref q4]))] sz (fun _ => [(q7, .inl (g.2 0, 384, .inl f8)), (q4, .inl (g.2 0, 40, .inl (upd (upd f5 18 4) 19 2))), (q1, .inr (5, [.ref q7, .ref q4]))])) 0 0 (va_A [(q7, .inl (g.2 0, 384, .inl f8)), (q4, .inl (g.2 0, 40, .inl f5)), (q1, .inr (5, [.ref q7, .ref q4]))] sz) := by
  refine ofN (by decide) (Nat.le_of_ble_eq_true rfl) rfl ?_
  intro p e s m args below meth c A ls hAe hsz hx hb hml hr hlocks hin hown hE hP hD hA hS hl
  have hown : s.vm.findClass RX3 = some m.cls := hown
  refine lv_iconst (v := 0) hx hb dX3_measureOne_0 (by decide) ?_
  refine lv_istore_n (lv' := [(2, .int 0), (0, .ref q1), (1, .int 3)]) hx hb dX3_measureOne_1 rfl hl (by decide) rfl (fun ls hl => ?_)
  refine lv_iconst (v := 0) hx hb dX3_measureOne_2 (by decide) ?_
  refine lv_istore_n (lv' := [(3, .int 0), (2, .int 0), (0, .ref q1), (1, .int 3)]) hx hb dX3_measureOne_3 rfl hl (by decide) rfl (fun ls hl => ?_)
  refine lv_iconst (v := 0) hx hb dX3_measureOne_4 (by decide) ?_
  refine lv_istore (lv' := [(4, .int 0), (3, .int 0), (2, .int 0), (0, .ref q1), (1, .int 3)]) hx hb dX3_measureOne_5 hl (by decide) rfl (fun ls hl => ?_)
  refine lv_iconst (v := 1) hx hb dX3_measureOne_7 (by decide) ?_
  refine lv_istore (lv' := [(5, .int 1), (4, .int 0), (3, .int 0), (2, .int 0), (0, .ref q1), (1, .int 3)]) hx hb dX3_measureOne_8 hl (by decide) rfl (fun ls hl => ?_)
  refine lv_aload_n hx hb dX3_measureOne_10 rfl (lv_at hl 4 rfl) ?_
  refine lv_iload_n hx hb dX3_measureOne_11 rfl (lv_at hl 5 rfl) ?_
  refine lv_iconst (v := 0) hx hb dX3_measureOne_12 (by decide) ?_
  refine g_i (wr := [(q7, .inl (g.2 0, 384, .inl f8))]) (rV (rest := []) hx hb hml hown hE hP hD 2 rfl rfl (c293_X3_figure l g q1 q4 (.ref q7) f5 (hf6) s.heap.size) (kV_X3_figure hE (e343 hE) rfl rfl ⟨(Nat.le_of_ble_eq_true rfl), (Nat.le_of_ble_eq_true rfl)⟩) [1, 2] rfl (by decide) rfl hl.1 rfl (lv_room (Nat.le_of_ble_eq_true rfl)) dX3_measureOne_13 ⟨(Nat.le_of_ble_eq_true rfl), (Nat.le_of_ble_eq_true rfl)⟩) hP hD hS hA [1, 2] [0] rfl rfl (by decide) (by decide) (fun u1 H locs hP hD hS => ?_)
  have hP : va_P g.1 vwCl [(q7, .inl (g.2 0, 384, .inl f8)), (q4, .inl (g.2 0, 40, .inl f5)), (q1, .inr (5, [.ref q7, .ref q4]))] H := hP
  have hD : va_D A [(q7, .inl (g.2 0, 384, .inl f8)), (q4, .inl (g.2 0, 40, .inl f5)), (q1, .inr (5, [.ref q7, .ref q4]))] := hD
  refine lv_istore (lv' := [(6, .int 1), (5, .int 1), (4, .int 0), (3, .int 0), (2, .int 0), (0, .ref q1), (1, .int 3)]) hx hb dX3_measureOne_16 hl (by decide) rfl (fun ls hl => ?_)
  refine lv_iconst (v := 0) hx hb dX3_measureOne_18 (by decide) ?_
  refine lv_istore (lv' := [(7, .int 0), (6, .int 1), (5, .int 1), (4, .int 0), (3, .int 0), (2, .int 0), (0, .ref q1), (1, .int 3)]) hx hb dX3_measureOne_19 hl (by decide) rfl (fun ls hl => ?_)
  refine lv_iload hx hb dX3_measureOne_21 (lv_at hl 0 rfl) ?_
  refine lv_iload hx hb dX3_measureOne_23 (lv_at hl 1 rfl) ?_
  refine lv_icmp_ge (tgt := 109) hx hb dX3_measureOne_25 (by decide) (fun h => absurd h (by decide)) (fun _ => ?_)
  refine lv_iload_n hx hb dX3_measureOne_28 rfl (lv_at hl 5 rfl) ?_
  refine lv_aload_n hx hb dX3_measureOne_29 rfl (lv_at hl 6 rfl) ?_
  refine lv_iload_n hx hb dX3_measureOne_30 rfl (lv_at hl 7 rfl) ?_
  refine lv_iload hx hb dX3_measureOne_31 (lv_at hl 0 rfl) ?_
  refine g_i (wr := []) (rV (rest := [.int 0]) hx hb hml hown hE hP hD 2 rfl rfl (c791_X3_lengthOf l g q1 q7 q4 x10 f8 f5 (hf9) (hf11) (hf12) (hf13) H.size) (kV_X3_lengthOf hE (e352 hE) rfl rfl ⟨(Nat.le_of_ble_eq_true rfl), (Nat.le_of_ble_eq_true rfl)⟩) [1, 0, 2] rfl (by decide) rfl hl.1 rfl (lv_room (Nat.le_of_ble_eq_true rfl)) dX3_measureOne_33 ⟨(Nat.le_of_ble_eq_true rfl), (Nat.le_of_ble_eq_true rfl)⟩) hP hD hS hA [1, 0, 2] [] rfl rfl (by decide) (by decide) (fun u2 H locs hP hD hS => ?_)
  have hP : va_P g.1 vwCl [(q7, .inl (g.2 0, 384, .inl f8)), (q4, .inl (g.2 0, 40, .inl f5)), (q1, .inr (5, [.ref q7, .ref q4]))] H := hP
  have hD : va_D A [(q7, .inl (g.2 0, 384, .inl f8)), (q4, .inl (g.2 0, 40, .inl f5)), (q1, .inr (5, [.ref q7, .ref q4]))] := hD
  refine x_iadd (v := 0) hx hb dX3_measureOne_36 (by decide) ?_
  refine lv_istore_n (lv' := [(2, .int 0), (7, .int 0), (6, .int 1), (5, .int 1), (4, .int 0), (3, .int 0), (0, .ref q1), (1, .int 3)]) hx hb dX3_measureOne_37 rfl hl (by decide) rfl (fun ls hl => ?_)
  refine lv_iload_n hx hb dX3_measureOne_38 rfl (lv_at hl 5 rfl) ?_
  refine lv_aload_n hx hb dX3_measureOne_39 rfl (lv_at hl 6 rfl) ?_
  refine lv_iload_n hx hb dX3_measureOne_40 rfl (lv_at hl 7 rfl) ?_
  refine lv_iload hx hb dX3_measureOne_41 (lv_at hl 1 rfl) ?_
  refine g_i (wr := []) (rV (rest := [.int 0]) hx hb hml hown hE hP hD 2 rfl rfl (c793_X3_notesOf l g q1 q7 q4 x10 f8 f5 (hf11) (hf9) (hf12) (hf14) H.size) (kV_X3_notesOf hE (e344 hE) rfl rfl ⟨(Nat.le_of_ble_eq_true rfl), (Nat.le_of_ble_eq_true rfl)⟩) [1, 0, 2] rfl (by decide) rfl hl.1 rfl (lv_room (Nat.le_of_ble_eq_true rfl)) dX3_measureOne_43 ⟨(Nat.le_of_ble_eq_true rfl), (Nat.le_of_ble_eq_true rfl)⟩) hP hD hS hA [1, 0, 2] [] rfl rfl (by decide) (by decide) (fun u3 H locs hP hD hS => ?_)
  have hP : va_P g.1 vwCl [(q7, .inl (g.2 0, 384, .inl f8)), (q4, .inl (g.2 0, 40, .inl f5)), (q1, .inr (5, [.ref q7, .ref q4]))] H := hP
  have hD : va_D A [(q7, .inl (g.2 0, 384, .inl f8)), (q4, .inl (g.2 0, 40, .inl f5)), (q1, .inr (5, [.ref q7, .ref q4]))] := hD
  refine x_iadd (v := 0) hx hb dX3_measureOne_46 (by decide) ?_
  refine lv_istore_n (lv' := [(3, .int 0), (2, .int 0), (7, .int 0), (6, .int 1), (5, .int 1), (4, .int 0), (0, .ref q1), (1, .int 3)]) hx hb dX3_measureOne_47 rfl hl (by decide) rfl (fun ls hl => ?_)
  refine lv_aload_n hx hb dX3_measureOne_48 rfl (lv_at hl 6 rfl) ?_
  refine lv_iload_n hx hb dX3_measureOne_49 rfl (lv_at hl 7 rfl) ?_
  refine lv_iload hx hb dX3_measureOne_50 (lv_at hl 2 rfl) ?_
  refine lv_iconst (v := 0) hx hb dX3_measureOne_52 (by decide) ?_
  refine g_i (wr := [(q4, .inl (g.2 0, 40, .inl f5))]) (rV (rest := []) hx hb hml hown hE hP hD 2 rfl rfl (c762_X3_itemNumber l g q1 q7 (.ref q4) f8 (hf11) H.size) (kV_X3_itemNumber hE (e348 hE) rfl rfl ⟨(Nat.le_of_ble_eq_true rfl), (Nat.le_of_ble_eq_true rfl)⟩) [0, 2] rfl (by decide) rfl hl.1 rfl (lv_room (Nat.le_of_ble_eq_true rfl)) dX3_measureOne_53 ⟨(Nat.le_of_ble_eq_true rfl), (Nat.le_of_ble_eq_true rfl)⟩) hP hD hS hA [0, 2] [1] rfl rfl (by decide) (by decide) (fun u4 H locs hP hD hS => ?_)
  have hP : va_P g.1 vwCl [(q4, .inl (g.2 0, 40, .inl f5)), (q7, .inl (g.2 0, 384, .inl f8)), (q1, .inr (5, [.ref q7, .ref q4]))] H := hP
  have hD : va_D A [(q4, .inl (g.2 0, 40, .inl f5)), (q7, .inl (g.2 0, 384, .inl f8)), (q1, .inr (5, [.ref q7, .ref q4]))] := hD
  refine lv_iconst (v := 2) hx hb dX3_measureOne_56 (by decide) ?_
  refine lv_icmp_ne (tgt := 103) hx hb dX3_measureOne_57 (by decide) (fun h => absurd h (by decide)) (fun _ => ?_)
  refine lv_aload_n hx hb dX3_measureOne_60 rfl (lv_at hl 6 rfl) ?_
  refine lv_iload_n hx hb dX3_measureOne_61 rfl (lv_at hl 7 rfl) ?_
  refine lv_iload hx hb dX3_measureOne_62 (lv_at hl 2 rfl) ?_
  refine lv_iconst (v := 1) hx hb dX3_measureOne_64 (by decide) ?_
  refine g_i (wr := [(q4, .inl (g.2 0, 40, .inl f5))]) (rV (rest := []) hx hb hml hown hE hP hD 2 rfl rfl (c763_X3_itemNumber l g q1 q7 2 (.ref q4) f8 (hf12) H.size) (kV_X3_itemNumber hE (e348 hE) rfl rfl ⟨(Nat.le_of_ble_eq_true rfl), (Nat.le_of_ble_eq_true rfl)⟩) [1, 2] rfl (by decide) rfl hl.1 rfl (lv_room (Nat.le_of_ble_eq_true rfl)) dX3_measureOne_65 ⟨(Nat.le_of_ble_eq_true rfl), (Nat.le_of_ble_eq_true rfl)⟩) hP hD hS hA [1, 2] [0] rfl rfl (by decide) (by decide) (fun u5 H locs hP hD hS => ?_)
  have hP : va_P g.1 vwCl [(q4, .inl (g.2 0, 40, .inl f5)), (q7, .inl (g.2 0, 384, .inl f8)), (q1, .inr (5, [.ref q7, .ref q4]))] H := hP
  have hD : va_D A [(q4, .inl (g.2 0, 40, .inl f5)), (q7, .inl (g.2 0, 384, .inl f8)), (q1, .inr (5, [.ref q7, .ref q4]))] := hD
  refine lv_istore (lv' := [(8, .int 2), (3, .int 0), (2, .int 0), (7, .int 0), (6, .int 1), (5, .int 1), (4, .int 0), (0, .ref q1), (1, .int 3)]) hx hb dX3_measureOne_68 hl (by decide) rfl (fun ls hl => ?_)
  refine lv_iload hx hb dX3_measureOne_70 (lv_at hl 6 rfl) ?_
  refine lv_iconst (v := 1) hx hb dX3_measureOne_72 (by decide) ?_
  refine lv_iload hx hb dX3_measureOne_73 (lv_at hl 0 rfl) ?_
  refine lv_ishl hx hb dX3_measureOne_75 ?_
  refine x_top (v := 4) (by decide) ?_
  refine lv_aload_n hx hb dX3_measureOne_76 rfl (lv_at hl 7 rfl) ?_
  refine lv_iload hx hb dX3_measureOne_77 (lv_at hl 0 rfl) ?_
  refine lv_iconst (v := 3) hx hb dX3_measureOne_79 (by decide) ?_
  refine g_i (wr := [(q7, .inl (g.2 0, 384, .inl f8))]) (rV (rest := [.int 4, .int 0]) hx hb hml hown hE hP hD 2 rfl rfl (c794_X3_figure l g q1 q4 (.ref q7) f5 (hf15) H.size) (kV_X3_figure hE (e343 hE) rfl rfl ⟨(Nat.le_of_ble_eq_true rfl), (Nat.le_of_ble_eq_true rfl)⟩) [0, 2] rfl (by decide) rfl hl.1 rfl (lv_room (Nat.le_of_ble_eq_true rfl)) dX3_measureOne_80 ⟨(Nat.le_of_ble_eq_true rfl), (Nat.le_of_ble_eq_true rfl)⟩) hP hD hS hA [0, 2] [1] rfl rfl (by decide) (by decide) (fun u6 H locs hP hD hS => ?_)
  have hP : va_P g.1 vwCl [(q7, .inl (g.2 0, 384, .inl f8)), (q4, .inl (g.2 0, 40, .inl f5)), (q1, .inr (5, [.ref q7, .ref q4]))] H := hP
  have hD : va_D A [(q7, .inl (g.2 0, 384, .inl f8)), (q4, .inl (g.2 0, 40, .inl f5)), (q1, .inr (5, [.ref q7, .ref q4]))] := hD
  refine x_ior (v := 4) hx hb dX3_measureOne_83 (by decide) ?_
  refine x_ior (v := 4) hx hb dX3_measureOne_84 (by decide) ?_
  refine lv_istore (lv' := [(4, .int 4), (8, .int 2), (3, .int 0), (2, .int 0), (7, .int 0), (6, .int 1), (5, .int 1), (0, .ref q1), (1, .int 3)]) hx hb dX3_measureOne_85 hl (by decide) rfl (fun ls hl => ?_)
  refine lv_iload hx hb dX3_measureOne_87 (lv_at hl 6 rfl) ?_
  refine lv_iconst (v := 1) hx hb dX3_measureOne_89 (by decide) ?_
  refine lv_aload_n hx hb dX3_measureOne_90 rfl (lv_at hl 7 rfl) ?_
  refine lv_iload hx hb dX3_measureOne_91 (lv_at hl 1 rfl) ?_
  refine lv_iconst (v := 4) hx hb dX3_measureOne_93 (by decide) ?_
  refine g_i (wr := [(q7, .inl (g.2 0, 384, .inl f8))]) (rV (rest := [.int 1, .int 1]) hx hb hml hown hE hP hD 2 rfl rfl (c795_X3_figure l g q1 q4 (.ref q7) f5 (hf16) H.size) (kV_X3_figure hE (e343 hE) rfl rfl ⟨(Nat.le_of_ble_eq_true rfl), (Nat.le_of_ble_eq_true rfl)⟩) [1, 2] rfl (by decide) rfl hl.1 rfl (lv_room (Nat.le_of_ble_eq_true rfl)) dX3_measureOne_94 ⟨(Nat.le_of_ble_eq_true rfl), (Nat.le_of_ble_eq_true rfl)⟩) hP hD hS hA [1, 2] [0] rfl rfl (by decide) (by decide) (fun u7 H locs hP hD hS => ?_)
  have hP : va_P g.1 vwCl [(q7, .inl (g.2 0, 384, .inl f8)), (q4, .inl (g.2 0, 40, .inl f5)), (q1, .inr (5, [.ref q7, .ref q4]))] H := hP
  have hD : va_D A [(q7, .inl (g.2 0, 384, .inl f8)), (q4, .inl (g.2 0, 40, .inl f5)), (q1, .inr (5, [.ref q7, .ref q4]))] := hD
  refine x_iadd (v := 2) hx hb dX3_measureOne_97 (by decide) ?_
  refine x_mmax (v := 2) hx hb (by rw [hml]; exact hl.1.symm) hown (e702 hE) (e165 hE) (e9 hE) (e166 hE) (Nat.le_of_ble_eq_true rfl) (Nat.le_of_ble_eq_true rfl) (Nat.le_of_ble_eq_true rfl) (Nat.le_of_ble_eq_true rfl) (by decide) dX3_measureOne_98 ?_
  refine lv_istore (lv' := [(5, .int 2), (4, .int 4), (8, .int 2), (3, .int 0), (2, .int 0), (7, .int 0), (6, .int 1), (0, .ref q1), (1, .int 3)]) hx hb dX3_measureOne_101 hl (by decide) rfl (fun ls hl => ?_)
  refine lv_iinc (v := 1) (lv' := [(7, .int 1), (5, .int 2), (4, .int 4), (8, .int 2), (3, .int 0), (2, .int 0), (6, .int 1), (0, .ref q1), (1, .int 3)]) hx hb dX3_measureOne_103 hl (k := 5) rfl (by decide) (by decide) rfl (fun ls hl => ?_)
  refine lv_goto (tgt := 21) hx hb dX3_measureOne_106 (by decide) ?_
  refine lv_iload hx hb dX3_measureOne_21 (lv_at hl 0 rfl) ?_
  refine lv_iload hx hb dX3_measureOne_23 (lv_at hl 6 rfl) ?_
  refine lv_icmp_ge (tgt := 109) hx hb dX3_measureOne_25 (by decide) (fun _ => ?_) (fun h => absurd (by decide) h)
  refine lv_aload_n hx hb dX3_measureOne_109 rfl (lv_at hl 7 rfl) ?_
  refine lv_iload_n hx hb dX3_measureOne_110 rfl (lv_at hl 8 rfl) ?_
  refine lv_iconst (v := 1) hx hb dX3_measureOne_111 (by decide) ?_
  refine lv_iload_n hx hb dX3_measureOne_112 rfl (lv_at hl 5 rfl) ?_
  refine g_v (wr := [(q7, .inl (g.2 0, 384, .inl f8))]) (rV (rest := []) hx hb hml hown hE hP hD 2 rfl rfl (c159_X3_putFigure l g q1 q4 (.ref q7) f5 (hf17) H.size) (kV_X3_putFigure hE (e91 hE) rfl rfl ⟨(Nat.le_of_ble_eq_true rfl), (Nat.le_of_ble_eq_true rfl)⟩) [1, 2] rfl (by decide) rfl hl.1 rfl (lv_room (Nat.le_of_ble_eq_true rfl)) dX3_measureOne_113 ⟨(Nat.le_of_ble_eq_true rfl), (Nat.le_of_ble_eq_true rfl)⟩) hP hD hS hA [1, 2] [0] rfl rfl (by decide) (by decide) (fun u8 H locs hP hD hS => ?_)
  have hP : va_P g.1 vwCl [(q7, .inl (g.2 0, 384, .inl f8)), (q4, .inl (g.2 0, 40, .inl f5)), (q1, .inr (5, [.ref q7, .ref q4]))] H := hP
  have hD : va_D A [(q7, .inl (g.2 0, 384, .inl f8)), (q4, .inl (g.2 0, 40, .inl f5)), (q1, .inr (5, [.ref q7, .ref q4]))] := hD
  refine lv_aload_n hx hb dX3_measureOne_116 rfl (lv_at hl 7 rfl) ?_
  refine lv_iload_n hx hb dX3_measureOne_117 rfl (lv_at hl 8 rfl) ?_
  refine lv_iconst (v := 2) hx hb dX3_measureOne_118 (by decide) ?_
  refine lv_iload_n hx hb dX3_measureOne_119 rfl (lv_at hl 4 rfl) ?_
  refine g_v (wr := [(q7, .inl (g.2 0, 384, .inl f8))]) (rV (rest := []) hx hb hml hown hE hP hD 2 rfl rfl (c160_X3_putFigure l g q1 q4 (.ref q7) f5 (hf18) H.size) (kV_X3_putFigure hE (e91 hE) rfl rfl ⟨(Nat.le_of_ble_eq_true rfl), (Nat.le_of_ble_eq_true rfl)⟩) [1, 2] rfl (by decide) rfl hl.1 rfl (lv_room (Nat.le_of_ble_eq_true rfl)) dX3_measureOne_120 ⟨(Nat.le_of_ble_eq_true rfl), (Nat.le_of_ble_eq_true rfl)⟩) hP hD hS hA [1, 2] [0] rfl rfl (by decide) (by decide) (fun u9 H locs hP hD hS => ?_)
  have hP : va_P g.1 vwCl [(q7, .inl (g.2 0, 384, .inl f8)), (q4, .inl (g.2 0, 40, .inl f5)), (q1, .inr (5, [.ref q7, .ref q4]))] H := hP
  have hD : va_D A [(q7, .inl (g.2 0, 384, .inl f8)), (q4, .inl (g.2 0, 40, .inl f5)), (q1, .inr (5, [.ref q7, .ref q4]))] := hD
  refine lv_aload_n hx hb dX3_measureOne_123 rfl (lv_at hl 7 rfl) ?_
  refine lv_iload_n hx hb dX3_measureOne_124 rfl (lv_at hl 8 rfl) ?_
  refine lv_iconst (v := 3) hx hb dX3_measureOne_125 (by decide) ?_
  refine lv_iload hx hb dX3_measureOne_126 (lv_at hl 2 rfl) ?_
  refine g_v (wr := [(q7, .inl (g.2 0, 384, .inl f8))]) (rV (rest := []) hx hb hml hown hE hP hD 2 rfl rfl (c796_X3_putFigure l g q1 q4 (.ref q7) f5 H.size) (kV_X3_putFigure hE (e91 hE) rfl rfl ⟨(Nat.le_of_ble_eq_true rfl), (Nat.le_of_ble_eq_true rfl)⟩) [1, 2] rfl (by decide) rfl hl.1 rfl (lv_room (Nat.le_of_ble_eq_true rfl)) dX3_measureOne_128 ⟨(Nat.le_of_ble_eq_true rfl), (Nat.le_of_ble_eq_true rfl)⟩) hP hD hS hA [1, 2] [0] rfl rfl (by decide) (by decide) (fun u10 H locs hP hD hS => ?_)
  have hP : va_P g.1 vwCl [(q7, .inl (g.2 0, 384, .inl f8)), (q4, .inl (g.2 0, 40, .inl (upd f5 18 4))), (q1, .inr (5, [.ref q7, .ref q4]))] H := hP
  have hD : va_D A [(q7, .inl (g.2 0, 384, .inl f8)), (q4, .inl (g.2 0, 40, .inl (upd f5 18 4))), (q1, .inr (5, [.ref q7, .ref q4]))] := hD
  refine lv_aload_n hx hb dX3_measureOne_131 rfl (lv_at hl 7 rfl) ?_
  refine lv_iload_n hx hb dX3_measureOne_132 rfl (lv_at hl 8 rfl) ?_
  refine lv_iconst (v := 4) hx hb dX3_measureOne_133 (by decide) ?_
  refine lv_iload hx hb dX3_measureOne_134 (lv_at hl 1 rfl) ?_
  refine g_v (wr := [(q7, .inl (g.2 0, 384, .inl f8))]) (rV (rest := []) hx hb hml hown hE hP hD 2 rfl rfl (c767_X3_putFigure l g q1 q4 (.ref q7) (upd f5 18 4) H.size) (kV_X3_putFigure hE (e91 hE) rfl rfl ⟨(Nat.le_of_ble_eq_true rfl), (Nat.le_of_ble_eq_true rfl)⟩) [1, 2] rfl (by decide) rfl hl.1 rfl (lv_room (Nat.le_of_ble_eq_true rfl)) dX3_measureOne_136 ⟨(Nat.le_of_ble_eq_true rfl), (Nat.le_of_ble_eq_true rfl)⟩) hP hD hS hA [1, 2] [0] rfl rfl (by decide) (by decide) (fun u11 H locs hP hD hS => ?_)
  have hP : va_P g.1 vwCl [(q7, .inl (g.2 0, 384, .inl f8)), (q4, .inl (g.2 0, 40, .inl (upd (upd f5 18 4) 19 2))), (q1, .inr (5, [.ref q7, .ref q4]))] H := hP
  have hD : va_D A [(q7, .inl (g.2 0, 384, .inl f8)), (q4, .inl (g.2 0, 40, .inl (upd (upd f5 18 4) 19 2))), (q1, .inr (5, [.ref q7, .ref q4]))] := hD
  exact x_vret hx hb hr hlocks hP hD hS hAe hsz (Nat.le_of_ble_eq_true rfl) (Nat.le_of_ble_eq_true rfl) (fun _ => 0) [0, 1, 2] (by decide) rfl dX3_measureOne_139

set_option maxHeartbeats 4000000 in
set_option maxRecDepth 100000 in
theorem c798_X3_measure (l : Launch) (g : gG) (q1 q4 q5 : Nat) (x22 : Int32) (f6 : Nat → Int32) (f20 : Nat → Int32) (hf7 : f6 0 = 0) (hf8 : f6 2 = 0) (hf9 : f6 3 = 0) (hf10 : f6 5 = 0) (hf11 : f6 6 = 0) (hf12 : f6 7 = 0) (hf13 : f6 8 = 0) (hf14 : f6 10 = 0) (hf15 : f6 11 = 0) (hf16 : f6 12 = 0) (hf17 : f6 13 = 0) (hf18 : f6 15 = 1) (hf19 : f6 18 = 0) (hf21 : f20 146 = x22) (hf23 : f6 17 = 0) (hf24 : f6 16 = 0) (hf25 : f20 144 = 2) (hf26 : f20 145 = 2) (hf27 : f6 20 = 0) (hf28 : f6 21 = 0) (hf29 : f6 22 = 0) (hf30 : f6 23 = 0) (hf31 : f6 25 = 0) (hf32 : f6 26 = 0) (hf33 : f6 27 = 0) (hf34 : f6 28 = 0) (hf35 : f6 30 = 0) (hf36 : f6 31 = 0) (hf37 : f6 32 = 0) (hf38 : f6 33 = 0) (hf39 : f6 35 = 0) (hf40 : f6 36 = 0) (hf41 : f6 37 = 0) (hf42 : f6 38 = 0) (sz : Nat) : Met l yX3_measure [Cond.code yX3_measure cX3_measure 2 (some .boolean)] ({ frames := 3, cells := 0, slots := 0, locals := 75 } : Room) (va_Pc [.ref q1] (PX g sz [(q4, .inl (g.2 0, 384, .inl f20)), (q5, .inl (g.2 0, 40, .inl f6)), (q1, .inr (5, [.ref q4, .ref q5]))])) (QI g [(q4, .inl (g.2 0, 384, .inl f20)), (q5, .inl (g.2 0, 40, .inl f6)), (q1, .inr (5, [.ref q4, .ref q5]))] sz 1 (fun _ => [(q4, .inl (g.2 0, 384, .inl f20)), (q5, .inl (g.2 0, 40, .inl (upd (upd (upd (upd (upd (upd (upd (upd (upd (upd f6 1 0) 4 1) 9 1) 14 1) 18 4) 19 2) 24 1) 29 1) 34 1) 39 1))), (q1, .inr (5, [.ref q4, .ref q5]))])) 0 0 (va_A [(q4, .inl (g.2 0, 384, .inl f20)), (q5, .inl (g.2 0, 40, .inl f6)), (q1, .inr (5, [.ref q4, .ref q5]))] sz) := by
  refine ofN (by decide) (Nat.le_of_ble_eq_true rfl) rfl ?_
  intro p e s m args below meth c A ls hAe hsz hx hb hml hr hlocks hin hown hE hP hD hA hS hl
  have hown : s.vm.findClass RX3 = some m.cls := hown
  refine lv_iconst (v := 0) hx hb dX3_measure_0 (by decide) ?_
  refine lv_istore_n (lv' := [(1, .int 0), (0, .ref q1)]) hx hb dX3_measure_1 rfl hl (by decide) rfl (fun ls hl => ?_)
  refine lv_iload_n hx hb dX3_measure_2 rfl (lv_at hl 0 rfl) ?_
  refine lv_bipush (v := 8) hx hb dX3_measure_3 (by decide) ?_
  refine lv_icmp_ge (tgt := 33) hx hb dX3_measure_5 (by decide) (fun h => absurd h (by decide)) (fun _ => ?_)
  refine lv_aload_n hx hb dX3_measure_8 rfl (lv_at hl 1 rfl) ?_
  refine lv_iload_n hx hb dX3_measure_9 rfl (lv_at hl 0 rfl) ?_
  refine g_v (wr := [(q4, .inl (g.2 0, 384, .inl f20))]) (rV (rest := []) hx hb hml hown hE hP hD 2 rfl rfl (c231_X3_measureOne l g q1 q5 (.ref q4) f6 (hf7) (hf8) (hf9) s.heap.size) (kV_X3_measureOne hE (e698 hE) rfl rfl ⟨(Nat.le_of_ble_eq_true rfl), (Nat.le_of_ble_eq_true rfl)⟩) [1, 2] rfl (by decide) rfl hl.1 rfl (lv_room (Nat.le_of_ble_eq_true rfl)) dX3_measure_10 ⟨(Nat.le_of_ble_eq_true rfl), (Nat.le_of_ble_eq_true rfl)⟩) hP hD hS hA [1, 2] [0] rfl rfl (by decide) (by decide) (fun u1 H locs hP hD hS => ?_)
  have hP : va_P g.1 vwCl [(q4, .inl (g.2 0, 384, .inl f20)), (q5, .inl (g.2 0, 40, .inl (upd (upd f6 1 0) 4 1))), (q1, .inr (5, [.ref q4, .ref q5]))] H := hP
  have hD : va_D A [(q4, .inl (g.2 0, 384, .inl f20)), (q5, .inl (g.2 0, 40, .inl (upd (upd f6 1 0) 4 1))), (q1, .inr (5, [.ref q4, .ref q5]))] := hD
  refine lv_aload_n hx hb dX3_measure_13 rfl (lv_at hl 1 rfl) ?_
  refine lv_iload_n hx hb dX3_measure_14 rfl (lv_at hl 0 rfl) ?_
  refine lv_iconst (v := 1) hx hb dX3_measure_15 (by decide) ?_
  refine g_i (wr := [(q4, .inl (g.2 0, 384, .inl f20))]) (rV (rest := []) hx hb hml hown hE hP hD 2 rfl rfl (c145_X3_figure l g q1 q5 0 (.ref q4) (upd (upd f6 1 0) 4 1) (((pk_un (by decide)).trans pk_us)) H.size) (kV_X3_figure hE (e343 hE) rfl rfl ⟨(Nat.le_of_ble_eq_true rfl), (Nat.le_of_ble_eq_true rfl)⟩) [1, 2] rfl (by decide) rfl hl.1 rfl (lv_room (Nat.le_of_ble_eq_true rfl)) dX3_measure_16 ⟨(Nat.le_of_ble_eq_true rfl), (Nat.le_of_ble_eq_true rfl)⟩) hP hD hS hA [1, 2] [0] rfl rfl (by decide) (by decide) (fun u2 H locs hP hD hS => ?_)
  have hP : va_P g.1 vwCl [(q4, .inl (g.2 0, 384, .inl f20)), (q5, .inl (g.2 0, 40, .inl (upd (upd f6 1 0) 4 1))), (q1, .inr (5, [.ref q4, .ref q5]))] H := hP
  have hD : va_D A [(q4, .inl (g.2 0, 384, .inl f20)), (q5, .inl (g.2 0, 40, .inl (upd (upd f6 1 0) 4 1))), (q1, .inr (5, [.ref q4, .ref q5]))] := hD
  refine lv_sipush (v := 20000) hx hb dX3_measure_19 (by decide) ?_
  refine lv_icmp_le (tgt := 27) hx hb dX3_measure_22 (by decide) (fun _ => ?_) (fun h => absurd (by decide) h)
  refine lv_iinc (v := 1) (lv' := [(1, .int 1), (0, .ref q1)]) hx hb dX3_measure_27 hl (k := 0) rfl (by decide) (by decide) rfl (fun ls hl => ?_)
  refine lv_goto (tgt := 2) hx hb dX3_measure_30 (by decide) ?_
  refine lv_iload_n hx hb dX3_measure_2 rfl (lv_at hl 0 rfl) ?_
  refine lv_bipush (v := 8) hx hb dX3_measure_3 (by decide) ?_
  refine lv_icmp_ge (tgt := 33) hx hb dX3_measure_5 (by decide) (fun h => absurd h (by decide)) (fun _ => ?_)
  refine lv_aload_n hx hb dX3_measure_8 rfl (lv_at hl 1 rfl) ?_
  refine lv_iload_n hx hb dX3_measure_9 rfl (lv_at hl 0 rfl) ?_
  refine g_v (wr := [(q4, .inl (g.2 0, 384, .inl f20))]) (rV (rest := []) hx hb hml hown hE hP hD 2 rfl rfl (c150_X3_measureOne l g q1 q5 (.ref q4) (upd (upd f6 1 0) 4 1) (((pk_un (by decide)).trans ((pk_un (by decide)).trans hf10))) (((pk_un (by decide)).trans ((pk_un (by decide)).trans hf11))) (((pk_un (by decide)).trans ((pk_un (by decide)).trans hf12))) (((pk_un (by decide)).trans ((pk_un (by decide)).trans hf13))) H.size) (kV_X3_measureOne hE (e698 hE) rfl rfl ⟨(Nat.le_of_ble_eq_true rfl), (Nat.le_of_ble_eq_true rfl)⟩) [1, 2] rfl (by decide) rfl hl.1 rfl (lv_room (Nat.le_of_ble_eq_true rfl)) dX3_measure_10 ⟨(Nat.le_of_ble_eq_true rfl), (Nat.le_of_ble_eq_true rfl)⟩) hP hD hS hA [1, 2] [0] rfl rfl (by decide) (by decide) (fun u3 H locs hP hD hS => ?_)
  have hP : va_P g.1 vwCl [(q4, .inl (g.2 0, 384, .inl f20)), (q5, .inl (g.2 0, 40, .inl (upd (upd (upd f6 1 0) 4 1) 9 1))), (q1, .inr (5, [.ref q4, .ref q5]))] H := hP
  have hD : va_D A [(q4, .inl (g.2 0, 384, .inl f20)), (q5, .inl (g.2 0, 40, .inl (upd (upd (upd f6 1 0) 4 1) 9 1))), (q1, .inr (5, [.ref q4, .ref q5]))] := hD
  refine lv_aload_n hx hb dX3_measure_13 rfl (lv_at hl 1 rfl) ?_
  refine lv_iload_n hx hb dX3_measure_14 rfl (lv_at hl 0 rfl) ?_
  refine lv_iconst (v := 1) hx hb dX3_measure_15 (by decide) ?_
  refine g_i (wr := [(q4, .inl (g.2 0, 384, .inl f20))]) (rV (rest := []) hx hb hml hown hE hP hD 2 rfl rfl (c151_X3_figure l g q1 q5 (.ref q4) (upd (upd (upd f6 1 0) 4 1) 9 1) (((pk_un (by decide)).trans ((pk_un (by decide)).trans ((pk_un (by decide)).trans hf11)))) H.size) (kV_X3_figure hE (e343 hE) rfl rfl ⟨(Nat.le_of_ble_eq_true rfl), (Nat.le_of_ble_eq_true rfl)⟩) [1, 2] rfl (by decide) rfl hl.1 rfl (lv_room (Nat.le_of_ble_eq_true rfl)) dX3_measure_16 ⟨(Nat.le_of_ble_eq_true rfl), (Nat.le_of_ble_eq_true rfl)⟩) hP hD hS hA [1, 2] [0] rfl rfl (by decide) (by decide) (fun u4 H locs hP hD hS => ?_)
  have hP : va_P g.1 vwCl [(q4, .inl (g.2 0, 384, .inl f20)), (q5, .inl (g.2 0, 40, .inl (upd (upd (upd f6 1 0) 4 1) 9 1))), (q1, .inr (5, [.ref q4, .ref q5]))] H := hP
  have hD : va_D A [(q4, .inl (g.2 0, 384, .inl f20)), (q5, .inl (g.2 0, 40, .inl (upd (upd (upd f6 1 0) 4 1) 9 1))), (q1, .inr (5, [.ref q4, .ref q5]))] := hD
  refine lv_sipush (v := 20000) hx hb dX3_measure_19 (by decide) ?_
  refine lv_icmp_le (tgt := 27) hx hb dX3_measure_22 (by decide) (fun _ => ?_) (fun h => absurd (by decide) h)
  refine lv_iinc (v := 2) (lv' := [(1, .int 2), (0, .ref q1)]) hx hb dX3_measure_27 hl (k := 0) rfl (by decide) (by decide) rfl (fun ls hl => ?_)
  refine lv_goto (tgt := 2) hx hb dX3_measure_30 (by decide) ?_
  refine lv_iload_n hx hb dX3_measure_2 rfl (lv_at hl 0 rfl) ?_
  refine lv_bipush (v := 8) hx hb dX3_measure_3 (by decide) ?_
  refine lv_icmp_ge (tgt := 33) hx hb dX3_measure_5 (by decide) (fun h => absurd h (by decide)) (fun _ => ?_)
  refine lv_aload_n hx hb dX3_measure_8 rfl (lv_at hl 1 rfl) ?_
  refine lv_iload_n hx hb dX3_measure_9 rfl (lv_at hl 0 rfl) ?_
  refine g_v (wr := [(q4, .inl (g.2 0, 384, .inl f20))]) (rV (rest := []) hx hb hml hown hE hP hD 2 rfl rfl (c156_X3_measureOne l g q1 q5 (.ref q4) (upd (upd (upd f6 1 0) 4 1) 9 1) (((pk_un (by decide)).trans ((pk_un (by decide)).trans ((pk_un (by decide)).trans hf14)))) (((pk_un (by decide)).trans ((pk_un (by decide)).trans ((pk_un (by decide)).trans hf15)))) (((pk_un (by decide)).trans ((pk_un (by decide)).trans ((pk_un (by decide)).trans hf16)))) (((pk_un (by decide)).trans ((pk_un (by decide)).trans ((pk_un (by decide)).trans hf17)))) H.size) (kV_X3_measureOne hE (e698 hE) rfl rfl ⟨(Nat.le_of_ble_eq_true rfl), (Nat.le_of_ble_eq_true rfl)⟩) [1, 2] rfl (by decide) rfl hl.1 rfl (lv_room (Nat.le_of_ble_eq_true rfl)) dX3_measure_10 ⟨(Nat.le_of_ble_eq_true rfl), (Nat.le_of_ble_eq_true rfl)⟩) hP hD hS hA [1, 2] [0] rfl rfl (by decide) (by decide) (fun u5 H locs hP hD hS => ?_)
  have hP : va_P g.1 vwCl [(q4, .inl (g.2 0, 384, .inl f20)), (q5, .inl (g.2 0, 40, .inl (upd (upd (upd (upd f6 1 0) 4 1) 9 1) 14 1))), (q1, .inr (5, [.ref q4, .ref q5]))] H := hP
  have hD : va_D A [(q4, .inl (g.2 0, 384, .inl f20)), (q5, .inl (g.2 0, 40, .inl (upd (upd (upd (upd f6 1 0) 4 1) 9 1) 14 1))), (q1, .inr (5, [.ref q4, .ref q5]))] := hD
  refine lv_aload_n hx hb dX3_measure_13 rfl (lv_at hl 1 rfl) ?_
  refine lv_iload_n hx hb dX3_measure_14 rfl (lv_at hl 0 rfl) ?_
  refine lv_iconst (v := 1) hx hb dX3_measure_15 (by decide) ?_
  refine g_i (wr := [(q4, .inl (g.2 0, 384, .inl f20))]) (rV (rest := []) hx hb hml hown hE hP hD 2 rfl rfl (c157_X3_figure l g q1 q5 (.ref q4) (upd (upd (upd (upd f6 1 0) 4 1) 9 1) 14 1) (((pk_un (by decide)).trans ((pk_un (by decide)).trans ((pk_un (by decide)).trans ((pk_un (by decide)).trans hf15))))) H.size) (kV_X3_figure hE (e343 hE) rfl rfl ⟨(Nat.le_of_ble_eq_true rfl), (Nat.le_of_ble_eq_true rfl)⟩) [1, 2] rfl (by decide) rfl hl.1 rfl (lv_room (Nat.le_of_ble_eq_true rfl)) dX3_measure_16 ⟨(Nat.le_of_ble_eq_true rfl), (Nat.le_of_ble_eq_true rfl)⟩) hP hD hS hA [1, 2] [0] rfl rfl (by decide) (by decide) (fun u6 H locs hP hD hS => ?_)
  have hP : va_P g.1 vwCl [(q4, .inl (g.2 0, 384, .inl f20)), (q5, .inl (g.2 0, 40, .inl (upd (upd (upd (upd f6 1 0) 4 1) 9 1) 14 1))), (q1, .inr (5, [.ref q4, .ref q5]))] H := hP
  have hD : va_D A [(q4, .inl (g.2 0, 384, .inl f20)), (q5, .inl (g.2 0, 40, .inl (upd (upd (upd (upd f6 1 0) 4 1) 9 1) 14 1))), (q1, .inr (5, [.ref q4, .ref q5]))] := hD
  refine lv_sipush (v := 20000) hx hb dX3_measure_19 (by decide) ?_
  refine lv_icmp_le (tgt := 27) hx hb dX3_measure_22 (by decide) (fun _ => ?_) (fun h => absurd (by decide) h)
  refine lv_iinc (v := 3) (lv' := [(1, .int 3), (0, .ref q1)]) hx hb dX3_measure_27 hl (k := 0) rfl (by decide) (by decide) rfl (fun ls hl => ?_)
  refine lv_goto (tgt := 2) hx hb dX3_measure_30 (by decide) ?_
  refine lv_iload_n hx hb dX3_measure_2 rfl (lv_at hl 0 rfl) ?_
  refine lv_bipush (v := 8) hx hb dX3_measure_3 (by decide) ?_
  refine lv_icmp_ge (tgt := 33) hx hb dX3_measure_5 (by decide) (fun h => absurd h (by decide)) (fun _ => ?_)
  refine lv_aload_n hx hb dX3_measure_8 rfl (lv_at hl 1 rfl) ?_
  refine lv_iload_n hx hb dX3_measure_9 rfl (lv_at hl 0 rfl) ?_
  refine g_v (wr := []) (rV (rest := []) hx hb hml hown hE hP hD 2 rfl rfl (c797_X3_measureOne l g q1 q5 q4 x22 (upd (upd (upd (upd f6 1 0) 4 1) 9 1) 14 1) f20 (((pk_un (by decide)).trans ((pk_un (by decide)).trans ((pk_un (by decide)).trans ((pk_un (by decide)).trans hf18))))) (hf21) (hf25) (hf26) (((pk_un (by decide)).trans ((pk_un (by decide)).trans ((pk_un (by decide)).trans ((pk_un (by decide)).trans hf15))))) (((pk_un (by decide)).trans ((pk_un (by decide)).trans ((pk_un (by decide)).trans ((pk_un (by decide)).trans hf16))))) (((pk_un (by decide)).trans ((pk_un (by decide)).trans ((pk_un (by decide)).trans ((pk_un (by decide)).trans hf17))))) (pk_us) (((pk_un (by decide)).trans ((pk_un (by decide)).trans ((pk_un (by decide)).trans ((pk_un (by decide)).trans hf24))))) (((pk_un (by decide)).trans ((pk_un (by decide)).trans ((pk_un (by decide)).trans ((pk_un (by decide)).trans hf23))))) H.size) (kV_X3_measureOne hE (e698 hE) rfl rfl ⟨(Nat.le_of_ble_eq_true rfl), (Nat.le_of_ble_eq_true rfl)⟩) [0, 1, 2] rfl (by decide) rfl hl.1 rfl (lv_room (Nat.le_of_ble_eq_true rfl)) dX3_measure_10 ⟨(Nat.le_of_ble_eq_true rfl), (Nat.le_of_ble_eq_true rfl)⟩) hP hD hS hA [0, 1, 2] [] rfl rfl (by decide) (by decide) (fun u7 H locs hP hD hS => ?_)
  have hP : va_P g.1 vwCl [(q4, .inl (g.2 0, 384, .inl f20)), (q5, .inl (g.2 0, 40, .inl (upd (upd (upd (upd (upd (upd f6 1 0) 4 1) 9 1) 14 1) 18 4) 19 2))), (q1, .inr (5, [.ref q4, .ref q5]))] H := hP
  have hD : va_D A [(q4, .inl (g.2 0, 384, .inl f20)), (q5, .inl (g.2 0, 40, .inl (upd (upd (upd (upd (upd (upd f6 1 0) 4 1) 9 1) 14 1) 18 4) 19 2))), (q1, .inr (5, [.ref q4, .ref q5]))] := hD
  refine lv_aload_n hx hb dX3_measure_13 rfl (lv_at hl 1 rfl) ?_
  refine lv_iload_n hx hb dX3_measure_14 rfl (lv_at hl 0 rfl) ?_
  refine lv_iconst (v := 1) hx hb dX3_measure_15 (by decide) ?_
  refine g_i (wr := [(q4, .inl (g.2 0, 384, .inl f20))]) (rV (rest := []) hx hb hml hown hE hP hD 2 rfl rfl (c163_X3_figure l g q1 q5 (.ref q4) (upd (upd (upd (upd (upd (upd f6 1 0) 4 1) 9 1) 14 1) 18 4) 19 2) (((pk_un (by decide)).trans ((pk_un (by decide)).trans ((pk_un (by decide)).trans ((pk_un (by decide)).trans ((pk_un (by decide)).trans ((pk_un (by decide)).trans hf24))))))) H.size) (kV_X3_figure hE (e343 hE) rfl rfl ⟨(Nat.le_of_ble_eq_true rfl), (Nat.le_of_ble_eq_true rfl)⟩) [1, 2] rfl (by decide) rfl hl.1 rfl (lv_room (Nat.le_of_ble_eq_true rfl)) dX3_measure_16 ⟨(Nat.le_of_ble_eq_true rfl), (Nat.le_of_ble_eq_true rfl)⟩) hP hD hS hA [1, 2] [0] rfl rfl (by decide) (by decide) (fun u8 H locs hP hD hS => ?_)
  have hP : va_P g.1 vwCl [(q4, .inl (g.2 0, 384, .inl f20)), (q5, .inl (g.2 0, 40, .inl (upd (upd (upd (upd (upd (upd f6 1 0) 4 1) 9 1) 14 1) 18 4) 19 2))), (q1, .inr (5, [.ref q4, .ref q5]))] H := hP
  have hD : va_D A [(q4, .inl (g.2 0, 384, .inl f20)), (q5, .inl (g.2 0, 40, .inl (upd (upd (upd (upd (upd (upd f6 1 0) 4 1) 9 1) 14 1) 18 4) 19 2))), (q1, .inr (5, [.ref q4, .ref q5]))] := hD
  refine lv_sipush (v := 20000) hx hb dX3_measure_19 (by decide) ?_
  refine lv_icmp_le (tgt := 27) hx hb dX3_measure_22 (by decide) (fun _ => ?_) (fun h => absurd (by decide) h)
  refine lv_iinc (v := 4) (lv' := [(1, .int 4), (0, .ref q1)]) hx hb dX3_measure_27 hl (k := 0) rfl (by decide) (by decide) rfl (fun ls hl => ?_)
  refine lv_goto (tgt := 2) hx hb dX3_measure_30 (by decide) ?_
  refine lv_iload_n hx hb dX3_measure_2 rfl (lv_at hl 0 rfl) ?_
  refine lv_bipush (v := 8) hx hb dX3_measure_3 (by decide) ?_
  refine lv_icmp_ge (tgt := 33) hx hb dX3_measure_5 (by decide) (fun h => absurd h (by decide)) (fun _ => ?_)
  refine lv_aload_n hx hb dX3_measure_8 rfl (lv_at hl 1 rfl) ?_
  refine lv_iload_n hx hb dX3_measure_9 rfl (lv_at hl 0 rfl) ?_
  refine g_v (wr := [(q4, .inl (g.2 0, 384, .inl f20))]) (rV (rest := []) hx hb hml hown hE hP hD 2 rfl rfl (c168_X3_measureOne l g q1 q5 (.ref q4) (upd (upd (upd (upd (upd (upd f6 1 0) 4 1) 9 1) 14 1) 18 4) 19 2) (((pk_un (by decide)).trans ((pk_un (by decide)).trans ((pk_un (by decide)).trans ((pk_un (by decide)).trans ((pk_un (by decide)).trans ((pk_un (by decide)).trans hf27))))))) (((pk_un (by decide)).trans ((pk_un (by decide)).trans ((pk_un (by decide)).trans ((pk_un (by decide)).trans ((pk_un (by decide)).trans ((pk_un (by decide)).trans hf28))))))) (((pk_un (by decide)).trans ((pk_un (by decide)).trans ((pk_un (by decide)).trans ((pk_un (by decide)).trans ((pk_un (by decide)).trans ((pk_un (by decide)).trans hf29))))))) (((pk_un (by decide)).trans ((pk_un (by decide)).trans ((pk_un (by decide)).trans ((pk_un (by decide)).trans ((pk_un (by decide)).trans ((pk_un (by decide)).trans hf30))))))) H.size) (kV_X3_measureOne hE (e698 hE) rfl rfl ⟨(Nat.le_of_ble_eq_true rfl), (Nat.le_of_ble_eq_true rfl)⟩) [1, 2] rfl (by decide) rfl hl.1 rfl (lv_room (Nat.le_of_ble_eq_true rfl)) dX3_measure_10 ⟨(Nat.le_of_ble_eq_true rfl), (Nat.le_of_ble_eq_true rfl)⟩) hP hD hS hA [1, 2] [0] rfl rfl (by decide) (by decide) (fun u9 H locs hP hD hS => ?_)
  have hP : va_P g.1 vwCl [(q4, .inl (g.2 0, 384, .inl f20)), (q5, .inl (g.2 0, 40, .inl (upd (upd (upd (upd (upd (upd (upd f6 1 0) 4 1) 9 1) 14 1) 18 4) 19 2) 24 1))), (q1, .inr (5, [.ref q4, .ref q5]))] H := hP
  have hD : va_D A [(q4, .inl (g.2 0, 384, .inl f20)), (q5, .inl (g.2 0, 40, .inl (upd (upd (upd (upd (upd (upd (upd f6 1 0) 4 1) 9 1) 14 1) 18 4) 19 2) 24 1))), (q1, .inr (5, [.ref q4, .ref q5]))] := hD
  refine lv_aload_n hx hb dX3_measure_13 rfl (lv_at hl 1 rfl) ?_
  refine lv_iload_n hx hb dX3_measure_14 rfl (lv_at hl 0 rfl) ?_
  refine lv_iconst (v := 1) hx hb dX3_measure_15 (by decide) ?_
  refine g_i (wr := [(q4, .inl (g.2 0, 384, .inl f20))]) (rV (rest := []) hx hb hml hown hE hP hD 2 rfl rfl (c169_X3_figure l g q1 q5 (.ref q4) (upd (upd (upd (upd (upd (upd (upd f6 1 0) 4 1) 9 1) 14 1) 18 4) 19 2) 24 1) (((pk_un (by decide)).trans ((pk_un (by decide)).trans ((pk_un (by decide)).trans ((pk_un (by decide)).trans ((pk_un (by decide)).trans ((pk_un (by decide)).trans ((pk_un (by decide)).trans hf28)))))))) H.size) (kV_X3_figure hE (e343 hE) rfl rfl ⟨(Nat.le_of_ble_eq_true rfl), (Nat.le_of_ble_eq_true rfl)⟩) [1, 2] rfl (by decide) rfl hl.1 rfl (lv_room (Nat.le_of_ble_eq_true rfl)) dX3_measure_16 ⟨(Nat.le_of_ble_eq_true rfl), (Nat.le_of_ble_eq_true rfl)⟩) hP hD hS hA [1, 2] [0] rfl rfl (by decide) (by decide) (fun u10 H locs hP hD hS => ?_)
  have hP : va_P g.1 vwCl [(q4, .inl (g.2 0, 384, .inl f20)), (q5, .inl (g.2 0, 40, .inl (upd (upd (upd (upd (upd (upd (upd f6 1 0) 4 1) 9 1) 14 1) 18 4) 19 2) 24 1))), (q1, .inr (5, [.ref q4, .ref q5]))] H := hP
  have hD : va_D A [(q4, .inl (g.2 0, 384, .inl f20)), (q5, .inl (g.2 0, 40, .inl (upd (upd (upd (upd (upd (upd (upd f6 1 0) 4 1) 9 1) 14 1) 18 4) 19 2) 24 1))), (q1, .inr (5, [.ref q4, .ref q5]))] := hD
  refine lv_sipush (v := 20000) hx hb dX3_measure_19 (by decide) ?_
  refine lv_icmp_le (tgt := 27) hx hb dX3_measure_22 (by decide) (fun _ => ?_) (fun h => absurd (by decide) h)
  refine lv_iinc (v := 5) (lv' := [(1, .int 5), (0, .ref q1)]) hx hb dX3_measure_27 hl (k := 0) rfl (by decide) (by decide) rfl (fun ls hl => ?_)
  refine lv_goto (tgt := 2) hx hb dX3_measure_30 (by decide) ?_
  refine lv_iload_n hx hb dX3_measure_2 rfl (lv_at hl 0 rfl) ?_
  refine lv_bipush (v := 8) hx hb dX3_measure_3 (by decide) ?_
  refine lv_icmp_ge (tgt := 33) hx hb dX3_measure_5 (by decide) (fun h => absurd h (by decide)) (fun _ => ?_)
  refine lv_aload_n hx hb dX3_measure_8 rfl (lv_at hl 1 rfl) ?_
  refine lv_iload_n hx hb dX3_measure_9 rfl (lv_at hl 0 rfl) ?_
  refine g_v (wr := [(q4, .inl (g.2 0, 384, .inl f20))]) (rV (rest := []) hx hb hml hown hE hP hD 2 rfl rfl (c174_X3_measureOne l g q1 q5 (.ref q4) (upd (upd (upd (upd (upd (upd (upd f6 1 0) 4 1) 9 1) 14 1) 18 4) 19 2) 24 1) (((pk_un (by decide)).trans ((pk_un (by decide)).trans ((pk_un (by decide)).trans ((pk_un (by decide)).trans ((pk_un (by decide)).trans ((pk_un (by decide)).trans ((pk_un (by decide)).trans hf31)))))))) (((pk_un (by decide)).trans ((pk_un (by decide)).trans ((pk_un (by decide)).trans ((pk_un (by decide)).trans ((pk_un (by decide)).trans ((pk_un (by decide)).trans ((pk_un (by decide)).trans hf32)))))))) (((pk_un (by decide)).trans ((pk_un (by decide)).trans ((pk_un (by decide)).trans ((pk_un (by decide)).trans ((pk_un (by decide)).trans ((pk_un (by decide)).trans ((pk_un (by decide)).trans hf33)))))))) (((pk_un (by decide)).trans ((pk_un (by decide)).trans ((pk_un (by decide)).trans ((pk_un (by decide)).trans ((pk_un (by decide)).trans ((pk_un (by decide)).trans ((pk_un (by decide)).trans hf34)))))))) H.size) (kV_X3_measureOne hE (e698 hE) rfl rfl ⟨(Nat.le_of_ble_eq_true rfl), (Nat.le_of_ble_eq_true rfl)⟩) [1, 2] rfl (by decide) rfl hl.1 rfl (lv_room (Nat.le_of_ble_eq_true rfl)) dX3_measure_10 ⟨(Nat.le_of_ble_eq_true rfl), (Nat.le_of_ble_eq_true rfl)⟩) hP hD hS hA [1, 2] [0] rfl rfl (by decide) (by decide) (fun u11 H locs hP hD hS => ?_)
  have hP : va_P g.1 vwCl [(q4, .inl (g.2 0, 384, .inl f20)), (q5, .inl (g.2 0, 40, .inl (upd (upd (upd (upd (upd (upd (upd (upd f6 1 0) 4 1) 9 1) 14 1) 18 4) 19 2) 24 1) 29 1))), (q1, .inr (5, [.ref q4, .ref q5]))] H := hP
  have hD : va_D A [(q4, .inl (g.2 0, 384, .inl f20)), (q5, .inl (g.2 0, 40, .inl (upd (upd (upd (upd (upd (upd (upd (upd f6 1 0) 4 1) 9 1) 14 1) 18 4) 19 2) 24 1) 29 1))), (q1, .inr (5, [.ref q4, .ref q5]))] := hD
  refine lv_aload_n hx hb dX3_measure_13 rfl (lv_at hl 1 rfl) ?_
  refine lv_iload_n hx hb dX3_measure_14 rfl (lv_at hl 0 rfl) ?_
  refine lv_iconst (v := 1) hx hb dX3_measure_15 (by decide) ?_
  refine g_i (wr := [(q4, .inl (g.2 0, 384, .inl f20))]) (rV (rest := []) hx hb hml hown hE hP hD 2 rfl rfl (c175_X3_figure l g q1 q5 (.ref q4) (upd (upd (upd (upd (upd (upd (upd (upd f6 1 0) 4 1) 9 1) 14 1) 18 4) 19 2) 24 1) 29 1) (((pk_un (by decide)).trans ((pk_un (by decide)).trans ((pk_un (by decide)).trans ((pk_un (by decide)).trans ((pk_un (by decide)).trans ((pk_un (by decide)).trans ((pk_un (by decide)).trans ((pk_un (by decide)).trans hf32))))))))) H.size) (kV_X3_figure hE (e343 hE) rfl rfl ⟨(Nat.le_of_ble_eq_true rfl), (Nat.le_of_ble_eq_true rfl)⟩) [1, 2] rfl (by decide) rfl hl.1 rfl (lv_room (Nat.le_of_ble_eq_true rfl)) dX3_measure_16 ⟨(Nat.le_of_ble_eq_true rfl), (Nat.le_of_ble_eq_true rfl)⟩) hP hD hS hA [1, 2] [0] rfl rfl (by decide) (by decide) (fun u12 H locs hP hD hS => ?_)
  have hP : va_P g.1 vwCl [(q4, .inl (g.2 0, 384, .inl f20)), (q5, .inl (g.2 0, 40, .inl (upd (upd (upd (upd (upd (upd (upd (upd f6 1 0) 4 1) 9 1) 14 1) 18 4) 19 2) 24 1) 29 1))), (q1, .inr (5, [.ref q4, .ref q5]))] H := hP
  have hD : va_D A [(q4, .inl (g.2 0, 384, .inl f20)), (q5, .inl (g.2 0, 40, .inl (upd (upd (upd (upd (upd (upd (upd (upd f6 1 0) 4 1) 9 1) 14 1) 18 4) 19 2) 24 1) 29 1))), (q1, .inr (5, [.ref q4, .ref q5]))] := hD
  refine lv_sipush (v := 20000) hx hb dX3_measure_19 (by decide) ?_
  refine lv_icmp_le (tgt := 27) hx hb dX3_measure_22 (by decide) (fun _ => ?_) (fun h => absurd (by decide) h)
  refine lv_iinc (v := 6) (lv' := [(1, .int 6), (0, .ref q1)]) hx hb dX3_measure_27 hl (k := 0) rfl (by decide) (by decide) rfl (fun ls hl => ?_)
  refine lv_goto (tgt := 2) hx hb dX3_measure_30 (by decide) ?_
  refine lv_iload_n hx hb dX3_measure_2 rfl (lv_at hl 0 rfl) ?_
  refine lv_bipush (v := 8) hx hb dX3_measure_3 (by decide) ?_
  refine lv_icmp_ge (tgt := 33) hx hb dX3_measure_5 (by decide) (fun h => absurd h (by decide)) (fun _ => ?_)
  refine lv_aload_n hx hb dX3_measure_8 rfl (lv_at hl 1 rfl) ?_
  refine lv_iload_n hx hb dX3_measure_9 rfl (lv_at hl 0 rfl) ?_
  refine g_v (wr := [(q4, .inl (g.2 0, 384, .inl f20))]) (rV (rest := []) hx hb hml hown hE hP hD 2 rfl rfl (c180_X3_measureOne l g q1 q5 (.ref q4) (upd (upd (upd (upd (upd (upd (upd (upd f6 1 0) 4 1) 9 1) 14 1) 18 4) 19 2) 24 1) 29 1) (((pk_un (by decide)).trans ((pk_un (by decide)).trans ((pk_un (by decide)).trans ((pk_un (by decide)).trans ((pk_un (by decide)).trans ((pk_un (by decide)).trans ((pk_un (by decide)).trans ((pk_un (by decide)).trans hf35))))))))) (((pk_un (by decide)).trans ((pk_un (by decide)).trans ((pk_un (by decide)).trans ((pk_un (by decide)).trans ((pk_un (by decide)).trans ((pk_un (by decide)).trans ((pk_un (by decide)).trans ((pk_un (by decide)).trans hf36))))))))) (((pk_un (by decide)).trans ((pk_un (by decide)).trans ((pk_un (by decide)).trans ((pk_un (by decide)).trans ((pk_un (by decide)).trans ((pk_un (by decide)).trans ((pk_un (by decide)).trans ((pk_un (by decide)).trans hf37))))))))) (((pk_un (by decide)).trans ((pk_un (by decide)).trans ((pk_un (by decide)).trans ((pk_un (by decide)).trans ((pk_un (by decide)).trans ((pk_un (by decide)).trans ((pk_un (by decide)).trans ((pk_un (by decide)).trans hf38))))))))) H.size) (kV_X3_measureOne hE (e698 hE) rfl rfl ⟨(Nat.le_of_ble_eq_true rfl), (Nat.le_of_ble_eq_true rfl)⟩) [1, 2] rfl (by decide) rfl hl.1 rfl (lv_room (Nat.le_of_ble_eq_true rfl)) dX3_measure_10 ⟨(Nat.le_of_ble_eq_true rfl), (Nat.le_of_ble_eq_true rfl)⟩) hP hD hS hA [1, 2] [0] rfl rfl (by decide) (by decide) (fun u13 H locs hP hD hS => ?_)
  have hP : va_P g.1 vwCl [(q4, .inl (g.2 0, 384, .inl f20)), (q5, .inl (g.2 0, 40, .inl (upd (upd (upd (upd (upd (upd (upd (upd (upd f6 1 0) 4 1) 9 1) 14 1) 18 4) 19 2) 24 1) 29 1) 34 1))), (q1, .inr (5, [.ref q4, .ref q5]))] H := hP
  have hD : va_D A [(q4, .inl (g.2 0, 384, .inl f20)), (q5, .inl (g.2 0, 40, .inl (upd (upd (upd (upd (upd (upd (upd (upd (upd f6 1 0) 4 1) 9 1) 14 1) 18 4) 19 2) 24 1) 29 1) 34 1))), (q1, .inr (5, [.ref q4, .ref q5]))] := hD
  refine lv_aload_n hx hb dX3_measure_13 rfl (lv_at hl 1 rfl) ?_
  refine lv_iload_n hx hb dX3_measure_14 rfl (lv_at hl 0 rfl) ?_
  refine lv_iconst (v := 1) hx hb dX3_measure_15 (by decide) ?_
  refine g_i (wr := [(q4, .inl (g.2 0, 384, .inl f20))]) (rV (rest := []) hx hb hml hown hE hP hD 2 rfl rfl (c181_X3_figure l g q1 q5 (.ref q4) (upd (upd (upd (upd (upd (upd (upd (upd (upd f6 1 0) 4 1) 9 1) 14 1) 18 4) 19 2) 24 1) 29 1) 34 1) (((pk_un (by decide)).trans ((pk_un (by decide)).trans ((pk_un (by decide)).trans ((pk_un (by decide)).trans ((pk_un (by decide)).trans ((pk_un (by decide)).trans ((pk_un (by decide)).trans ((pk_un (by decide)).trans ((pk_un (by decide)).trans hf36)))))))))) H.size) (kV_X3_figure hE (e343 hE) rfl rfl ⟨(Nat.le_of_ble_eq_true rfl), (Nat.le_of_ble_eq_true rfl)⟩) [1, 2] rfl (by decide) rfl hl.1 rfl (lv_room (Nat.le_of_ble_eq_true rfl)) dX3_measure_16 ⟨(Nat.le_of_ble_eq_true rfl), (Nat.le_of_ble_eq_true rfl)⟩) hP hD hS hA [1, 2] [0] rfl rfl (by decide) (by decide) (fun u14 H locs hP hD hS => ?_)
  have hP : va_P g.1 vwCl [(q4, .inl (g.2 0, 384, .inl f20)), (q5, .inl (g.2 0, 40, .inl (upd (upd (upd (upd (upd (upd (upd (upd (upd f6 1 0) 4 1) 9 1) 14 1) 18 4) 19 2) 24 1) 29 1) 34 1))), (q1, .inr (5, [.ref q4, .ref q5]))] H := hP
  have hD : va_D A [(q4, .inl (g.2 0, 384, .inl f20)), (q5, .inl (g.2 0, 40, .inl (upd (upd (upd (upd (upd (upd (upd (upd (upd f6 1 0) 4 1) 9 1) 14 1) 18 4) 19 2) 24 1) 29 1) 34 1))), (q1, .inr (5, [.ref q4, .ref q5]))] := hD
  refine lv_sipush (v := 20000) hx hb dX3_measure_19 (by decide) ?_
  refine lv_icmp_le (tgt := 27) hx hb dX3_measure_22 (by decide) (fun _ => ?_) (fun h => absurd (by decide) h)
  refine lv_iinc (v := 7) (lv' := [(1, .int 7), (0, .ref q1)]) hx hb dX3_measure_27 hl (k := 0) rfl (by decide) (by decide) rfl (fun ls hl => ?_)
  refine lv_goto (tgt := 2) hx hb dX3_measure_30 (by decide) ?_
  refine lv_iload_n hx hb dX3_measure_2 rfl (lv_at hl 0 rfl) ?_
  refine lv_bipush (v := 8) hx hb dX3_measure_3 (by decide) ?_
  refine lv_icmp_ge (tgt := 33) hx hb dX3_measure_5 (by decide) (fun h => absurd h (by decide)) (fun _ => ?_)
  refine lv_aload_n hx hb dX3_measure_8 rfl (lv_at hl 1 rfl) ?_
  refine lv_iload_n hx hb dX3_measure_9 rfl (lv_at hl 0 rfl) ?_
  refine g_v (wr := [(q4, .inl (g.2 0, 384, .inl f20))]) (rV (rest := []) hx hb hml hown hE hP hD 2 rfl rfl (c186_X3_measureOne l g q1 q5 (.ref q4) (upd (upd (upd (upd (upd (upd (upd (upd (upd f6 1 0) 4 1) 9 1) 14 1) 18 4) 19 2) 24 1) 29 1) 34 1) (((pk_un (by decide)).trans ((pk_un (by decide)).trans ((pk_un (by decide)).trans ((pk_un (by decide)).trans ((pk_un (by decide)).trans ((pk_un (by decide)).trans ((pk_un (by decide)).trans ((pk_un (by decide)).trans ((pk_un (by decide)).trans hf39)))))))))) (((pk_un (by decide)).trans ((pk_un (by decide)).trans ((pk_un (by decide)).trans ((pk_un (by decide)).trans ((pk_un (by decide)).trans ((pk_un (by decide)).trans ((pk_un (by decide)).trans ((pk_un (by decide)).trans ((pk_un (by decide)).trans hf40)))))))))) (((pk_un (by decide)).trans ((pk_un (by decide)).trans ((pk_un (by decide)).trans ((pk_un (by decide)).trans ((pk_un (by decide)).trans ((pk_un (by decide)).trans ((pk_un (by decide)).trans ((pk_un (by decide)).trans ((pk_un (by decide)).trans hf41)))))))))) (((pk_un (by decide)).trans ((pk_un (by decide)).trans ((pk_un (by decide)).trans ((pk_un (by decide)).trans ((pk_un (by decide)).trans ((pk_un (by decide)).trans ((pk_un (by decide)).trans ((pk_un (by decide)).trans ((pk_un (by decide)).trans hf42)))))))))) H.size) (kV_X3_measureOne hE (e698 hE) rfl rfl ⟨(Nat.le_of_ble_eq_true rfl), (Nat.le_of_ble_eq_true rfl)⟩) [1, 2] rfl (by decide) rfl hl.1 rfl (lv_room (Nat.le_of_ble_eq_true rfl)) dX3_measure_10 ⟨(Nat.le_of_ble_eq_true rfl), (Nat.le_of_ble_eq_true rfl)⟩) hP hD hS hA [1, 2] [0] rfl rfl (by decide) (by decide) (fun u15 H locs hP hD hS => ?_)
  have hP : va_P g.1 vwCl [(q4, .inl (g.2 0, 384, .inl f20)), (q5, .inl (g.2 0, 40, .inl (upd (upd (upd (upd (upd (upd (upd (upd (upd (upd f6 1 0) 4 1) 9 1) 14 1) 18 4) 19 2) 24 1) 29 1) 34 1) 39 1))), (q1, .inr (5, [.ref q4, .ref q5]))] H := hP
  have hD : va_D A [(q4, .inl (g.2 0, 384, .inl f20)), (q5, .inl (g.2 0, 40, .inl (upd (upd (upd (upd (upd (upd (upd (upd (upd (upd f6 1 0) 4 1) 9 1) 14 1) 18 4) 19 2) 24 1) 29 1) 34 1) 39 1))), (q1, .inr (5, [.ref q4, .ref q5]))] := hD
  refine lv_aload_n hx hb dX3_measure_13 rfl (lv_at hl 1 rfl) ?_
  refine lv_iload_n hx hb dX3_measure_14 rfl (lv_at hl 0 rfl) ?_
  refine lv_iconst (v := 1) hx hb dX3_measure_15 (by decide) ?_
  refine g_i (wr := [(q4, .inl (g.2 0, 384, .inl f20))]) (rV (rest := []) hx hb hml hown hE hP hD 2 rfl rfl (c187_X3_figure l g q1 q5 (.ref q4) (upd (upd (upd (upd (upd (upd (upd (upd (upd (upd f6 1 0) 4 1) 9 1) 14 1) 18 4) 19 2) 24 1) 29 1) 34 1) 39 1) (((pk_un (by decide)).trans ((pk_un (by decide)).trans ((pk_un (by decide)).trans ((pk_un (by decide)).trans ((pk_un (by decide)).trans ((pk_un (by decide)).trans ((pk_un (by decide)).trans ((pk_un (by decide)).trans ((pk_un (by decide)).trans ((pk_un (by decide)).trans hf40))))))))))) H.size) (kV_X3_figure hE (e343 hE) rfl rfl ⟨(Nat.le_of_ble_eq_true rfl), (Nat.le_of_ble_eq_true rfl)⟩) [1, 2] rfl (by decide) rfl hl.1 rfl (lv_room (Nat.le_of_ble_eq_true rfl)) dX3_measure_16 ⟨(Nat.le_of_ble_eq_true rfl), (Nat.le_of_ble_eq_true rfl)⟩) hP hD hS hA [1, 2] [0] rfl rfl (by decide) (by decide) (fun u16 H locs hP hD hS => ?_)
  have hP : va_P g.1 vwCl [(q4, .inl (g.2 0, 384, .inl f20)), (q5, .inl (g.2 0, 40, .inl (upd (upd (upd (upd (upd (upd (upd (upd (upd (upd f6 1 0) 4 1) 9 1) 14 1) 18 4) 19 2) 24 1) 29 1) 34 1) 39 1))), (q1, .inr (5, [.ref q4, .ref q5]))] H := hP
  have hD : va_D A [(q4, .inl (g.2 0, 384, .inl f20)), (q5, .inl (g.2 0, 40, .inl (upd (upd (upd (upd (upd (upd (upd (upd (upd (upd f6 1 0) 4 1) 9 1) 14 1) 18 4) 19 2) 24 1) 29 1) 34 1) 39 1))), (q1, .inr (5, [.ref q4, .ref q5]))] := hD
  refine lv_sipush (v := 20000) hx hb dX3_measure_19 (by decide) ?_
  refine lv_icmp_le (tgt := 27) hx hb dX3_measure_22 (by decide) (fun _ => ?_) (fun h => absurd (by decide) h)
  refine lv_iinc (v := 8) (lv' := [(1, .int 8), (0, .ref q1)]) hx hb dX3_measure_27 hl (k := 0) rfl (by decide) (by decide) rfl (fun ls hl => ?_)
  refine lv_goto (tgt := 2) hx hb dX3_measure_30 (by decide) ?_
  refine lv_iload_n hx hb dX3_measure_2 rfl (lv_at hl 0 rfl) ?_
  refine lv_bipush (v := 8) hx hb dX3_measure_3 (by decide) ?_
  refine lv_icmp_ge (tgt := 33) hx hb dX3_measure_5 (by decide) (fun _ => ?_) (fun h => absurd (by decide) h)
  refine lv_iconst (v := 1) hx hb dX3_measure_33 (by decide) ?_
  exact x_zret hx hb hr rfl rfl hlocks hP hD hS hAe hsz (Nat.le_of_ble_eq_true rfl) (Nat.le_of_ble_eq_true rfl) (fun _ => 0) [0, 1, 2] (by decide) rfl dX3_measure_34

set_option maxHeartbeats 4000000 in
set_option maxRecDepth 100000 in
theorem c799_X9_acceptIfFitting (l : Launch) (g : gG) (q1 q2 q10 q13 q14 q63 : Nat) (x47 : Int32) (w4 w5 w6 w8 w9 w53 w54 w55 w56 w57 w58 w59 w60 w61 w62 w64 : Value) (f15 : Nat → Int32) (f45 : Nat → Int32) (hf16 : f15 0 = 0) (hf17 : f15 2 = 0) (hf18 : f15 3 = 0) (hf19 : f15 5 = 0) (hf20 : f15 6 = 0) (hf21 : f15 7 = 0) (hf22 : f15 8 = 0) (hf23 : f15 10 = 0) (hf24 : f15 11 = 0) (hf25 : f15 12 = 0) (hf26 : f15 13 = 0) (hf27 : f15 15 = 1) (hf28 : f15 18 = 0) (hf29 : f15 20 = 0) (hf30 : f15 21 = 0) (hf31 : f15 22 = 0) (hf32 : f15 23 = 0) (hf33 : f15 25 = 0) (hf34 : f15 26 = 0) (hf35 : f15 27 = 0) (hf36 : f15 28 = 0) (hf37 : f15 30 = 0) (hf38 : f15 31 = 0) (hf39 : f15 32 = 0) (hf40 : f15 33 = 0) (hf41 : f15 35 = 0) (hf42 : f15 36 = 0) (hf43 : f15 37 = 0) (hf44 : f15 38 = 0) (hf46 : f45 146 = x47) (hf48 : f15 17 = 0) (hf49 : f15 16 = 0) (hf50 : f45 144 = 2) (hf51 : f45 145 = 2) (sz : Nat) : Met l yX9_acceptIfFitting [Cond.code yX9_acceptIfFitting cX9_acceptIfFitting 2 none] ({ frames := 4, cells := 0, slots := 0, locals := 96 } : Room) (va_Pc [.ref q1, .ref q2] (PX g sz [(q63, .inr (10, [w64, .int 0, .int 0])), (q1, .inr (11, [.ref q63, w53, w54, w55, w56, w57, w58, w59, w60, w61, w62])), (q13, .inl (g.2 0, 384, .inl f45)), (q14, .inl (g.2 0, 40, .inl f15)), (q10, .inr (5, [.ref q13, .ref q14])), (q2, .inr (8, [.ref q10, w4, w5, w6, .int 0, w8, w9]))])) (QV g [(q63, .inr (10, [w64, .int 0, .int 0])), (q1, .inr (11, [.ref q63, w53, w54, w55, w56, w57, w58, w59, w60, w61, w62])), (q13, .inl (g.2 0, 384, .inl f45)), (q14, .inl (g.2 0, 40, .inl f15)), (q10, .inr (5, [.ref q13, .ref q14])), (q2, .inr (8, [.ref q10, w4, w5, w6, .int 0, w8, w9]))] sz (fun _ => [(q13, .inl (g.2 0, 384, .inl f45)), (q14, .inl (g.2 0, 40, .inl (upd (upd (upd (upd (upd (upd (upd (upd (upd (upd f15 1 0) 4 1) 9 1) 14 1) 18 4) 19 2) 24 1) 29 1) 34 1) 39 1))), (q10, .inr (5, [.ref q13, .ref q14])), (q2, .inr (8, [.ref q10, w4, w5, w6, .int 0, w8, w9])), (q63, .inr (10, [w64, .int 1, .int 1])), (q1, .inr (11, [.ref q63, w53, w54, w55, w56, w57, w58, w59, .int 0, .int 0, w62]))])) 0 0 (va_A [(q63, .inr (10, [w64, .int 0, .int 0])), (q1, .inr (11, [.ref q63, w53, w54, w55, w56, w57, w58, w59, w60, w61, w62])), (q13, .inl (g.2 0, 384, .inl f45)), (q14, .inl (g.2 0, 40, .inl f15)), (q10, .inr (5, [.ref q13, .ref q14])), (q2, .inr (8, [.ref q10, w4, w5, w6, .int 0, w8, w9]))] sz) := by
  refine ofN (by decide) (Nat.le_of_ble_eq_true rfl) rfl ?_
  intro p e s m args below meth c A ls hAe hsz hx hb hml hr hlocks hin hown hE hP hD hA hS hl
  have hown : s.vm.findClass RX9 = some m.cls := hown
  refine lv_aload_n hx hb dX9_acceptIfFitting_0 rfl (lv_at hl 1 rfl) ?_
  refine gf_RX9_108 hx hb hown hE hP 5 rfl rfl dX9_acceptIfFitting_1 ?_
  refine g_i (wr := [(q63, .inr (10, [w64, .int 0, .int 0])), (q1, .inr (11, [.ref q63, w53, w54, w55, w56, w57, w58, w59, w60, w61, w62])), (q2, .inr (8, [.ref q10, w4, w5, w6, .int 0, w8, w9]))]) (rV (rest := []) hx hb hml hown hE hP hD 4 rfl rfl (c798_X3_measure l g q10 q13 q14 x47 f15 f45 (hf16) (hf17) (hf18) (hf19) (hf20) (hf21) (hf22) (hf23) (hf24) (hf25) (hf26) (hf27) (hf28) (hf46) (hf48) (hf49) (hf50) (hf51) (hf29) (hf30) (hf31) (hf32) (hf33) (hf34) (hf35) (hf36) (hf37) (hf38) (hf39) (hf40) (hf41) (hf42) (hf43) (hf44) s.heap.size) (kV_X3_measure hE (e694 hE) rfl rfl ⟨(Nat.le_of_ble_eq_true rfl), (Nat.le_of_ble_eq_true rfl)⟩) [2, 3, 4] rfl (by decide) rfl hl.1 rfl (lv_room (Nat.le_of_ble_eq_true rfl)) dX9_acceptIfFitting_4 ⟨(Nat.le_of_ble_eq_true rfl), (Nat.le_of_ble_eq_true rfl)⟩) hP hD hS hA [2, 3, 4] [0, 1, 5] rfl rfl (by decide) (by decide) (fun u1 H locs hP hD hS => ?_)
  have hP : va_P g.1 vwCl [(q63, .inr (10, [w64, .int 0, .int 0])), (q1, .inr (11, [.ref q63, w53, w54, w55, w56, w57, w58, w59, w60, w61, w62])), (q2, .inr (8, [.ref q10, w4, w5, w6, .int 0, w8, w9])), (q13, .inl (g.2 0, 384, .inl f45)), (q14, .inl (g.2 0, 40, .inl (upd (upd (upd (upd (upd (upd (upd (upd (upd (upd f15 1 0) 4 1) 9 1) 14 1) 18 4) 19 2) 24 1) 29 1) 34 1) 39 1))), (q10, .inr (5, [.ref q13, .ref q14]))] H := hP
  have hD : va_D A [(q63, .inr (10, [w64, .int 0, .int 0])), (q1, .inr (11, [.ref q63, w53, w54, w55, w56, w57, w58, w59, w60, w61, w62])), (q2, .inr (8, [.ref q10, w4, w5, w6, .int 0, w8, w9])), (q13, .inl (g.2 0, 384, .inl f45)), (q14, .inl (g.2 0, 40, .inl (upd (upd (upd (upd (upd (upd (upd (upd (upd (upd f15 1 0) 4 1) 9 1) 14 1) 18 4) 19 2) 24 1) 29 1) 34 1) 39 1))), (q10, .inr (5, [.ref q13, .ref q14]))] := hD
  refine lv_if_eq (tgt := 17) hx hb dX9_acceptIfFitting_7 (by decide) (fun h => absurd h (by decide)) (fun _ => ?_)
  refine lv_aload_n hx hb dX9_acceptIfFitting_10 rfl (lv_at hl 1 rfl) ?_
  refine g_i (wr := [(q63, .inr (10, [w64, .int 0, .int 0])), (q1, .inr (11, [.ref q63, w53, w54, w55, w56, w57, w58, w59, w60, w61, w62])), (q13, .inl (g.2 0, 384, .inl f45)), (q14, .inl (g.2 0, 40, .inl (upd (upd (upd (upd (upd (upd (upd (upd (upd (upd f15 1 0) 4 1) 9 1) 14 1) 18 4) 19 2) 24 1) 29 1) 34 1) 39 1))), (q10, .inr (5, [.ref q13, .ref q14]))]) (rV (rest := []) hx hb hml hown hE hP hD 2 rfl rfl (c189_X6_hasFittingClips l g q2 (.ref q10) w4 w5 w6 w8 w9 H.size) (kV_X6_hasFittingClips hE (e703 hE) rfl rfl ⟨(Nat.le_of_ble_eq_true rfl), (Nat.le_of_ble_eq_true rfl)⟩) [2] rfl (by decide) rfl hl.1 rfl (lv_room (Nat.le_of_ble_eq_true rfl)) dX9_acceptIfFitting_11 ⟨(Nat.le_of_ble_eq_true rfl), (Nat.le_of_ble_eq_true rfl)⟩) hP hD hS hA [2] [0, 1, 3, 4, 5] rfl rfl (by decide) (by decide) (fun u2 H locs hP hD hS => ?_)
  have hP : va_P g.1 vwCl [(q63, .inr (10, [w64, .int 0, .int 0])), (q1, .inr (11, [.ref q63, w53, w54, w55, w56, w57, w58, w59, w60, w61, w62])), (q13, .inl (g.2 0, 384, .inl f45)), (q14, .inl (g.2 0, 40, .inl (upd (upd (upd (upd (upd (upd (upd (upd (upd (upd f15 1 0) 4 1) 9 1) 14 1) 18 4) 19 2) 24 1) 29 1) 34 1) 39 1))), (q10, .inr (5, [.ref q13, .ref q14])), (q2, .inr (8, [.ref q10, w4, w5, w6, .int 0, w8, w9]))] H := hP
  have hD : va_D A [(q63, .inr (10, [w64, .int 0, .int 0])), (q1, .inr (11, [.ref q63, w53, w54, w55, w56, w57, w58, w59, w60, w61, w62])), (q13, .inl (g.2 0, 384, .inl f45)), (q14, .inl (g.2 0, 40, .inl (upd (upd (upd (upd (upd (upd (upd (upd (upd (upd f15 1 0) 4 1) 9 1) 14 1) 18 4) 19 2) 24 1) 29 1) 34 1) 39 1))), (q10, .inr (5, [.ref q13, .ref q14])), (q2, .inr (8, [.ref q10, w4, w5, w6, .int 0, w8, w9]))] := hD
  refine lv_if_ne (tgt := 28) hx hb dX9_acceptIfFitting_14 (by decide) (fun _ => ?_) (fun h => absurd h (by decide))
  refine lv_aload_n hx hb dX9_acceptIfFitting_28 rfl (lv_at hl 0 rfl) ?_
  refine g_v (wr := [(q13, .inl (g.2 0, 384, .inl f45)), (q14, .inl (g.2 0, 40, .inl (upd (upd (upd (upd (upd (upd (upd (upd (upd (upd f15 1 0) 4 1) 9 1) 14 1) 18 4) 19 2) 24 1) 29 1) 34 1) 39 1))), (q10, .inr (5, [.ref q13, .ref q14])), (q2, .inr (8, [.ref q10, w4, w5, w6, .int 0, w8, w9]))]) (rV (rest := []) hx hb hml hown hE hP hD 1 rfl rfl (c191_X9_accept l g q1 q63 w53 w54 w55 w56 w57 w58 w59 w60 w61 w62 w64 H.size) (kV_X9_accept hE (e718 hE) rfl rfl ⟨(Nat.le_of_ble_eq_true rfl), (Nat.le_of_ble_eq_true rfl)⟩) [0, 1] rfl (by decide) rfl hl.1 rfl (lv_room (Nat.le_of_ble_eq_true rfl)) dX9_acceptIfFitting_29 ⟨(Nat.le_of_ble_eq_true rfl), (Nat.le_of_ble_eq_true rfl)⟩) hP hD hS hA [0, 1] [2, 3, 4, 5] rfl rfl (by decide) (by decide) (fun u3 H locs hP hD hS => ?_)
  have hP : va_P g.1 vwCl [(q13, .inl (g.2 0, 384, .inl f45)), (q14, .inl (g.2 0, 40, .inl (upd (upd (upd (upd (upd (upd (upd (upd (upd (upd f15 1 0) 4 1) 9 1) 14 1) 18 4) 19 2) 24 1) 29 1) 34 1) 39 1))), (q10, .inr (5, [.ref q13, .ref q14])), (q2, .inr (8, [.ref q10, w4, w5, w6, .int 0, w8, w9])), (q63, .inr (10, [w64, .int 1, .int 1])), (q1, .inr (11, [.ref q63, w53, w54, w55, w56, w57, w58, w59, .int 0, .int 0, w62]))] H := hP
  have hD : va_D A [(q13, .inl (g.2 0, 384, .inl f45)), (q14, .inl (g.2 0, 40, .inl (upd (upd (upd (upd (upd (upd (upd (upd (upd (upd f15 1 0) 4 1) 9 1) 14 1) 18 4) 19 2) 24 1) 29 1) 34 1) 39 1))), (q10, .inr (5, [.ref q13, .ref q14])), (q2, .inr (8, [.ref q10, w4, w5, w6, .int 0, w8, w9])), (q63, .inr (10, [w64, .int 1, .int 1])), (q1, .inr (11, [.ref q63, w53, w54, w55, w56, w57, w58, w59, .int 0, .int 0, w62]))] := hD
  exact x_vret hx hb hr hlocks hP hD hS hAe hsz (Nat.le_of_ble_eq_true rfl) (Nat.le_of_ble_eq_true rfl) (fun _ => 0) [0, 1, 2, 3, 4, 5] (by decide) rfl dX9_acceptIfFitting_32

set_option maxHeartbeats 4000000 in
set_option maxRecDepth 100000 in
theorem c800_X9_addOneItem (l : Launch) (g : gG) (q1 q14 q18 q21 q23 q31 q32 q33 q34 q42 q43 q44 q45 q48 q49 q52 q53 q60 q61 q66 q67 : Nat) (x2 : Int32) (w4 w5 w6 w7 w8 w9 w10 w11 w12 w13 w28 w29 w30 w64 w65 : Value) (f19 : Nat → Option Nat) (f54 : Nat → Int32) (f55 : Nat → Int32) (f68 : Nat → Int32) (f69 : Nat → Int32) (hf20 : f19 1 = some q21) (hf22 : f19 0 = some q23) (hf70 : f55 15 = 0) (hf71 : f55 0 = 0) (hf72 : f55 2 = 0) (hf73 : f55 3 = 0) (hf74 : f55 5 = 0) (hf75 : f55 6 = 0) (hf76 : f55 7 = 0) (hf77 : f55 8 = 0) (hf78 : f55 10 = 0) (hf79 : f55 11 = 0) (hf80 : f55 12 = 0) (hf81 : f55 13 = 0) (hf82 : f55 18 = 0) (hf83 : f55 20 = 0) (hf84 : f55 21 = 0) (hf85 : f55 22 = 0) (hf86 : f55 23 = 0) (hf87 : f55 25 = 0) (hf88 : f55 26 = 0) (hf89 : f55 27 = 0) (hf90 : f55 28 = 0) (hf91 : f55 30 = 0) (hf92 : f55 31 = 0) (hf93 : f55 32 = 0) (hf94 : f55 33 = 0) (hf95 : f55 35 = 0) (hf96 : f55 36 = 0) (hf97 : f55 37 = 0) (hf98 : f55 38 = 0) (hf99 : f55 17 = 0) (hf100 : f55 16 = 0) (sz : Nat) : Met l yX9_addOneItem [Cond.code yX9_addOneItem cX9_addOneItem 7 (some .int)] ({ frames := 5, cells := 0, slots := 0, locals := 148 } : Room) (va_Pc [.ref q1, .int 3, .int 2, .int 2, .int x2, .int (-1)] (PX g sz [(q34, .inl (g.2 0, 20, .inl f69)), (q45, .inl (g.2 0, 20, .inl f69)), (q33, .inl (g.2 0, 60, .inl f54)), (q44, .inl (g.2 0, 60, .inl f54)), (q67, .inl (g.2 0, 10, .inl f68)), (q61, .inl (g.2 0, 10, .inl f68)), (q66, .inl (g.2 0, 10, .inl f54)), (q60, .inl (g.2 0, 10, .inl f54)), (q32, .inr (9, [.ref q66, .ref q67, w64, w65])), (q43, .inr (9, [.ref q60, .ref q61, .int 1, .int 0])), (q53, .inl (g.2 0, 40, .inl f55)), (q49, .inl (g.2 0, 40, .inl f55)), (q52, .inl (g.2 0, 384, .inl f54)), (q48, .inl (g.2 0, 384, .inl f54)), (q31, .inr (5, [.ref q52, .ref q53])), (q42, .inr (5, [.ref q48, .ref q49])), (q23, .inr (8, [.ref q42, .ref q43, .ref q44, .ref q45, .int 0, .int 4, .int 0])), (q21, .inr (8, [.ref q31, .ref q32, .ref q33, .ref q34, w28, w29, w30])), (q18, .inl (g.2 3, 10, .inr (.inr (.inr (.inr f19))))), (q14, .inr (10, [.ref q18, .int 0, .int 0])), (q1, .inr (11, [.ref q14, w4, w5, w6, w7, w8, w9, w10, w11, w12, w13]))])) (QI g [(q34, .inl (g.2 0, 20, .inl f69)), (q45, .inl (g.2 0, 20, .inl f69)), (q33, .inl (g.2 0, 60, .inl f54)), (q44, .inl (g.2 0, 60, .inl f54)), (q67, .inl (g.2 0, 10, .inl f68)), (q61, .inl (g.2 0, 10, .inl f68)), (q66, .inl (g.2 0, 10, .inl f54)), (q60, .inl (g.2 0, 10, .inl f54)), (q32, .inr (9, [.ref q66, .ref q67, w64, w65])), (q43, .inr (9, [.ref q60, .ref q61, .int 1, .int 0])), (q53, .inl (g.2 0, 40, .inl f55)), (q49, .inl (g.2 0, 40, .inl f55)), (q52, .inl (g.2 0, 384, .inl f54)), (q48, .inl (g.2 0, 384, .inl f54)), (q31, .inr (5, [.ref q52, .ref q53])), (q42, .inr (5, [.ref q48, .ref q49])), (q23, .inr (8, [.ref q42, .ref q43, .ref q44, .ref q45, .int 0, .int 4, .int 0])), (q21, .inr (8, [.ref q31, .ref q32, .ref q33, .ref q34, w28, w29, w30])), (q18, .inl (g.2 3, 10, .inr (.inr (.inr (.inr f19))))), (q14, .inr (10, [.ref q18, .int 0, .int 0])), (q1, .inr (11, [.ref q14, w4, w5, w6, w7, w8, w9, w10, w11, w12, w13]))] sz 1 (fun _ => [(q18, .inl (g.2 3, 10, .inr (.inr (.inr (.inr f19))))), (q23, .inr (8, [.ref q42, .ref q43, .ref q44, .ref q45, .int 0, .int 4, .int 0])), (q42, .inr (5, [.ref q48, .ref q49])), (q48, .inl (g.2 0, 384, .inl f54)), (q49, .inl (g.2 0, 40, .inl f55)), (q32, .inr (9, [.ref q66, .ref q67, .int 1, .int 0])), (q43, .inr (9, [.ref q60, .ref q61, .int 1, .int 0])), (q66, .inl (g.2 0, 10, .inl f54)), (q60, .inl (g.2 0, 10, .inl f54)), (q67, .inl (g.2 0, 10, .inl f68)), (q61, .inl (g.2 0, 10, .inl f68)), (q33, .inl (g.2 0, 60, .inl f54)), (q44, .inl (g.2 0, 60, .inl f54)), (q34, .inl (g.2 0, 20, .inl f69)), (q45, .inl (g.2 0, 20, .inl f69)), (q52, .inl (g.2 0, 384, .inl (upd (upd (upd (upd f54 144 2) 145 2) 146 x2) 147 (-1)))), (q21, .inr (8, [.ref q31, .ref q32, .ref q33, .ref q34, .int 0, .int 4, .int 0])), (q14, .inr (10, [.ref q18, .int 1, .int 1])), (q1, .inr (11, [.ref q14, w4, w5, w6, w7, w8, w9, w10, .int 0, .int 0, w13])), (q53, .inl (g.2 0, 40, .inl (upd (upd (upd (upd (upd (upd (upd (upd (upd (upd (upd f55 15 1) 1 0) 4 1) 9 1) 14 1) 18 4) 19 2) 24 1) 29 1) 34 1) 39 1))), (q31, .inr (5, [.ref q52, .ref q53]))])) 0 0 (va_A [(q34, .inl (g.2 0, 20, .inl f69)), (q45, .inl (g.2 0, 20, .inl f69)), (q33, .inl (g.2 0, 60, .inl f54)), (q44, .inl (g.2 0, 60, .inl f54)), (q67, .inl (g.2 0, 10, .inl f68)), (q61, .inl (g.2 0, 10, .inl f68)), (q66, .inl (g.2 0, 10, .inl f54)), (q60, .inl (g.2 0, 10, .inl f54)), (q32, .inr (9, [.ref q66, .ref q67, w64, w65])), (q43, .inr (9, [.ref q60, .ref q61, .int 1, .int 0])), (q53, .inl (g.2 0, 40, .inl f55)), (q49, .inl (g.2 0, 40, .inl f55)), (q52, .inl (g.2 0, 384, .inl f54)), (q48, .inl (g.2 0, 384, .inl f54)), (q31, .inr (5, [.ref q52, .ref q53])), (q42, .inr (5, [.ref q48, .ref q49])), (q23, .inr (8, [.ref q42, .ref q43, .ref q44, .ref q45, .int 0, .int 4, .int 0])), (q21, .inr (8, [.ref q31, .ref q32, .ref q33, .ref q34, w28, w29, w30])), (q18, .inl (g.2 3, 10, .inr (.inr (.inr (.inr f19))))), (q14, .inr (10, [.ref q18, .int 0, .int 0])), (q1, .inr (11, [.ref q14, w4, w5, w6, w7, w8, w9, w10, w11, w12, w13]))] sz) := by
  refine ofN (by decide) (Nat.le_of_ble_eq_true rfl) rfl ?_
  intro p e s m args below meth c A ls hAe hsz hx hb hml hr hlocks hin hown hE hP hD hA hS hl
  have hown : s.vm.findClass RX9 = some m.cls := hown
  refine lv_aload_n hx hb dX9_addOneItem_0 rfl (lv_at hl 0 rfl) ?_
  refine gf_RX9_12 hx hb hown hE hP 20 rfl rfl dX9_addOneItem_1 ?_
  refine g_r (wr := [(q1, .inr (11, [.ref q14, w4, w5, w6, w7, w8, w9, w10, w11, w12, w13]))]) (rV (rest := []) hx hb hml hown hE hP hD 19 rfl rfl (c127_X8_draft l g q14 q18 q21 q23 q31 q42 q48 q52 q49 q53 q32 q43 q60 q66 q61 q67 q44 q33 q45 q34 (.int 0) w28 w29 w30 w64 w65 f19 f54 f55 f68 f69 (hf20) (hf22) s.heap.size) (kV_X8_draft hE (e659 hE) rfl rfl ⟨(Nat.le_of_ble_eq_true rfl), (Nat.le_of_ble_eq_true rfl)⟩) [0, 1, 2, 3, 4, 5, 6, 7, 8, 9, 10, 11, 12, 13, 14, 15, 16, 17, 18, 19] rfl (by decide) rfl hl.1 rfl (lv_room (Nat.le_of_ble_eq_true rfl)) dX9_addOneItem_4 ⟨(Nat.le_of_ble_eq_true rfl), (Nat.le_of_ble_eq_true rfl)⟩) hP hD hS hA [0, 1, 2, 3, 4, 5, 6, 7, 8, 9, 10, 11, 12, 13, 14, 15, 16, 17, 18, 19] [20] rfl rfl (by decide) (by decide) (fun u1 H locs hP hD hS => ?_)
  have hP : va_P g.1 vwCl [(q1, .inr (11, [.ref q14, w4, w5, w6, w7, w8, w9, w10, w11, w12, w13])), (q18, .inl (g.2 3, 10, .inr (.inr (.inr (.inr f19))))), (q14, .inr (10, [.ref q18, .int 0, .int 0])), (q23, .inr (8, [.ref q42, .ref q43, .ref q44, .ref q45, .int 0, .int 4, .int 0])), (q21, .inr (8, [.ref q31, .ref q32, .ref q33, .ref q34, .int 0, .int 4, .int 0])), (q31, .inr (5, [.ref q52, .ref q53])), (q42, .inr (5, [.ref q48, .ref q49])), (q52, .inl (g.2 0, 384, .inl f54)), (q48, .inl (g.2 0, 384, .inl f54)), (q53, .inl (g.2 0, 40, .inl f55)), (q49, .inl (g.2 0, 40, .inl f55)), (q32, .inr (9, [.ref q66, .ref q67, .int 1, .int 0])), (q43, .inr (9, [.ref q60, .ref q61, .int 1, .int 0])), (q66, .inl (g.2 0, 10, .inl f54)), (q60, .inl (g.2 0, 10, .inl f54)), (q67, .inl (g.2 0, 10, .inl f68)), (q61, .inl (g.2 0, 10, .inl f68)), (q33, .inl (g.2 0, 60, .inl f54)), (q44, .inl (g.2 0, 60, .inl f54)), (q34, .inl (g.2 0, 20, .inl f69)), (q45, .inl (g.2 0, 20, .inl f69))] H := hP
  have hD : va_D A [(q1, .inr (11, [.ref q14, w4, w5, w6, w7, w8, w9, w10, w11, w12, w13])), (q18, .inl (g.2 3, 10, .inr (.inr (.inr (.inr f19))))), (q14, .inr (10, [.ref q18, .int 0, .int 0])), (q23, .inr (8, [.ref q42, .ref q43, .ref q44, .ref q45, .int 0, .int 4, .int 0])), (q21, .inr (8, [.ref q31, .ref q32, .ref q33, .ref q34, .int 0, .int 4, .int 0])), (q31, .inr (5, [.ref q52, .ref q53])), (q42, .inr (5, [.ref q48, .ref q49])), (q52, .inl (g.2 0, 384, .inl f54)), (q48, .inl (g.2 0, 384, .inl f54)), (q53, .inl (g.2 0, 40, .inl f55)), (q49, .inl (g.2 0, 40, .inl f55)), (q32, .inr (9, [.ref q66, .ref q67, .int 1, .int 0])), (q43, .inr (9, [.ref q60, .ref q61, .int 1, .int 0])), (q66, .inl (g.2 0, 10, .inl f54)), (q60, .inl (g.2 0, 10, .inl f54)), (q67, .inl (g.2 0, 10, .inl f68)), (q61, .inl (g.2 0, 10, .inl f68)), (q33, .inl (g.2 0, 60, .inl f54)), (q44, .inl (g.2 0, 60, .inl f54)), (q34, .inl (g.2 0, 20, .inl f69)), (q45, .inl (g.2 0, 20, .inl f69))] := hD
  refine lv_astore (lv' := [(6, .ref q21), (0, .ref q1), (1, .int 3), (2, .int 2), (3, .int 2), (4, .int x2), (5, .int (-1))]) hx hb dX9_addOneItem_7 hl (by decide) rfl (fun ls hl => ?_)
  refine lv_aload hx hb dX9_addOneItem_9 (lv_at hl 0 rfl) ?_
  refine lv_iload_n hx hb dX9_addOneItem_11 rfl (lv_at hl 2 rfl) ?_
  refine lv_iload_n hx hb dX9_addOneItem_12 rfl (lv_at hl 3 rfl) ?_
  refine lv_iload_n hx hb dX9_addOneItem_13 rfl (lv_at hl 4 rfl) ?_
  refine lv_iload hx hb dX9_addOneItem_14 (lv_at hl 5 rfl) ?_
  refine lv_iload hx hb dX9_addOneItem_16 (lv_at hl 6 rfl) ?_
  refine g_v (wr := [(q1, .inr (11, [.ref q14, w4, w5, w6, w7, w8, w9, w10, w11, w12, w13])), (q18, .inl (g.2 3, 10, .inr (.inr (.inr (.inr f19))))), (q14, .inr (10, [.ref q18, .int 0, .int 0])), (q23, .inr (8, [.ref q42, .ref q43, .ref q44, .ref q45, .int 0, .int 4, .int 0])), (q42, .inr (5, [.ref q48, .ref q49])), (q48, .inl (g.2 0, 384, .inl f54)), (q49, .inl (g.2 0, 40, .inl f55)), (q32, .inr (9, [.ref q66, .ref q67, .int 1, .int 0])), (q43, .inr (9, [.ref q60, .ref q61, .int 1, .int 0])), (q66, .inl (g.2 0, 10, .inl f54)), (q60, .inl (g.2 0, 10, .inl f54)), (q67, .inl (g.2 0, 10, .inl f68)), (q61, .inl (g.2 0, 10, .inl f68)), (q33, .inl (g.2 0, 60, .inl f54)), (q44, .inl (g.2 0, 60, .inl f54)), (q34, .inl (g.2 0, 20, .inl f69)), (q45, .inl (g.2 0, 20, .inl f69))]) (rS (rest := []) hx hb hml hown hE hP hD (c761_X9_putItem l g q21 q31 q53 q52 2 x2 (.ref q32) (.ref q33) (.ref q34) (.int 0) (.int 4) (.int 0) f55 f54 (hf70) H.size) (kS_X9_putItem hE (e665 hE) rfl rfl ⟨(Nat.le_of_ble_eq_true rfl), (Nat.le_of_ble_eq_true rfl)⟩) [7, 9, 5, 4] rfl (by decide) rfl hl.1 rfl (lv_room (Nat.le_of_ble_eq_true rfl)) dX9_addOneItem_18 ⟨(Nat.le_of_ble_eq_true rfl), (Nat.le_of_ble_eq_true rfl)⟩) hP hD hS hA [7, 9, 5, 4] [0, 1, 2, 3, 6, 8, 10, 11, 12, 13, 14, 15, 16, 17, 18, 19, 20] rfl rfl (by decide) (by decide) (fun u2 H locs hP hD hS => ?_)
  have hP : va_P g.1 vwCl [(q1, .inr (11, [.ref q14, w4, w5, w6, w7, w8, w9, w10, w11, w12, w13])), (q18, .inl (g.2 3, 10, .inr (.inr (.inr (.inr f19))))), (q14, .inr (10, [.ref q18, .int 0, .int 0])), (q23, .inr (8, [.ref q42, .ref q43, .ref q44, .ref q45, .int 0, .int 4, .int 0])), (q42, .inr (5, [.ref q48, .ref q49])), (q48, .inl (g.2 0, 384, .inl f54)), (q49, .inl (g.2 0, 40, .inl f55)), (q32, .inr (9, [.ref q66, .ref q67, .int 1, .int 0])), (q43, .inr (9, [.ref q60, .ref q61, .int 1, .int 0])), (q66, .inl (g.2 0, 10, .inl f54)), (q60, .inl (g.2 0, 10, .inl f54)), (q67, .inl (g.2 0, 10, .inl f68)), (q61, .inl (g.2 0, 10, .inl f68)), (q33, .inl (g.2 0, 60, .inl f54)), (q44, .inl (g.2 0, 60, .inl f54)), (q34, .inl (g.2 0, 20, .inl f69)), (q45, .inl (g.2 0, 20, .inl f69)), (q21, .inr (8, [.ref q31, .ref q32, .ref q33, .ref q34, .int 0, .int 4, .int 0])), (q52, .inl (g.2 0, 384, .inl (upd (upd (upd (upd f54 144 2) 145 2) 146 x2) 147 (-1)))), (q53, .inl (g.2 0, 40, .inl (upd f55 15 1))), (q31, .inr (5, [.ref q52, .ref q53]))] H := hP
  have hD : va_D A [(q1, .inr (11, [.ref q14, w4, w5, w6, w7, w8, w9, w10, w11, w12, w13])), (q18, .inl (g.2 3, 10, .inr (.inr (.inr (.inr f19))))), (q14, .inr (10, [.ref q18, .int 0, .int 0])), (q23, .inr (8, [.ref q42, .ref q43, .ref q44, .ref q45, .int 0, .int 4, .int 0])), (q42, .inr (5, [.ref q48, .ref q49])), (q48, .inl (g.2 0, 384, .inl f54)), (q49, .inl (g.2 0, 40, .inl f55)), (q32, .inr (9, [.ref q66, .ref q67, .int 1, .int 0])), (q43, .inr (9, [.ref q60, .ref q61, .int 1, .int 0])), (q66, .inl (g.2 0, 10, .inl f54)), (q60, .inl (g.2 0, 10, .inl f54)), (q67, .inl (g.2 0, 10, .inl f68)), (q61, .inl (g.2 0, 10, .inl f68)), (q33, .inl (g.2 0, 60, .inl f54)), (q44, .inl (g.2 0, 60, .inl f54)), (q34, .inl (g.2 0, 20, .inl f69)), (q45, .inl (g.2 0, 20, .inl f69)), (q21, .inr (8, [.ref q31, .ref q32, .ref q33, .ref q34, .int 0, .int 4, .int 0])), (q52, .inl (g.2 0, 384, .inl (upd (upd (upd (upd f54 144 2) 145 2) 146 x2) 147 (-1)))), (q53, .inl (g.2 0, 40, .inl (upd f55 15 1))), (q31, .inr (5, [.ref q52, .ref q53]))] := hD
  refine lv_aload_n hx hb dX9_addOneItem_21 rfl (lv_at hl 1 rfl) ?_
  refine lv_aload hx hb dX9_addOneItem_22 (lv_at hl 0 rfl) ?_
  refine g_v (wr := [(q18, .inl (g.2 3, 10, .inr (.inr (.inr (.inr f19))))), (q23, .inr (8, [.ref q42, .ref q43, .ref q44, .ref q45, .int 0, .int 4, .int 0])), (q42, .inr (5, [.ref q48, .ref q49])), (q48, .inl (g.2 0, 384, .inl f54)), (q49, .inl (g.2 0, 40, .inl f55)), (q32, .inr (9, [.ref q66, .ref q67, .int 1, .int 0])), (q43, .inr (9, [.ref q60, .ref q61, .int 1, .int 0])), (q66, .inl (g.2 0, 10, .inl f54)), (q60, .inl (g.2 0, 10, .inl f54)), (q67, .inl (g.2 0, 10, .inl f68)), (q61, .inl (g.2 0, 10, .inl f68)), (q33, .inl (g.2 0, 60, .inl f54)), (q44, .inl (g.2 0, 60, .inl f54)), (q34, .inl (g.2 0, 20, .inl f69)), (q45, .inl (g.2 0, 20, .inl f69))]) (rV (rest := []) hx hb hml hown hE hP hD 0 rfl rfl (c799_X9_acceptIfFitting l g q1 q21 q31 q52 q53 q14 x2 (.ref q32) (.ref q33) (.ref q34) (.int 4) (.int 0) w4 w5 w6 w7 w8 w9 w10 w11 w12 w13 (.ref q18) (upd f55 15 1) (upd (upd (upd (upd f54 144 2) 145 2) 146 x2) 147 (-1)) (((pk_un (by decide)).trans hf71)) (((pk_un (by decide)).trans hf72)) (((pk_un (by decide)).trans hf73)) (((pk_un (by decide)).trans hf74)) (((pk_un (by decide)).trans hf75)) (((pk_un (by decide)).trans hf76)) (((pk_un (by decide)).trans hf77)) (((pk_un (by decide)).trans hf78)) (((pk_un (by decide)).trans hf79)) (((pk_un (by decide)).trans hf80)) (((pk_un (by decide)).trans hf81)) (pk_us) (((pk_un (by decide)).trans hf82)) (((pk_un (by decide)).trans hf83)) (((pk_un (by decide)).trans hf84)) (((pk_un (by decide)).trans hf85)) (((pk_un (by decide)).trans hf86)) (((pk_un (by decide)).trans hf87)) (((pk_un (by decide)).trans hf88)) (((pk_un (by decide)).trans hf89)) (((pk_un (by decide)).trans hf90)) (((pk_un (by decide)).trans hf91)) (((pk_un (by decide)).trans hf92)) (((pk_un (by decide)).trans hf93)) (((pk_un (by decide)).trans hf94)) (((pk_un (by decide)).trans hf95)) (((pk_un (by decide)).trans hf96)) (((pk_un (by decide)).trans hf97)) (((pk_un (by decide)).trans hf98)) (((pk_un (by decide)).trans pk_us)) (((pk_un (by decide)).trans hf99)) (((pk_un (by decide)).trans hf100)) (((pk_un (by decide)).trans ((pk_un (by decide)).trans ((pk_un (by decide)).trans pk_us)))) (((pk_un (by decide)).trans ((pk_un (by decide)).trans pk_us))) H.size) (kV_X9_acceptIfFitting hE (e690 hE) rfl rfl ⟨(Nat.le_of_ble_eq_true rfl), (Nat.le_of_ble_eq_true rfl)⟩) [2, 0, 18, 19, 20, 17] rfl (by decide) rfl hl.1 rfl (lv_room (Nat.le_of_ble_eq_true rfl)) dX9_addOneItem_24 ⟨(Nat.le_of_ble_eq_true rfl), (Nat.le_of_ble_eq_true rfl)⟩) hP hD hS hA [2, 0, 18, 19, 20, 17] [1, 3, 4, 5, 6, 7, 8, 9, 10, 11, 12, 13, 14, 15, 16] rfl rfl (by decide) (by decide) (fun u3 H locs hP hD hS => ?_)
  have hP : va_P g.1 vwCl [(q18, .inl (g.2 3, 10, .inr (.inr (.inr (.inr f19))))), (q23, .inr (8, [.ref q42, .ref q43, .ref q44, .ref q45, .int 0, .int 4, .int 0])), (q42, .inr (5, [.ref q48, .ref q49])), (q48, .inl (g.2 0, 384, .inl f54)), (q49, .inl (g.2 0, 40, .inl f55)), (q32, .inr (9, [.ref q66, .ref q67, .int 1, .int 0])), (q43, .inr (9, [.ref q60, .ref q61, .int 1, .int 0])), (q66, .inl (g.2 0, 10, .inl f54)), (q60, .inl (g.2 0, 10, .inl f54)), (q67, .inl (g.2 0, 10, .inl f68)), (q61, .inl (g.2 0, 10, .inl f68)), (q33, .inl (g.2 0, 60, .inl f54)), (q44, .inl (g.2 0, 60, .inl f54)), (q34, .inl (g.2 0, 20, .inl f69)), (q45, .inl (g.2 0, 20, .inl f69)), (q52, .inl (g.2 0, 384, .inl (upd (upd (upd (upd f54 144 2) 145 2) 146 x2) 147 (-1)))), (q53, .inl (g.2 0, 40, .inl (upd (upd (upd (upd (upd (upd (upd (upd (upd (upd (upd f55 15 1) 1 0) 4 1) 9 1) 14 1) 18 4) 19 2) 24 1) 29 1) 34 1) 39 1))), (q31, .inr (5, [.ref q52, .ref q53])), (q21, .inr (8, [.ref q31, .ref q32, .ref q33, .ref q34, .int 0, .int 4, .int 0])), (q14, .inr (10, [.ref q18, .int 1, .int 1])), (q1, .inr (11, [.ref q14, w4, w5, w6, w7, w8, w9, w10, .int 0, .int 0, w13]))] H := hP
  have hD : va_D A [(q18, .inl (g.2 3, 10, .inr (.inr (.inr (.inr f19))))), (q23, .inr (8, [.ref q42, .ref q43, .ref q44, .ref q45, .int 0, .int 4, .int 0])), (q42, .inr (5, [.ref q48, .ref q49])), (q48, .inl (g.2 0, 384, .inl f54)), (q49, .inl (g.2 0, 40, .inl f55)), (q32, .inr (9, [.ref q66, .ref q67, .int 1, .int 0])), (q43, .inr (9, [.ref q60, .ref q61, .int 1, .int 0])), (q66, .inl (g.2 0, 10, .inl f54)), (q60, .inl (g.2 0, 10, .inl f54)), (q67, .inl (g.2 0, 10, .inl f68)), (q61, .inl (g.2 0, 10, .inl f68)), (q33, .inl (g.2 0, 60, .inl f54)), (q44, .inl (g.2 0, 60, .inl f54)), (q34, .inl (g.2 0, 20, .inl f69)), (q45, .inl (g.2 0, 20, .inl f69)), (q52, .inl (g.2 0, 384, .inl (upd (upd (upd (upd f54 144 2) 145 2) 146 x2) 147 (-1)))), (q53, .inl (g.2 0, 40, .inl (upd (upd (upd (upd (upd (upd (upd (upd (upd (upd (upd f55 15 1) 1 0) 4 1) 9 1) 14 1) 18 4) 19 2) 24 1) 29 1) 34 1) 39 1))), (q31, .inr (5, [.ref q52, .ref q53])), (q21, .inr (8, [.ref q31, .ref q32, .ref q33, .ref q34, .int 0, .int 4, .int 0])), (q14, .inr (10, [.ref q18, .int 1, .int 1])), (q1, .inr (11, [.ref q14, w4, w5, w6, w7, w8, w9, w10, .int 0, .int 0, w13]))] := hD
  refine lv_aload hx hb dX9_addOneItem_27 (lv_at hl 0 rfl) ?_
  refine gf_RX9_108 hx hb hown hE hP 18 rfl rfl dX9_addOneItem_29 ?_
  refine lv_iload_n hx hb dX9_addOneItem_32 rfl (lv_at hl 2 rfl) ?_
  refine lv_iconst (v := 0) hx hb dX9_addOneItem_33 (by decide) ?_
  refine g_i (wr := [(q18, .inl (g.2 3, 10, .inr (.inr (.inr (.inr f19))))), (q23, .inr (8, [.ref q42, .ref q43, .ref q44, .ref q45, .int 0, .int 4, .int 0])), (q42, .inr (5, [.ref q48, .ref q49])), (q48, .inl (g.2 0, 384, .inl f54)), (q49, .inl (g.2 0, 40, .inl f55)), (q32, .inr (9, [.ref q66, .ref q67, .int 1, .int 0])), (q43, .inr (9, [.ref q60, .ref q61, .int 1, .int 0])), (q66, .inl (g.2 0, 10, .inl f54)), (q60, .inl (g.2 0, 10, .inl f54)), (q67, .inl (g.2 0, 10, .inl f68)), (q61, .inl (g.2 0, 10, .inl f68)), (q33, .inl (g.2 0, 60, .inl f54)), (q44, .inl (g.2 0, 60, .inl f54)), (q34, .inl (g.2 0, 20, .inl f69)), (q45, .inl (g.2 0, 20, .inl f69)), (q52, .inl (g.2 0, 384, .inl (upd (upd (upd (upd f54 144 2) 145 2) 146 x2) 147 (-1)))), (q21, .inr (8, [.ref q31, .ref q32, .ref q33, .ref q34, .int 0, .int 4, .int 0])), (q14, .inr (10, [.ref q18, .int 1, .int 1])), (q1, .inr (11, [.ref q14, w4, w5, w6, w7, w8, w9, w10, .int 0, .int 0, w13]))]) (rV (rest := []) hx hb hml hown hE hP hD 17 rfl rfl (c293_X3_figure l g q31 q53 (.ref q52) (upd (upd (upd (upd (upd (upd (upd (upd (upd (upd (upd f55 15 1) 1 0) 4 1) 9 1) 14 1) 18 4) 19 2) 24 1) 29 1) 34 1) 39 1) (((pk_un (by decide)).trans ((pk_un (by decide)).trans ((pk_un (by decide)).trans ((pk_un (by decide)).trans ((pk_un (by decide)).trans ((pk_un (by decide)).trans ((pk_un (by decide)).trans ((pk_un (by decide)).trans ((pk_un (by decide)).trans ((pk_un (by decide)).trans pk_us))))))))))) H.size) (kV_X3_figure hE (e668 hE) rfl rfl ⟨(Nat.le_of_ble_eq_true rfl), (Nat.le_of_ble_eq_true rfl)⟩) [16, 17] rfl (by decide) rfl hl.1 rfl (lv_room (Nat.le_of_ble_eq_true rfl)) dX9_addOneItem_34 ⟨(Nat.le_of_ble_eq_true rfl), (Nat.le_of_ble_eq_true rfl)⟩) hP hD hS hA [16, 17] [0, 1, 2, 3, 4, 5, 6, 7, 8, 9, 10, 11, 12, 13, 14, 15, 18, 19, 20] rfl rfl (by decide) (by decide) (fun u4 H locs hP hD hS => ?_)
  have hP : va_P g.1 vwCl [(q18, .inl (g.2 3, 10, .inr (.inr (.inr (.inr f19))))), (q23, .inr (8, [.ref q42, .ref q43, .ref q44, .ref q45, .int 0, .int 4, .int 0])), (q42, .inr (5, [.ref q48, .ref q49])), (q48, .inl (g.2 0, 384, .inl f54)), (q49, .inl (g.2 0, 40, .inl f55)), (q32, .inr (9, [.ref q66, .ref q67, .int 1, .int 0])), (q43, .inr (9, [.ref q60, .ref q61, .int 1, .int 0])), (q66, .inl (g.2 0, 10, .inl f54)), (q60, .inl (g.2 0, 10, .inl f54)), (q67, .inl (g.2 0, 10, .inl f68)), (q61, .inl (g.2 0, 10, .inl f68)), (q33, .inl (g.2 0, 60, .inl f54)), (q44, .inl (g.2 0, 60, .inl f54)), (q34, .inl (g.2 0, 20, .inl f69)), (q45, .inl (g.2 0, 20, .inl f69)), (q52, .inl (g.2 0, 384, .inl (upd (upd (upd (upd f54 144 2) 145 2) 146 x2) 147 (-1)))), (q21, .inr (8, [.ref q31, .ref q32, .ref q33, .ref q34, .int 0, .int 4, .int 0])), (q14, .inr (10, [.ref q18, .int 1, .int 1])), (q1, .inr (11, [.ref q14, w4, w5, w6, w7, w8, w9, w10, .int 0, .int 0, w13])), (q53, .inl (g.2 0, 40, .inl (upd (upd (upd (upd (upd (upd (upd (upd (upd (upd (upd f55 15 1) 1 0) 4 1) 9 1) 14 1) 18 4) 19 2) 24 1) 29 1) 34 1) 39 1))), (q31, .inr (5, [.ref q52, .ref q53]))] H := hP
  have hD : va_D A [(q18, .inl (g.2 3, 10, .inr (.inr (.inr (.inr f19))))), (q23, .inr (8, [.ref q42, .ref q43, .ref q44, .ref q45, .int 0, .int 4, .int 0])), (q42, .inr (5, [.ref q48, .ref q49])), (q48, .inl (g.2 0, 384, .inl f54)), (q49, .inl (g.2 0, 40, .inl f55)), (q32, .inr (9, [.ref q66, .ref q67, .int 1, .int 0])), (q43, .inr (9, [.ref q60, .ref q61, .int 1, .int 0])), (q66, .inl (g.2 0, 10, .inl f54)), (q60, .inl (g.2 0, 10, .inl f54)), (q67, .inl (g.2 0, 10, .inl f68)), (q61, .inl (g.2 0, 10, .inl f68)), (q33, .inl (g.2 0, 60, .inl f54)), (q44, .inl (g.2 0, 60, .inl f54)), (q34, .inl (g.2 0, 20, .inl f69)), (q45, .inl (g.2 0, 20, .inl f69)), (q52, .inl (g.2 0, 384, .inl (upd (upd (upd (upd f54 144 2) 145 2) 146 x2) 147 (-1)))), (q21, .inr (8, [.ref q31, .ref q32, .ref q33, .ref q34, .int 0, .int 4, .int 0])), (q14, .inr (10, [.ref q18, .int 1, .int 1])), (q1, .inr (11, [.ref q14, w4, w5, w6, w7, w8, w9, w10, .int 0, .int 0, w13])), (q53, .inl (g.2 0, 40, .inl (upd (upd (upd (upd (upd (upd (upd (upd (upd (upd (upd f55 15 1) 1 0) 4 1) 9 1) 14 1) 18 4) 19 2) 24 1) 29 1) 34 1) 39 1))), (q31, .inr (5, [.ref q52, .ref q53]))] := hD
  exact x_zret hx hb hr rfl rfl hlocks hP hD hS hAe hsz (Nat.le_of_ble_eq_true rfl) (Nat.le_of_ble_eq_true rfl) (fun _ => 0) [0, 1, 2, 3, 4, 5, 6, 7, 8, 9, 10, 11, 12, 13, 14, 15, 16, 17, 18, 19, 20] (by decide) rfl dX9_addOneItem_37

set_option maxHeartbeats 4000000 in
set_option maxRecDepth 100000 in
theorem c801_X9_addCall (l : Launch) (g : gG) (q1 q16 q20 q23 q25 q33 q34 q35 q36 q44 q45 q46 q47 q50 q51 q54 q55 q62 q63 q68 q69 : Nat) (x2 : Int32) (w6 w7 w8 w9 w10 w11 w12 w13 w14 w15 w30 w31 w32 w66 w67 : Value) (f21 : Nat → Option Nat) (f56 : Nat → Int32) (f57 : Nat → Int32) (f70 : Nat → Int32) (f71 : Nat → Int32) (hf22 : f21 1 = some q23) (hf24 : f21 0 = some q25) (hf72 : f57 15 = 0) (hf73 : f57 0 = 0) (hf74 : f57 2 = 0) (hf75 : f57 3 = 0) (hf76 : f57 5 = 0) (hf77 : f57 6 = 0) (hf78 : f57 7 = 0) (hf79 : f57 8 = 0) (hf80 : f57 10 = 0) (hf81 : f57 11 = 0) (hf82 : f57 12 = 0) (hf83 : f57 13 = 0) (hf84 : f57 18 = 0) (hf85 : f57 20 = 0) (hf86 : f57 21 = 0) (hf87 : f57 22 = 0) (hf88 : f57 23 = 0) (hf89 : f57 25 = 0) (hf90 : f57 26 = 0) (hf91 : f57 27 = 0) (hf92 : f57 28 = 0) (hf93 : f57 30 = 0) (hf94 : f57 31 = 0) (hf95 : f57 32 = 0) (hf96 : f57 33 = 0) (hf97 : f57 35 = 0) (hf98 : f57 36 = 0) (hf99 : f57 37 = 0) (hf100 : f57 38 = 0) (hf101 : f57 17 = 0) (hf102 : f57 16 = 0) (h3 : (1 : Int32) ≤ x2) (h4 : x2 ≤ 9) (sz : Nat) : Met l yX9_addCall [Cond.code yX9_addCall cX9_addCall 4 (some .int)] ({ frames := 6, cells := 0, slots := 0, locals := 174 } : Room) (va_Pc [.ref q1, .int 3, .int 2, .int x2] (PX g sz [(q36, .inl (g.2 0, 20, .inl f71)), (q47, .inl (g.2 0, 20, .inl f71)), (q35, .inl (g.2 0, 60, .inl f56)), (q46, .inl (g.2 0, 60, .inl f56)), (q69, .inl (g.2 0, 10, .inl f70)), (q63, .inl (g.2 0, 10, .inl f70)), (q68, .inl (g.2 0, 10, .inl f56)), (q62, .inl (g.2 0, 10, .inl f56)), (q34, .inr (9, [.ref q68, .ref q69, w66, w67])), (q45, .inr (9, [.ref q62, .ref q63, .int 1, .int 0])), (q55, .inl (g.2 0, 40, .inl f57)), (q51, .inl (g.2 0, 40, .inl f57)), (q54, .inl (g.2 0, 384, .inl f56)), (q50, .inl (g.2 0, 384, .inl f56)), (q33, .inr (5, [.ref q54, .ref q55])), (q44, .inr (5, [.ref q50, .ref q51])), (q25, .inr (8, [.ref q44, .ref q45, .ref q46, .ref q47, .int 0, .int 4, .int 0])), (q23, .inr (8, [.ref q33, .ref q34, .ref q35, .ref q36, w30, w31, w32])), (q20, .inl (g.2 3, 10, .inr (.inr (.inr (.inr f21))))), (q16, .inr (10, [.ref q20, .int 0, .int 0])), (q1, .inr (11, [.ref q16, w6, w7, w8, w9, w10, w11, w12, w13, w14, w15]))])) (QI g [(q36, .inl (g.2 0, 20, .inl f71)), (q47, .inl (g.2 0, 20, .inl f71)), (q35, .inl (g.2 0, 60, .inl f56)), (q46, .inl (g.2 0, 60, .inl f56)), (q69, .inl (g.2 0, 10, .inl f70)), (q63, .inl (g.2 0, 10, .inl f70)), (q68, .inl (g.2 0, 10, .inl f56)), (q62, .inl (g.2 0, 10, .inl f56)), (q34, .inr (9, [.ref q68, .ref q69, w66, w67])), (q45, .inr (9, [.ref q62, .ref q63, .int 1, .int 0])), (q55, .inl (g.2 0, 40, .inl f57)), (q51, .inl (g.2 0, 40, .inl f57)), (q54, .inl (g.2 0, 384, .inl f56)), (q50, .inl (g.2 0, 384, .inl f56)), (q33, .inr (5, [.ref q54, .ref q55])), (q44, .inr (5, [.ref q50, .ref q51])), (q25, .inr (8, [.ref q44, .ref q45, .ref q46, .ref q47, .int 0, .int 4, .int 0])), (q23, .inr (8, [.ref q33, .ref q34, .ref q35, .ref q36, w30, w31, w32])), (q20, .inl (g.2 3, 10, .inr (.inr (.inr (.inr f21))))), (q16, .inr (10, [.ref q20, .int 0, .int 0])), (q1, .inr (11, [.ref q16, w6, w7, w8, w9, w10, w11, w12, w13, w14, w15]))] sz 1 (fun _ => [(q20, .inl (g.2 3, 10, .inr (.inr (.inr (.inr f21))))), (q25, .inr (8, [.ref q44, .ref q45, .ref q46, .ref q47, .int 0, .int 4, .int 0])), (q44, .inr (5, [.ref q50, .ref q51])), (q50, .inl (g.2 0, 384, .inl f56)), (q51, .inl (g.2 0, 40, .inl f57)), (q34, .inr (9, [.ref q68, .ref q69, .int 1, .int 0])), (q45, .inr (9, [.ref q62, .ref q63, .int 1, .int 0])), (q68, .inl (g.2 0, 10, .inl f56)), (q62, .inl (g.2 0, 10, .inl f56)), (q69, .inl (g.2 0, 10, .inl f70)), (q63, .inl (g.2 0, 10, .inl f70)), (q35, .inl (g.2 0, 60, .inl f56)), (q46, .inl (g.2 0, 60, .inl f56)), (q36, .inl (g.2 0, 20, .inl f71)), (q47, .inl (g.2 0, 20, .inl f71)), (q54, .inl (g.2 0, 384, .inl (upd (upd (upd (upd f56 144 2) 145 2) 146 x2) 147 (-1)))), (q23, .inr (8, [.ref q33, .ref q34, .ref q35, .ref q36, .int 0, .int 4, .int 0])), (q16, .inr (10, [.ref q20, .int 1, .int 1])), (q1, .inr (11, [.ref q16, w6, w7, w8, w9, w10, w11, w12, .int 0, .int 0, w15])), (q55, .inl (g.2 0, 40, .inl (upd (upd (upd (upd (upd (upd (upd (upd (upd (upd (upd f57 15 1) 1 0) 4 1) 9 1) 14 1) 18 4) 19 2) 24 1) 29 1) 34 1) 39 1))), (q33, .inr (5, [.ref q54, .ref q55]))])) 0 0 (va_A [(q36, .inl (g.2 0, 20, .inl f71)), (q47, .inl (g.2 0, 20, .inl f71)), (q35, .inl (g.2 0, 60, .inl f56)), (q46, .inl (g.2 0, 60, .inl f56)), (q69, .inl (g.2 0, 10, .inl f70)), (q63, .inl (g.2 0, 10, .inl f70)), (q68, .inl (g.2 0, 10, .inl f56)), (q62, .inl (g.2 0, 10, .inl f56)), (q34, .inr (9, [.ref q68, .ref q69, w66, w67])), (q45, .inr (9, [.ref q62, .ref q63, .int 1, .int 0])), (q55, .inl (g.2 0, 40, .inl f57)), (q51, .inl (g.2 0, 40, .inl f57)), (q54, .inl (g.2 0, 384, .inl f56)), (q50, .inl (g.2 0, 384, .inl f56)), (q33, .inr (5, [.ref q54, .ref q55])), (q44, .inr (5, [.ref q50, .ref q51])), (q25, .inr (8, [.ref q44, .ref q45, .ref q46, .ref q47, .int 0, .int 4, .int 0])), (q23, .inr (8, [.ref q33, .ref q34, .ref q35, .ref q36, w30, w31, w32])), (q20, .inl (g.2 3, 10, .inr (.inr (.inr (.inr f21))))), (q16, .inr (10, [.ref q20, .int 0, .int 0])), (q1, .inr (11, [.ref q16, w6, w7, w8, w9, w10, w11, w12, w13, w14, w15]))] sz) := by
  refine ofN (by decide) (Nat.le_of_ble_eq_true rfl) rfl ?_
  intro p e s m args below meth c A ls hAe hsz hx hb hml hr hlocks hin hown hE hP hD hA hS hl
  have hown : s.vm.findClass RX9 = some m.cls := hown
  refine lv_iload_n hx hb dX9_addCall_0 rfl (lv_at hl 1 rfl) ?_
  refine g0_v (rS (rest := []) hx hb hml hown hE hP hD (c89_X9_requirePattern l g 3 (by decide) (by decide) s.heap.size) (kS_X9_requirePattern hE (e617 hE) rfl rfl ⟨(Nat.le_of_ble_eq_true rfl), (Nat.le_of_ble_eq_true rfl)⟩) [] rfl (by decide) rfl hl.1 rfl (lv_room (Nat.le_of_ble_eq_true rfl)) dX9_addCall_1 ⟨(Nat.le_of_ble_eq_true rfl), (Nat.le_of_ble_eq_true rfl)⟩) hP hD hS hA (fun u9 H locs hP hS => ?_)
  refine lv_iload_n hx hb dX9_addCall_4 rfl (lv_at hl 2 rfl) ?_
  refine lv_iconst (v := 0) hx hb dX9_addCall_5 (by decide) ?_
  refine lv_iload_n hx hb dX9_addCall_6 rfl (lv_at hl 1 rfl) ?_
  refine lv_iconst (v := 1) hx hb dX9_addCall_7 (by decide) ?_
  refine x_isub (v := 2) hx hb dX9_addCall_8 (by decide) ?_
  refine g0_v (rS (rest := []) hx hb hml hown hE hP hD (c752_X9_requireRange l g 2 (by decide) (by decide) H.size) (kS_X9_requireRange hE (e636 hE) rfl rfl ⟨(Nat.le_of_ble_eq_true rfl), (Nat.le_of_ble_eq_true rfl)⟩) [] rfl (by decide) rfl hl.1 rfl (lv_room (Nat.le_of_ble_eq_true rfl)) dX9_addCall_9 ⟨(Nat.le_of_ble_eq_true rfl), (Nat.le_of_ble_eq_true rfl)⟩) hP hD hS hA (fun u9 H locs hP hS => ?_)
  refine lv_iload_n hx hb dX9_addCall_12 rfl (lv_at hl 3 rfl) ?_
  refine lv_iconst (v := 1) hx hb dX9_addCall_13 (by decide) ?_
  refine lv_bipush (v := 9) hx hb dX9_addCall_14 (by decide) ?_
  refine g0_v (rS (rest := []) hx hb hml hown hE hP hD (c117_X9_requireRange l g x2 h3 h4 H.size) (kS_X9_requireRange hE (e636 hE) rfl rfl ⟨(Nat.le_of_ble_eq_true rfl), (Nat.le_of_ble_eq_true rfl)⟩) [] rfl (by decide) rfl hl.1 rfl (lv_room (Nat.le_of_ble_eq_true rfl)) dX9_addCall_16 ⟨(Nat.le_of_ble_eq_true rfl), (Nat.le_of_ble_eq_true rfl)⟩) hP hD hS hA (fun u9 H locs hP hS => ?_)
  refine lv_aload_n hx hb dX9_addCall_19 rfl (lv_at hl 0 rfl) ?_
  refine lv_iload_n hx hb dX9_addCall_20 rfl (lv_at hl 1 rfl) ?_
  refine lv_iconst (v := 2) hx hb dX9_addCall_21 (by decide) ?_
  refine lv_iload_n hx hb dX9_addCall_22 rfl (lv_at hl 2 rfl) ?_
  refine lv_iload_n hx hb dX9_addCall_23 rfl (lv_at hl 3 rfl) ?_
  refine lv_iconst (v := (-1)) hx hb dX9_addCall_24 (by decide) ?_
  refine g_i (wr := []) (rV (rest := []) hx hb hml hown hE hP hD 20 rfl rfl (c800_X9_addOneItem l g q1 q16 q20 q23 q25 q33 q34 q35 q36 q44 q45 q46 q47 q50 q51 q54 q55 q62 q63 q68 q69 x2 w6 w7 w8 w9 w10 w11 w12 w13 w14 w15 w30 w31 w32 w66 w67 f21 f56 f57 f70 f71 (hf22) (hf24) (hf72) (hf73) (hf74) (hf75) (hf76) (hf77) (hf78) (hf79) (hf80) (hf81) (hf82) (hf83) (hf84) (hf85) (hf86) (hf87) (hf88) (hf89) (hf90) (hf91) (hf92) (hf93) (hf94) (hf95) (hf96) (hf97) (hf98) (hf99) (hf100) (hf101) (hf102) H.size) (kV_X9_addOneItem hE (e655 hE) rfl rfl ⟨(Nat.le_of_ble_eq_true rfl), (Nat.le_of_ble_eq_true rfl)⟩) [0, 1, 2, 3, 4, 5, 6, 7, 8, 9, 10, 11, 12, 13, 14, 15, 16, 17, 18, 19, 20] rfl (by decide) rfl hl.1 rfl (lv_room (Nat.le_of_ble_eq_true rfl)) dX9_addCall_25 ⟨(Nat.le_of_ble_eq_true rfl), (Nat.le_of_ble_eq_true rfl)⟩) hP hD hS hA [0, 1, 2, 3, 4, 5, 6, 7, 8, 9, 10, 11, 12, 13, 14, 15, 16, 17, 18, 19, 20] [] rfl rfl (by decide) (by decide) (fun u4 H locs hP hD hS => ?_)
  have hP : va_P g.1 vwCl [(q20, .inl (g.2 3, 10, .inr (.inr (.inr (.inr f21))))), (q25, .inr (8, [.ref q44, .ref q45, .ref q46, .ref q47, .int 0, .int 4, .int 0])), (q44, .inr (5, [.ref q50, .ref q51])), (q50, .inl (g.2 0, 384, .inl f56)), (q51, .inl (g.2 0, 40, .inl f57)), (q34, .inr (9, [.ref q68, .ref q69, .int 1, .int 0])), (q45, .inr (9, [.ref q62, .ref q63, .int 1, .int 0])), (q68, .inl (g.2 0, 10, .inl f56)), (q62, .inl (g.2 0, 10, .inl f56)), (q69, .inl (g.2 0, 10, .inl f70)), (q63, .inl (g.2 0, 10, .inl f70)), (q35, .inl (g.2 0, 60, .inl f56)), (q46, .inl (g.2 0, 60, .inl f56)), (q36, .inl (g.2 0, 20, .inl f71)), (q47, .inl (g.2 0, 20, .inl f71)), (q54, .inl (g.2 0, 384, .inl (upd (upd (upd (upd f56 144 2) 145 2) 146 x2) 147 (-1)))), (q23, .inr (8, [.ref q33, .ref q34, .ref q35, .ref q36, .int 0, .int 4, .int 0])), (q16, .inr (10, [.ref q20, .int 1, .int 1])), (q1, .inr (11, [.ref q16, w6, w7, w8, w9, w10, w11, w12, .int 0, .int 0, w15])), (q55, .inl (g.2 0, 40, .inl (upd (upd (upd (upd (upd (upd (upd (upd (upd (upd (upd f57 15 1) 1 0) 4 1) 9 1) 14 1) 18 4) 19 2) 24 1) 29 1) 34 1) 39 1))), (q33, .inr (5, [.ref q54, .ref q55]))] H := hP
  have hD : va_D A [(q20, .inl (g.2 3, 10, .inr (.inr (.inr (.inr f21))))), (q25, .inr (8, [.ref q44, .ref q45, .ref q46, .ref q47, .int 0, .int 4, .int 0])), (q44, .inr (5, [.ref q50, .ref q51])), (q50, .inl (g.2 0, 384, .inl f56)), (q51, .inl (g.2 0, 40, .inl f57)), (q34, .inr (9, [.ref q68, .ref q69, .int 1, .int 0])), (q45, .inr (9, [.ref q62, .ref q63, .int 1, .int 0])), (q68, .inl (g.2 0, 10, .inl f56)), (q62, .inl (g.2 0, 10, .inl f56)), (q69, .inl (g.2 0, 10, .inl f70)), (q63, .inl (g.2 0, 10, .inl f70)), (q35, .inl (g.2 0, 60, .inl f56)), (q46, .inl (g.2 0, 60, .inl f56)), (q36, .inl (g.2 0, 20, .inl f71)), (q47, .inl (g.2 0, 20, .inl f71)), (q54, .inl (g.2 0, 384, .inl (upd (upd (upd (upd f56 144 2) 145 2) 146 x2) 147 (-1)))), (q23, .inr (8, [.ref q33, .ref q34, .ref q35, .ref q36, .int 0, .int 4, .int 0])), (q16, .inr (10, [.ref q20, .int 1, .int 1])), (q1, .inr (11, [.ref q16, w6, w7, w8, w9, w10, w11, w12, .int 0, .int 0, w15])), (q55, .inl (g.2 0, 40, .inl (upd (upd (upd (upd (upd (upd (upd (upd (upd (upd (upd f57 15 1) 1 0) 4 1) 9 1) 14 1) 18 4) 19 2) 24 1) 29 1) 34 1) 39 1))), (q33, .inr (5, [.ref q54, .ref q55]))] := hD
  exact x_zret hx hb hr rfl rfl hlocks hP hD hS hAe hsz (Nat.le_of_ble_eq_true rfl) (Nat.le_of_ble_eq_true rfl) (fun _ => 0) [0, 1, 2, 3, 4, 5, 6, 7, 8, 9, 10, 11, 12, 13, 14, 15, 16, 17, 18, 19, 20] (by decide) rfl dX9_addCall_28

set_option maxHeartbeats 4000000 in
set_option maxRecDepth 100000 in
theorem c802_L_addCall (l : Launch) (g : gG) (hlx : l.stackTraces = false) (q1 q3 q17 q21 q24 q26 q34 q35 q36 q37 q45 q46 q47 q48 q51 q52 q55 q56 q63 q64 q69 q70 : Nat) (x2 : Int32) (w7 w8 w9 w10 w11 w12 w13 w14 w15 w16 w31 w32 w33 w67 w68 : Value) (f22 : Nat → Option Nat) (f57 : Nat → Int32) (f58 : Nat → Int32) (f71 : Nat → Int32) (f72 : Nat → Int32) (f104 : Nat → Int64) (hf23 : f22 1 = some q24) (hf25 : f22 0 = some q26) (hf73 : f58 15 = 0) (hf74 : f58 0 = 0) (hf75 : f58 2 = 0) (hf76 : f58 3 = 0) (hf77 : f58 5 = 0) (hf78 : f58 6 = 0) (hf79 : f58 7 = 0) (hf80 : f58 8 = 0) (hf81 : f58 10 = 0) (hf82 : f58 11 = 0) (hf83 : f58 12 = 0) (hf84 : f58 13 = 0) (hf85 : f58 18 = 0) (hf86 : f58 20 = 0) (hf87 : f58 21 = 0) (hf88 : f58 22 = 0) (hf89 : f58 23 = 0) (hf90 : f58 25 = 0) (hf91 : f58 26 = 0) (hf92 : f58 27 = 0) (hf93 : f58 28 = 0) (hf94 : f58 30 = 0) (hf95 : f58 31 = 0) (hf96 : f58 32 = 0) (hf97 : f58 33 = 0) (hf98 : f58 35 = 0) (hf99 : f58 36 = 0) (hf100 : f58 37 = 0) (hf101 : f58 38 = 0) (hf102 : f58 17 = 0) (hf103 : f58 16 = 0) (h4 : (1 : Int32) ≤ x2) (h5 : x2 ≤ 9) (sz : Nat) : Met l yL_addCall [Cond.codeWith yL_addCall cL_addCall 6 (some .int) [(0, 12, 15, 13), (0, 12, 19, 15), (0, 12, 23, 17)]] ({ frames := 7, cells := 0, slots := 0, locals := 197 } : Room) (va_Pc [.ref q1, .int 3, .int 2, .int x2, .ref q3] (PZ g sz [(q3, .inl (g.2 1, 1, .inr (.inl f104))), (q37, .inl (g.2 0, 20, .inl f72)), (q48, .inl (g.2 0, 20, .inl f72)), (q36, .inl (g.2 0, 60, .inl f57)), (q47, .inl (g.2 0, 60, .inl f57)), (q70, .inl (g.2 0, 10, .inl f71)), (q64, .inl (g.2 0, 10, .inl f71)), (q69, .inl (g.2 0, 10, .inl f57)), (q63, .inl (g.2 0, 10, .inl f57)), (q35, .inr (9, [.ref q69, .ref q70, w67, w68])), (q46, .inr (9, [.ref q63, .ref q64, .int 1, .int 0])), (q56, .inl (g.2 0, 40, .inl f58)), (q52, .inl (g.2 0, 40, .inl f58)), (q55, .inl (g.2 0, 384, .inl f57)), (q51, .inl (g.2 0, 384, .inl f57)), (q34, .inr (5, [.ref q55, .ref q56])), (q45, .inr (5, [.ref q51, .ref q52])), (q26, .inr (8, [.ref q45, .ref q46, .ref q47, .ref q48, .int 0, .int 4, .int 0])), (q24, .inr (8, [.ref q34, .ref q35, .ref q36, .ref q37, w31, w32, w33])), (q21, .inl (g.2 3, 10, .inr (.inr (.inr (.inr f22))))), (q17, .inr (10, [.ref q21, .int 0, .int 0])), (q1, .inr (11, [.ref q17, w7, w8, w9, w10, w11, w12, w13, w14, w15, w16]))])) (QI g [(q3, .inl (g.2 1, 1, .inr (.inl f104))), (q37, .inl (g.2 0, 20, .inl f72)), (q48, .inl (g.2 0, 20, .inl f72)), (q36, .inl (g.2 0, 60, .inl f57)), (q47, .inl (g.2 0, 60, .inl f57)), (q70, .inl (g.2 0, 10, .inl f71)), (q64, .inl (g.2 0, 10, .inl f71)), (q69, .inl (g.2 0, 10, .inl f57)), (q63, .inl (g.2 0, 10, .inl f57)), (q35, .inr (9, [.ref q69, .ref q70, w67, w68])), (q46, .inr (9, [.ref q63, .ref q64, .int 1, .int 0])), (q56, .inl (g.2 0, 40, .inl f58)), (q52, .inl (g.2 0, 40, .inl f58)), (q55, .inl (g.2 0, 384, .inl f57)), (q51, .inl (g.2 0, 384, .inl f57)), (q34, .inr (5, [.ref q55, .ref q56])), (q45, .inr (5, [.ref q51, .ref q52])), (q26, .inr (8, [.ref q45, .ref q46, .ref q47, .ref q48, .int 0, .int 4, .int 0])), (q24, .inr (8, [.ref q34, .ref q35, .ref q36, .ref q37, w31, w32, w33])), (q21, .inl (g.2 3, 10, .inr (.inr (.inr (.inr f22))))), (q17, .inr (10, [.ref q21, .int 0, .int 0])), (q1, .inr (11, [.ref q17, w7, w8, w9, w10, w11, w12, w13, w14, w15, w16]))] sz 0 (fun _ => [(q3, .inl (g.2 1, 1, .inr (.inl (vp_updL f104 0 1))))])) 0 0 (va_A [(q3, .inl (g.2 1, 1, .inr (.inl f104))), (q37, .inl (g.2 0, 20, .inl f72)), (q48, .inl (g.2 0, 20, .inl f72)), (q36, .inl (g.2 0, 60, .inl f57)), (q47, .inl (g.2 0, 60, .inl f57)), (q70, .inl (g.2 0, 10, .inl f71)), (q64, .inl (g.2 0, 10, .inl f71)), (q69, .inl (g.2 0, 10, .inl f57)), (q63, .inl (g.2 0, 10, .inl f57)), (q35, .inr (9, [.ref q69, .ref q70, w67, w68])), (q46, .inr (9, [.ref q63, .ref q64, .int 1, .int 0])), (q56, .inl (g.2 0, 40, .inl f58)), (q52, .inl (g.2 0, 40, .inl f58)), (q55, .inl (g.2 0, 384, .inl f57)), (q51, .inl (g.2 0, 384, .inl f57)), (q34, .inr (5, [.ref q55, .ref q56])), (q45, .inr (5, [.ref q51, .ref q52])), (q26, .inr (8, [.ref q45, .ref q46, .ref q47, .ref q48, .int 0, .int 4, .int 0])), (q24, .inr (8, [.ref q34, .ref q35, .ref q36, .ref q37, w31, w32, w33])), (q21, .inl (g.2 3, 10, .inr (.inr (.inr (.inr f22))))), (q17, .inr (10, [.ref q21, .int 0, .int 0])), (q1, .inr (11, [.ref q17, w7, w8, w9, w10, w11, w12, w13, w14, w15, w16]))] sz) := by
  refine ofH (by decide) (Nat.le_of_ble_eq_true rfl) rfl ?_
  intro p e s m args below meth c A ls hAe hsz hx hb hml hr hlocks hin hown hE hP hD hA hS hl htb hz
  have hown : s.vm.findClass RL = some m.cls := hown
  refine lv_aload hx hb dL_addCall_0 (lv_at hl 4 rfl) ?_
  refine lv_iconst (v := 0) hx hb dL_addCall_2 (by decide) ?_
  refine lv_aload_n hx hb dL_addCall_3 rfl (lv_at hl 0 rfl) ?_
  refine lv_iload_n hx hb dL_addCall_4 rfl (lv_at hl 1 rfl) ?_
  refine lv_iload_n hx hb dL_addCall_5 rfl (lv_at hl 2 rfl) ?_
  refine lv_iload_n hx hb dL_addCall_6 rfl (lv_at hl 3 rfl) ?_
  refine g_i (wr := [(q3, .inl (g.2 1, 1, .inr (.inl f104)))]) (rV (rest := [.int 0, .ref q3]) hx hb hml hown hE hP hD 21 rfl rfl (c801_X9_addCall l g q1 q17 q21 q24 q26 q34 q35 q36 q37 q45 q46 q47 q48 q51 q52 q55 q56 q63 q64 q69 q70 x2 w7 w8 w9 w10 w11 w12 w13 w14 w15 w16 w31 w32 w33 w67 w68 f22 f57 f58 f71 f72 (hf23) (hf25) (hf73) (hf74) (hf75) (hf76) (hf77) (hf78) (hf79) (hf80) (hf81) (hf82) (hf83) (hf84) (hf85) (hf86) (hf87) (hf88) (hf89) (hf90) (hf91) (hf92) (hf93) (hf94) (hf95) (hf96) (hf97) (hf98) (hf99) (hf100) (hf101) (hf102) (hf103) h4 h5 s.heap.size) (kV_X9_addCall hE (e737 hE) rfl rfl ⟨(Nat.le_of_ble_eq_true rfl), (Nat.le_of_ble_eq_true rfl)⟩) [1, 2, 3, 4, 5, 6, 7, 8, 9, 10, 11, 12, 13, 14, 15, 16, 17, 18, 19, 20, 21] rfl (by decide) rfl hl.1 rfl (lv_room (Nat.le_of_ble_eq_true rfl)) dL_addCall_7 ⟨(Nat.le_of_ble_eq_true rfl), (Nat.le_of_ble_eq_true rfl)⟩) hP hD hS hA [1, 2, 3, 4, 5, 6, 7, 8, 9, 10, 11, 12, 13, 14, 15, 16, 17, 18, 19, 20, 21] [0] rfl rfl (by decide) (by decide) (fun u1 H locs hP hD hS => ?_)
  have hP : va_P g.1 vwCl [(q3, .inl (g.2 1, 1, .inr (.inl f104))), (q21, .inl (g.2 3, 10, .inr (.inr (.inr (.inr f22))))), (q26, .inr (8, [.ref q45, .ref q46, .ref q47, .ref q48, .int 0, .int 4, .int 0])), (q45, .inr (5, [.ref q51, .ref q52])), (q51, .inl (g.2 0, 384, .inl f57)), (q52, .inl (g.2 0, 40, .inl f58)), (q35, .inr (9, [.ref q69, .ref q70, .int 1, .int 0])), (q46, .inr (9, [.ref q63, .ref q64, .int 1, .int 0])), (q69, .inl (g.2 0, 10, .inl f57)), (q63, .inl (g.2 0, 10, .inl f57)), (q70, .inl (g.2 0, 10, .inl f71)), (q64, .inl (g.2 0, 10, .inl f71)), (q36, .inl (g.2 0, 60, .inl f57)), (q47, .inl (g.2 0, 60, .inl f57)), (q37, .inl (g.2 0, 20, .inl f72)), (q48, .inl (g.2 0, 20, .inl f72)), (q55, .inl (g.2 0, 384, .inl (upd (upd (upd (upd f57 144 2) 145 2) 146 x2) 147 (-1)))), (q24, .inr (8, [.ref q34, .ref q35, .ref q36, .ref q37, .int 0, .int 4, .int 0])), (q17, .inr (10, [.ref q21, .int 1, .int 1])), (q1, .inr (11, [.ref q17, w7, w8, w9, w10, w11, w12, w13, .int 0, .int 0, w16])), (q56, .inl (g.2 0, 40, .inl (upd (upd (upd (upd (upd (upd (upd (upd (upd (upd (upd f58 15 1) 1 0) 4 1) 9 1) 14 1) 18 4) 19 2) 24 1) 29 1) 34 1) 39 1))), (q34, .inr (5, [.ref q55, .ref q56]))] H := hP
  have hD : va_D A [(q3, .inl (g.2 1, 1, .inr (.inl f104))), (q21, .inl (g.2 3, 10, .inr (.inr (.inr (.inr f22))))), (q26, .inr (8, [.ref q45, .ref q46, .ref q47, .ref q48, .int 0, .int 4, .int 0])), (q45, .inr (5, [.ref q51, .ref q52])), (q51, .inl (g.2 0, 384, .inl f57)), (q52, .inl (g.2 0, 40, .inl f58)), (q35, .inr (9, [.ref q69, .ref q70, .int 1, .int 0])), (q46, .inr (9, [.ref q63, .ref q64, .int 1, .int 0])), (q69, .inl (g.2 0, 10, .inl f57)), (q63, .inl (g.2 0, 10, .inl f57)), (q70, .inl (g.2 0, 10, .inl f71)), (q64, .inl (g.2 0, 10, .inl f71)), (q36, .inl (g.2 0, 60, .inl f57)), (q47, .inl (g.2 0, 60, .inl f57)), (q37, .inl (g.2 0, 20, .inl f72)), (q48, .inl (g.2 0, 20, .inl f72)), (q55, .inl (g.2 0, 384, .inl (upd (upd (upd (upd f57 144 2) 145 2) 146 x2) 147 (-1)))), (q24, .inr (8, [.ref q34, .ref q35, .ref q36, .ref q37, .int 0, .int 4, .int 0])), (q17, .inr (10, [.ref q21, .int 1, .int 1])), (q1, .inr (11, [.ref q17, w7, w8, w9, w10, w11, w12, w13, .int 0, .int 0, w16])), (q56, .inl (g.2 0, 40, .inl (upd (upd (upd (upd (upd (upd (upd (upd (upd (upd (upd f58 15 1) 1 0) 4 1) 9 1) 14 1) 18 4) 19 2) 24 1) 29 1) 34 1) 39 1))), (q34, .inr (5, [.ref q55, .ref q56]))] := hD
  refine lv_i2l (v := 1) hx hb dL_addCall_10 (by decide) ?_
  refine x_last (ws' := [(q3, .inl (g.2 1, 1, .inr (.inl (vp_updL f104 0 1)))), (q21, .inl (g.2 3, 10, .inr (.inr (.inr (.inr f22))))), (q26, .inr (8, [.ref q45, .ref q46, .ref q47, .ref q48, .int 0, .int 4, .int 0])), (q45, .inr (5, [.ref q51, .ref q52])), (q51, .inl (g.2 0, 384, .inl f57)), (q52, .inl (g.2 0, 40, .inl f58)), (q35, .inr (9, [.ref q69, .ref q70, .int 1, .int 0])), (q46, .inr (9, [.ref q63, .ref q64, .int 1, .int 0])), (q69, .inl (g.2 0, 10, .inl f57)), (q63, .inl (g.2 0, 10, .inl f57)), (q70, .inl (g.2 0, 10, .inl f71)), (q64, .inl (g.2 0, 10, .inl f71)), (q36, .inl (g.2 0, 60, .inl f57)), (q47, .inl (g.2 0, 60, .inl f57)), (q37, .inl (g.2 0, 20, .inl f72)), (q48, .inl (g.2 0, 20, .inl f72)), (q55, .inl (g.2 0, 384, .inl (upd (upd (upd (upd f57 144 2) 145 2) 146 x2) 147 (-1)))), (q24, .inr (8, [.ref q34, .ref q35, .ref q36, .ref q37, .int 0, .int 4, .int 0])), (q17, .inr (10, [.ref q21, .int 1, .int 1])), (q1, .inr (11, [.ref q17, w7, w8, w9, w10, w11, w12, w13, .int 0, .int 0, w16])), (q56, .inl (g.2 0, 40, .inl (upd (upd (upd (upd (upd (upd (upd (upd (upd (upd (upd f58 15 1) 1 0) 4 1) 9 1) 14 1) 18 4) 19 2) 24 1) 29 1) 34 1) 39 1))), (q34, .inr (5, [.ref q55, .ref q56]))]) hx hb hE hP hD hS 0 rfl 0 (x_in (by decide)) (by decide) dL_addCall_11 rfl (fun H locs hP hD hS => ?_)
  refine lv_goto (tgt := 27) hx hb dL_addCall_12 (by decide) ?_
  refine lv_iconst (v := 0) hx hb dL_addCall_27 (by decide) ?_
  exact x_zret hx hb hr rfl rfl hlocks hP hD hS hAe hsz (Nat.le_of_ble_eq_true rfl) (Nat.le_of_ble_eq_true rfl) (fun _ => 0) [0] (by decide) rfl dL_addCall_28

set_option maxHeartbeats 4000000 in
set_option maxRecDepth 100000 in
theorem c803_X9_addCall (l : Launch) (g : gG) (hlx : l.stackTraces = false) (q1 : Nat) (x2 x3 : Int32) (h4 : (0 : Int32) ≤ x2) (h5 : x2 ≤ 2) (h6 : (1 : Int32) ≤ x3) (h7 : (9 : Int32) < x3) (sz : Nat) : vx_Met l yX9_addCall [Cond.code yX9_addCall cX9_addCall 4 (some .int)] ({ frames := 7, cells := 1, slots := 6, locals := 122 } : Room) (va_Pc [.ref q1, .int 3, .int x2, .int x3] (PZ g sz [])) NI (XW g [] sz "java/lang/IllegalArgumentException" []) 1 6 (va_A [] sz) := by
  refine ofX (by decide) (Nat.le_of_ble_eq_true rfl) rfl ?_
  intro p e s m args below meth c A ls hAe hsz hx hb hml hr hlocks hin hown hE hP hD hA hS hl hex hz
  have hown : s.vm.findClass RX9 = some m.cls := hown
  refine lv_iload_n hx hb dX9_addCall_0 rfl (lv_at hl 1 rfl) ?_
  refine g0_v (rS (rest := []) hx hb hml hown hE hP hD (c89_X9_requirePattern l g 3 (by decide) (by decide) s.heap.size) (kS_X9_requirePattern hE (e617 hE) rfl rfl ⟨(Nat.le_of_ble_eq_true rfl), (Nat.le_of_ble_eq_true rfl)⟩) [] rfl (by decide) rfl hl.1 rfl (lv_room (Nat.le_of_ble_eq_true rfl)) dX9_addCall_1 ⟨(Nat.le_of_ble_eq_true rfl), (Nat.le_of_ble_eq_true rfl)⟩) hP hD hS hA (fun u9 H locs hP hS => ?_)
  refine lv_iload_n hx hb dX9_addCall_4 rfl (lv_at hl 2 rfl) ?_
  refine lv_iconst (v := 0) hx hb dX9_addCall_5 (by decide) ?_
  refine lv_iload_n hx hb dX9_addCall_6 rfl (lv_at hl 1 rfl) ?_
  refine lv_iconst (v := 1) hx hb dX9_addCall_7 (by decide) ?_
  refine x_isub (v := 2) hx hb dX9_addCall_8 (by decide) ?_
  refine g0_v (rS (rest := []) hx hb hml hown hE hP hD (c752_X9_requireRange l g x2 h4 h5 H.size) (kS_X9_requireRange hE (e636 hE) rfl rfl ⟨(Nat.le_of_ble_eq_true rfl), (Nat.le_of_ble_eq_true rfl)⟩) [] rfl (by decide) rfl hl.1 rfl (lv_room (Nat.le_of_ble_eq_true rfl)) dX9_addCall_9 ⟨(Nat.le_of_ble_eq_true rfl), (Nat.le_of_ble_eq_true rfl)⟩) hP hD hS hA (fun u9 H locs hP hS => ?_)
  refine lv_iload_n hx hb dX9_addCall_12 rfl (lv_at hl 3 rfl) ?_
  refine lv_iconst (v := 1) hx hb dX9_addCall_13 (by decide) ?_
  refine lv_bipush (v := 9) hx hb dX9_addCall_14 (by decide) ?_
  refine gx_v (wr := []) (rSx (rest := []) hx hb hml hown hE hP hD hS hA hz (c436_X9_requireRange l g hlx x3 h6 h7 H.size) (kS_X9_requireRange hE (e636 hE) rfl rfl ⟨(Nat.le_of_ble_eq_true rfl), (Nat.le_of_ble_eq_true rfl)⟩) [] rfl (by decide) rfl hl.1 rfl (lv_room (Nat.le_of_ble_eq_true rfl)) dX9_addCall_16 ⟨(Nat.le_of_ble_eq_true rfl), (Nat.le_of_ble_eq_true rfl)⟩) hP hD hS hA [] [] rfl rfl (by decide) (by decide) (fun ce9 q9 H locs hP hD hS hq1 hq2 hq3 => ?_)
  exact x_out hex hlocks hq1 hq2 hq3 hP hD hS hAe hsz (Nat.le_of_ble_eq_true rfl) (Nat.le_of_ble_eq_true rfl) [] (by decide) rfl

set_option maxHeartbeats 4000000 in
set_option maxRecDepth 100000 in
theorem c804_L_addCall (l : Launch) (g : gG) (hlx : l.stackTraces = false) (q1 q4 : Nat) (x2 x3 : Int32) (w9 w10 w11 w12 w13 w14 w15 w16 w17 w18 w19 : Value) (h5 : (0 : Int32) ≤ x2) (h6 : x2 ≤ 2) (h7 : (1 : Int32) ≤ x3) (h8 : (9 : Int32) < x3) (sz : Nat) : Met l yL_addCall [Cond.codeWith yL_addCall cL_addCall 6 (some .int) [(0, 12, 15, 13), (0, 12, 19, 15), (0, 12, 23, 17)]] ({ frames := 8, cells := 1, slots := 6, locals := 145 } : Room) (va_Pc [.ref q1, .int 3, .int x2, .int x3, .ref q4] (PZ g sz [(q1, .inr (11, [w9, w10, w11, w12, w13, w14, w15, w16, w17, w18, w19]))])) (QI g [(q1, .inr (11, [w9, w10, w11, w12, w13, w14, w15, w16, w17, w18, w19]))] sz 2 (fun _ => [])) 1 6 (va_A [(q1, .inr (11, [w9, w10, w11, w12, w13, w14, w15, w16, w17, w18, w19]))] sz) := by
  refine ofH (by decide) (Nat.le_of_ble_eq_true rfl) rfl ?_
  intro p e s m args below meth c A ls hAe hsz hx hb hml hr hlocks hin hown hE hP hD hA hS hl htb hz
  have hown : s.vm.findClass RL = some m.cls := hown
  refine lv_aload hx hb dL_addCall_0 (lv_at hl 4 rfl) ?_
  refine lv_iconst (v := 0) hx hb dL_addCall_2 (by decide) ?_
  refine lv_aload_n hx hb dL_addCall_3 rfl (lv_at hl 0 rfl) ?_
  refine lv_iload_n hx hb dL_addCall_4 rfl (lv_at hl 1 rfl) ?_
  refine lv_iload_n hx hb dL_addCall_5 rfl (lv_at hl 2 rfl) ?_
  refine lv_iload_n hx hb dL_addCall_6 rfl (lv_at hl 3 rfl) ?_
  refine gx_i (wr := [(q1, .inr (11, [w9, w10, w11, w12, w13, w14, w15, w16, w17, w18, w19]))]) (rVx (rest := [.int 0, .ref q4]) hx hb hml hown hE hP hD hS hA hz 0 rfl rfl (c803_X9_addCall l g hlx q1 x2 x3 h5 h6 h7 h8 s.heap.size) (kV_X9_addCall hE (e737 hE) rfl rfl ⟨(Nat.le_of_ble_eq_true rfl), (Nat.le_of_ble_eq_true rfl)⟩) [] rfl (by decide) rfl hl.1 rfl (lv_room (Nat.le_of_ble_eq_true rfl)) dL_addCall_7 ⟨(Nat.le_of_ble_eq_true rfl), (Nat.le_of_ble_eq_true rfl)⟩) hP hD hS hA [] [0] rfl rfl (by decide) (by decide) (fun ce9 q9 H locs hP hD hS hq1 hq2 hq3 => ?_)
  have hP : va_P g.1 vwCl [(q1, .inr (11, [w9, w10, w11, w12, w13, w14, w15, w16, w17, w18, w19]))] H := hP
  have hD : va_D A [(q1, .inr (11, [w9, w10, w11, w12, w13, w14, w15, w16, w17, w18, w19]))] := hD
  refine x_catch (name := "java/lang/IllegalArgumentException") (hh := [(0, 12, 15, 13), (0, 12, 19, 15), (0, 12, 23, 17)]) (tgt := 19) hown htb [⟨0, 12, 15, 13⟩] ⟨0, 12, 19, 15⟩ [⟨0, 12, 23, 17⟩] rfl (fun z hz => by
    rcases List.mem_cons.mp hz with rfl | hz
    · exact Or.inr ⟨by decide, "java/lang/IndexOutOfBoundsException", e532 hE, hE.2.2.2.2.2 ("java/lang/IllegalArgumentException", "java/lang/IndexOutOfBoundsException") (by decide +kernel)⟩
    exact nomatch hz) rfl (by decide) (e611 hE) (e641 hE) hq1 hq2 hq3 rfl ?_
  refine lv_astore (lv' := [(5, .ref q9), (0, .ref q1), (1, .int 3), (2, .int x2), (3, .int x3), (4, .ref q4)]) hx hb dL_addCall_19 hl (by decide) rfl (fun ls hl => ?_)
  refine lv_iconst (v := 2) hx hb dL_addCall_21 (by decide) ?_
  exact x_zret hx hb hr rfl rfl hlocks hP hD hS hAe hsz (Nat.le_of_ble_eq_true rfl) (Nat.le_of_ble_eq_true rfl) (fun _ => 0) [] (by decide) rfl dL_addCall_22

set_option maxHeartbeats 4000000 in
set_option maxRecDepth 100000 in
theorem c805_X10_isRanged (l : Launch) (g : gG) (x1 x2 : Int32) (h3 : (0 : Int32) ≤ x1) (h4 : x1 ≤ 2) (h5 : (1 : Int32) ≤ x2) (h6 : (9 : Int32) < x2) (sz : Nat) : Met l yX10_isRanged [Cond.code yX10_isRanged cX10_isRanged 5 (some .boolean)] ({ frames := 1, cells := 0, slots := 0, locals := 22 } : Room) (va_Pc [.int 3, .int 2, .int x1, .int x2, .int (-1)] (PX g sz [])) (QI g [] sz 0 (fun _ => [])) 0 0 (va_A [] sz) := by
  refine ofN (by decide) (Nat.le_of_ble_eq_true rfl) rfl ?_
  intro p e s m args below meth c A ls hAe hsz hx hb hml hr hlocks hin hown hE hP hD hA hS hl
  have hown : s.vm.findClass RX10 = some m.cls := hown
  refine lv_iload_n hx hb dX10_isRanged_0 rfl (lv_at hl 1 rfl) ?_
  refine lv_if_ne (tgt := 43) hx hb dX10_isRanged_1 (by decide) (fun _ => ?_) (fun h => absurd h (by decide))
  refine lv_iload_n hx hb dX10_isRanged_43 rfl (lv_at hl 1 rfl) ?_
  refine lv_iconst (v := 1) hx hb dX10_isRanged_44 (by decide) ?_
  refine lv_icmp_ne (tgt := 58) hx hb dX10_isRanged_45 (by decide) (fun _ => ?_) (fun h => absurd h (by decide))
  refine lv_iload_n hx hb dX10_isRanged_58 rfl (lv_at hl 2 rfl) ?_
  refine lv_iconst (v := 0) hx hb dX10_isRanged_59 (by decide) ?_
  refine lv_iload_n hx hb dX10_isRanged_60 rfl (lv_at hl 0 rfl) ?_
  refine lv_iconst (v := 1) hx hb dX10_isRanged_61 (by decide) ?_
  refine x_isub (v := 2) hx hb dX10_isRanged_62 (by decide) ?_
  refine g0_i (rS (rest := []) hx hb hml hown hE hP hD (c755_X10_in l g x1 h3 h4 s.heap.size) (kS_X10_in hE (e1431 hE) rfl rfl ⟨(Nat.le_of_ble_eq_true rfl), (Nat.le_of_ble_eq_true rfl)⟩) [] rfl (by decide) rfl hl.1 rfl (lv_room (Nat.le_of_ble_eq_true rfl)) dX10_isRanged_63 ⟨(Nat.le_of_ble_eq_true rfl), (Nat.le_of_ble_eq_true rfl)⟩) hP hD hS hA (fun u9 H locs hP hS => ?_)
  refine lv_if_eq (tgt := 83) hx hb dX10_isRanged_66 (by decide) (fun h => absurd h (by decide)) (fun _ => ?_)
  refine lv_iload_n hx hb dX10_isRanged_69 rfl (lv_at hl 3 rfl) ?_
  refine lv_iconst (v := 1) hx hb dX10_isRanged_70 (by decide) ?_
  refine lv_bipush (v := 9) hx hb dX10_isRanged_71 (by decide) ?_
  refine g0_i (rS (rest := []) hx hb hml hown hE hP hD (c439_X10_in l g x2 h5 h6 H.size) (kS_X10_in hE (e1431 hE) rfl rfl ⟨(Nat.le_of_ble_eq_true rfl), (Nat.le_of_ble_eq_true rfl)⟩) [] rfl (by decide) rfl hl.1 rfl (lv_room (Nat.le_of_ble_eq_true rfl)) dX10_isRanged_73 ⟨(Nat.le_of_ble_eq_true rfl), (Nat.le_of_ble_eq_true rfl)⟩) hP hD hS hA (fun u9 H locs hP hS => ?_)
  refine lv_if_eq (tgt := 83) hx hb dX10_isRanged_76 (by decide) (fun _ => ?_) (fun h => absurd (by decide) h)
  refine lv_iconst (v := 0) hx hb dX10_isRanged_83 (by decide) ?_
  exact x_zret hx hb hr rfl rfl hlocks hP hD hS hAe hsz (Nat.le_of_ble_eq_true rfl) (Nat.le_of_ble_eq_true rfl) (fun _ => 0) [] (by decide) rfl dX10_isRanged_84

set_option maxHeartbeats 4000000 in
set_option maxRecDepth 100000 in
theorem c806_X10_added (l : Launch) (g : gG) (q1 : Nat) (x2 x3 : Int32) (w8 w9 w10 w11 w12 w13 w14 w15 w16 w17 w18 w19 w20 w21 w22 w23 w24 w25 w26 w27 w28 w29 w30 w31 w32 w33 w34 w35 w36 w37 w38 w39 w40 w41 w42 w43 w44 : Value) (h4 : (0 : Int32) ≤ x2) (h5 : x2 ≤ 2) (h6 : (1 : Int32) ≤ x3) (h7 : (9 : Int32) < x3) (sz : Nat) : Met l yX10_added [Cond.code yX10_added cX10_added 6 (some .int)] ({ frames := 2, cells := 0, slots := 0, locals := 46 } : Room) (va_Pc [.ref q1, .int 3, .int 2, .int x2, .int x3, .int (-1)] (PX g sz [(q1, .inr (12, [w8, w9, w10, w11, w12, w13, w14, w15, w16, w17, w18, w19, w20, w21, w22, w23, w24, w25, w26, w27, w28, w29, w30, w31, w32, w33, w34, w35, w36, w37, w38, w39, w40, w41, w42, w43, w44]))])) (QI g [(q1, .inr (12, [w8, w9, w10, w11, w12, w13, w14, w15, w16, w17, w18, w19, w20, w21, w22, w23, w24, w25, w26, w27, w28, w29, w30, w31, w32, w33, w34, w35, w36, w37, w38, w39, w40, w41, w42, w43, w44]))] sz 0 (fun _ => [(q1, .inr (12, [w8, w9, w10, w11, w12, w13, .int 2, w15, w16, w17, w18, w19, w20, w21, w22, w23, w24, w25, w26, w27, w28, w29, w30, w31, w32, w33, w34, w35, w36, w37, w38, w39, w40, w41, w42, w43, w44]))])) 0 0 (va_A [(q1, .inr (12, [w8, w9, w10, w11, w12, w13, w14, w15, w16, w17, w18, w19, w20, w21, w22, w23, w24, w25, w26, w27, w28, w29, w30, w31, w32, w33, w34, w35, w36, w37, w38, w39, w40, w41, w42, w43, w44]))] sz) := by
  refine ofN (by decide) (Nat.le_of_ble_eq_true rfl) rfl ?_
  intro p e s m args below meth c A ls hAe hsz hx hb hml hr hlocks hin hown hE hP hD hA hS hl
  have hown : s.vm.findClass RX10 = some m.cls := hown
  refine lv_aload_n hx hb dX10_added_0 rfl (lv_at hl 0 rfl) ?_
  refine lv_iload_n hx hb dX10_added_1 rfl (lv_at hl 1 rfl) ?_
  refine g0_i (rS (rest := [.ref q1]) hx hb hml hown hE hP hD (c94_X10_isPattern l g 3 (by decide) (by decide) s.heap.size) (kS_X10_isPattern hE (e1428 hE) rfl rfl ⟨(Nat.le_of_ble_eq_true rfl), (Nat.le_of_ble_eq_true rfl)⟩) [] rfl (by decide) rfl hl.1 rfl (lv_room (Nat.le_of_ble_eq_true rfl)) dX10_added_2 ⟨(Nat.le_of_ble_eq_true rfl), (Nat.le_of_ble_eq_true rfl)⟩) hP hD hS hA (fun u9 H locs hP hS => ?_)
  refine lv_if_ne (tgt := 12) hx hb dX10_added_5 (by decide) (fun _ => ?_) (fun h => absurd h (by decide))
  refine lv_iload_n hx hb dX10_added_12 rfl (lv_at hl 1 rfl) ?_
  refine lv_iload_n hx hb dX10_added_13 rfl (lv_at hl 2 rfl) ?_
  refine lv_iload_n hx hb dX10_added_14 rfl (lv_at hl 3 rfl) ?_
  refine lv_iload hx hb dX10_added_15 (lv_at hl 4 rfl) ?_
  refine lv_iload hx hb dX10_added_17 (lv_at hl 5 rfl) ?_
  refine g0_i (rS (rest := [.ref q1]) hx hb hml hown hE hP hD (c805_X10_isRanged l g x2 x3 h4 h5 h6 h7 H.size) (kS_X10_isRanged hE (e1434 hE) rfl rfl ⟨(Nat.le_of_ble_eq_true rfl), (Nat.le_of_ble_eq_true rfl)⟩) [] rfl (by decide) rfl hl.1 rfl (lv_room (Nat.le_of_ble_eq_true rfl)) dX10_added_19 ⟨(Nat.le_of_ble_eq_true rfl), (Nat.le_of_ble_eq_true rfl)⟩) hP hD hS hA (fun u9 H locs hP hS => ?_)
  refine lv_if_ne (tgt := 29) hx hb dX10_added_22 (by decide) (fun h => absurd h (by decide)) (fun _ => ?_)
  refine lv_iconst (v := 2) hx hb dX10_added_25 (by decide) ?_
  refine lv_goto (tgt := 30) hx hb dX10_added_26 (by decide) ?_
  refine pf_RX10_86 (ws' := [(q1, .inr (12, [w8, w9, w10, w11, w12, w13, .int 2, w15, w16, w17, w18, w19, w20, w21, w22, w23, w24, w25, w26, w27, w28, w29, w30, w31, w32, w33, w34, w35, w36, w37, w38, w39, w40, w41, w42, w43, w44]))]) hx hb hown hE hP hD hS 0 rfl rfl rfl (Nat.le_of_ble_eq_true rfl) dX10_added_30 rfl (fun H locs hP hD hS => ?_)
  refine lv_aload_n hx hb dX10_added_33 rfl (lv_at hl 0 rfl) ?_
  refine gf_RX10_86 hx hb hown hE hP 0 rfl rfl dX10_added_34 ?_
  refine lv_if_le (tgt := 42) hx hb dX10_added_37 (by decide) (fun h => absurd h (by decide)) (fun _ => ?_)
  refine lv_iconst (v := 0) hx hb dX10_added_40 (by decide) ?_
  exact x_zret hx hb hr rfl rfl hlocks hP hD hS hAe hsz (Nat.le_of_ble_eq_true rfl) (Nat.le_of_ble_eq_true rfl) (fun _ => 0) [0] (by decide) rfl dX10_added_41

set_option maxHeartbeats 4000000 in
set_option maxRecDepth 100000 in
theorem c807_X10_addCall (l : Launch) (g : gG) (q1 q44 q45 q46 q47 q48 : Nat) (x2 x3 : Int32) (w5 w7 w10 w13 w14 w15 w16 w17 w18 w19 w20 w21 w22 w23 w24 w25 w26 w27 w28 w29 w30 w31 w32 w33 w34 w35 w36 w37 w38 w39 w40 : Value) (f49 : Nat → Int32) (hf50 : f49 147 = 0) (hf51 : f49 0 = 0) (hf52 : f49 49 = 0) (hf53 : f49 98 = 0) (hf54 : f49 196 = 0) (hf55 : f49 245 = 0) (hf56 : f49 294 = 0) (hf57 : f49 343 = 0) (hf58 : f49 392 = 0) (h41 : (0 : Int32) ≤ x2) (h42 : x2 ≤ 2) (h43 : (1 : Int32) ≤ x3) (h60 : (9 : Int32) < x3) (sz : Nat) : Met l yX10_addCall [Cond.code yX10_addCall cX10_addCall 4 (some .int)] ({ frames := 3, cells := 0, slots := 0, locals := 71 } : Room) (va_Pc [.ref q1, .int 3, .int x2, .int x3] (PX g sz [(q46, .inl (g.2 0, 3976, .inl (fun _ => 0))), (q48, .inl (g.2 0, 8, .inl (fun _ => 0))), (q47, .inl (g.2 0, 8, .inl (fun _ => 0))), (q45, .inl (g.2 0, 497, .inl (fun _ => 0))), (q44, .inl (g.2 0, 497, .inl f49)), (q1, .inr (12, [.ref q44, w5, .ref q45, w7, .ref q46, .int 0, w10, .ref q47, .ref q48, w13, w14, w15, w16, w17, w18, w19, w20, w21, w22, w23, w24, w25, w26, w27, w28, w29, w30, w31, w32, w33, w34, w35, w36, w37, w38, w39, w40]))])) (QI g [(q46, .inl (g.2 0, 3976, .inl (fun _ => 0))), (q48, .inl (g.2 0, 8, .inl (fun _ => 0))), (q47, .inl (g.2 0, 8, .inl (fun _ => 0))), (q45, .inl (g.2 0, 497, .inl (fun _ => 0))), (q44, .inl (g.2 0, 497, .inl f49)), (q1, .inr (12, [.ref q44, w5, .ref q45, w7, .ref q46, .int 0, w10, .ref q47, .ref q48, w13, w14, w15, w16, w17, w18, w19, w20, w21, w22, w23, w24, w25, w26, w27, w28, w29, w30, w31, w32, w33, w34, w35, w36, w37, w38, w39, w40]))] sz 0 (fun _ => [(q1, .inr (12, [.ref q44, w5, .ref q45, w7, .ref q46, .int 0, .int 2, .ref q47, .ref q48, w13, w14, w15, w16, w17, w18, w19, w20, w21, w22, w23, w24, w25, w26, w27, w28, w29, w30, w31, w32, w33, w34, w35, w36, w37, w38, w39, w40]))])) 0 0 (va_A [(q46, .inl (g.2 0, 3976, .inl (fun _ => 0))), (q48, .inl (g.2 0, 8, .inl (fun _ => 0))), (q47, .inl (g.2 0, 8, .inl (fun _ => 0))), (q45, .inl (g.2 0, 497, .inl (fun _ => 0))), (q44, .inl (g.2 0, 497, .inl f49)), (q1, .inr (12, [.ref q44, w5, .ref q45, w7, .ref q46, .int 0, w10, .ref q47, .ref q48, w13, w14, w15, w16, w17, w18, w19, w20, w21, w22, w23, w24, w25, w26, w27, w28, w29, w30, w31, w32, w33, w34, w35, w36, w37, w38, w39, w40]))] sz) := by
  refine ofN (by decide) (Nat.le_of_ble_eq_true rfl) rfl ?_
  intro p e s m args below meth c A ls hAe hsz hx hb hml hr hlocks hin hown hE hP hD hA hS hl
  have hown : s.vm.findClass RX10 = some m.cls := hown
  refine lv_aload_n hx hb dX10_addCall_0 rfl (lv_at hl 0 rfl) ?_
  refine lv_iload_n hx hb dX10_addCall_1 rfl (lv_at hl 1 rfl) ?_
  refine lv_iconst (v := 2) hx hb dX10_addCall_2 (by decide) ?_
  refine lv_iload_n hx hb dX10_addCall_3 rfl (lv_at hl 2 rfl) ?_
  refine lv_iload_n hx hb dX10_addCall_4 rfl (lv_at hl 3 rfl) ?_
  refine lv_iconst (v := (-1)) hx hb dX10_addCall_5 (by decide) ?_
  refine g_i (wr := [(q46, .inl (g.2 0, 3976, .inl (fun _ => 0))), (q48, .inl (g.2 0, 8, .inl (fun _ => 0))), (q47, .inl (g.2 0, 8, .inl (fun _ => 0))), (q45, .inl (g.2 0, 497, .inl (fun _ => 0))), (q44, .inl (g.2 0, 497, .inl f49))]) (rV (rest := []) hx hb hml hown hE hP hD 5 rfl rfl (c806_X10_added l g q1 x2 x3 (.ref q44) w5 (.ref q45) w7 (.ref q46) (.int 0) w10 (.ref q47) (.ref q48) w13 w14 w15 w16 w17 w18 w19 w20 w21 w22 w23 w24 w25 w26 w27 w28 w29 w30 w31 w32 w33 w34 w35 w36 w37 w38 w39 w40 h41 h42 h43 h60 s.heap.size) (kV_X10_added hE (e1424 hE) rfl rfl ⟨(Nat.le_of_ble_eq_true rfl), (Nat.le_of_ble_eq_true rfl)⟩) [5] rfl (by decide) rfl hl.1 rfl (lv_room (Nat.le_of_ble_eq_true rfl)) dX10_addCall_6 ⟨(Nat.le_of_ble_eq_true rfl), (Nat.le_of_ble_eq_true rfl)⟩) hP hD hS hA [5] [0, 1, 2, 3, 4] rfl rfl (by decide) (by decide) (fun u1 H locs hP hD hS => ?_)
  have hP : va_P g.1 vwCl [(q46, .inl (g.2 0, 3976, .inl (fun _ => 0))), (q48, .inl (g.2 0, 8, .inl (fun _ => 0))), (q47, .inl (g.2 0, 8, .inl (fun _ => 0))), (q45, .inl (g.2 0, 497, .inl (fun _ => 0))), (q44, .inl (g.2 0, 497, .inl f49)), (q1, .inr (12, [.ref q44, w5, .ref q45, w7, .ref q46, .int 0, .int 2, .ref q47, .ref q48, w13, w14, w15, w16, w17, w18, w19, w20, w21, w22, w23, w24, w25, w26, w27, w28, w29, w30, w31, w32, w33, w34, w35, w36, w37, w38, w39, w40]))] H := hP
  have hD : va_D A [(q46, .inl (g.2 0, 3976, .inl (fun _ => 0))), (q48, .inl (g.2 0, 8, .inl (fun _ => 0))), (q47, .inl (g.2 0, 8, .inl (fun _ => 0))), (q45, .inl (g.2 0, 497, .inl (fun _ => 0))), (q44, .inl (g.2 0, 497, .inl f49)), (q1, .inr (12, [.ref q44, w5, .ref q45, w7, .ref q46, .int 0, .int 2, .ref q47, .ref q48, w13, w14, w15, w16, w17, w18, w19, w20, w21, w22, w23, w24, w25, w26, w27, w28, w29, w30, w31, w32, w33, w34, w35, w36, w37, w38, w39, w40]))] := hD
  exact x_zret hx hb hr rfl rfl hlocks hP hD hS hAe hsz (Nat.le_of_ble_eq_true rfl) (Nat.le_of_ble_eq_true rfl) (fun _ => 0) [5] (by decide) rfl dX10_addCall_9

set_option maxHeartbeats 4000000 in
set_option maxRecDepth 100000 in
theorem c808_X9_requireRange (l : Launch) (g : gG) (hlx : l.stackTraces = false) (x1 : Int32) (h2 : (0 : Int32) ≤ x1) (h3 : (2 : Int32) < x1) (sz : Nat) : vx_Met l yX9_requireRange [Cond.code yX9_requireRange cX9_requireRange 3 none] ({ frames := 6, cells := 1, slots := 6, locals := 100 } : Room) (va_Pc [.int x1, .int 0, .int 2] (PZ g sz [])) NV (XW g [] sz "java/lang/IllegalArgumentException" []) 1 6 (va_A [] sz) := by
  refine ofX (by decide) (Nat.le_of_ble_eq_true rfl) rfl ?_
  intro p e s m args below meth c A ls hAe hsz hx hb hml hr hlocks hin hown hE hP hD hA hS hl hex hz
  have hown : s.vm.findClass RX9 = some m.cls := hown
  refine lv_iload_n hx hb dX9_requireRange_0 rfl (lv_at hl 0 rfl) ?_
  refine lv_iload_n hx hb dX9_requireRange_1 rfl (lv_at hl 1 rfl) ?_
  refine lv_icmp_lt (tgt := 10) hx hb dX9_requireRange_2 (by decide) (fun h => absurd h (i_nlt h2)) (fun _ => ?_)
  refine lv_iload_n hx hb dX9_requireRange_5 rfl (lv_at hl 0 rfl) ?_
  refine lv_iload_n hx hb dX9_requireRange_6 rfl (lv_at hl 2 rfl) ?_
  refine lv_icmp_le (tgt := 21) hx hb dX9_requireRange_7 (by decide) (fun h => absurd h (i_nle h3)) (fun _ => ?_)
  exact x_throwW (text := "a number is out of range") (names := ["java/lang/RuntimeException", "java/lang/Exception"]) hx hb hlx hown hE (by decide) (by decide) (e639 hE) (e20 hE) (by decide +kernel) (th_215 hE) tg_215_211 hz (by rw [hml]; exact hl.1) dX9_requireRange_10 dX9_requireRange_13 dX9_requireRange_14 dX9_requireRange_17 dX9_requireRange_20 hex (Nat.le_of_ble_eq_true rfl) (Nat.le_of_ble_eq_true rfl) (Nat.le_of_ble_eq_true rfl) (Nat.le_of_ble_eq_true rfl) hlocks hP hD hS hAe hsz (Nat.le_of_ble_eq_true rfl) (Nat.le_of_ble_eq_true rfl) [] (by decide) rfl

set_option maxHeartbeats 4000000 in
set_option maxRecDepth 100000 in
theorem c809_X9_addCall (l : Launch) (g : gG) (hlx : l.stackTraces = false) (q1 : Nat) (x2 x3 : Int32) (h4 : (0 : Int32) ≤ x2) (h5 : (2 : Int32) < x2) (sz : Nat) : vx_Met l yX9_addCall [Cond.code yX9_addCall cX9_addCall 4 (some .int)] ({ frames := 7, cells := 1, slots := 6, locals := 122 } : Room) (va_Pc [.ref q1, .int 3, .int x2, .int x3] (PZ g sz [])) NI (XW g [] sz "java/lang/IllegalArgumentException" []) 1 6 (va_A [] sz) := by
  refine ofX (by decide) (Nat.le_of_ble_eq_true rfl) rfl ?_
  intro p e s m args below meth c A ls hAe hsz hx hb hml hr hlocks hin hown hE hP hD hA hS hl hex hz
  have hown : s.vm.findClass RX9 = some m.cls := hown
  refine lv_iload_n hx hb dX9_addCall_0 rfl (lv_at hl 1 rfl) ?_
  refine g0_v (rS (rest := []) hx hb hml hown hE hP hD (c89_X9_requirePattern l g 3 (by decide) (by decide) s.heap.size) (kS_X9_requirePattern hE (e617 hE) rfl rfl ⟨(Nat.le_of_ble_eq_true rfl), (Nat.le_of_ble_eq_true rfl)⟩) [] rfl (by decide) rfl hl.1 rfl (lv_room (Nat.le_of_ble_eq_true rfl)) dX9_addCall_1 ⟨(Nat.le_of_ble_eq_true rfl), (Nat.le_of_ble_eq_true rfl)⟩) hP hD hS hA (fun u9 H locs hP hS => ?_)
  refine lv_iload_n hx hb dX9_addCall_4 rfl (lv_at hl 2 rfl) ?_
  refine lv_iconst (v := 0) hx hb dX9_addCall_5 (by decide) ?_
  refine lv_iload_n hx hb dX9_addCall_6 rfl (lv_at hl 1 rfl) ?_
  refine lv_iconst (v := 1) hx hb dX9_addCall_7 (by decide) ?_
  refine x_isub (v := 2) hx hb dX9_addCall_8 (by decide) ?_
  refine gx_v (wr := []) (rSx (rest := []) hx hb hml hown hE hP hD hS hA hz (c808_X9_requireRange l g hlx x2 h4 h5 H.size) (kS_X9_requireRange hE (e636 hE) rfl rfl ⟨(Nat.le_of_ble_eq_true rfl), (Nat.le_of_ble_eq_true rfl)⟩) [] rfl (by decide) rfl hl.1 rfl (lv_room (Nat.le_of_ble_eq_true rfl)) dX9_addCall_9 ⟨(Nat.le_of_ble_eq_true rfl), (Nat.le_of_ble_eq_true rfl)⟩) hP hD hS hA [] [] rfl rfl (by decide) (by decide) (fun ce9 q9 H locs hP hD hS hq1 hq2 hq3 => ?_)
  exact x_out hex hlocks hq1 hq2 hq3 hP hD hS hAe hsz (Nat.le_of_ble_eq_true rfl) (Nat.le_of_ble_eq_true rfl) [] (by decide) rfl

set_option maxHeartbeats 4000000 in
set_option maxRecDepth 100000 in
theorem c810_L_addCall (l : Launch) (g : gG) (hlx : l.stackTraces = false) (q1 q4 : Nat) (x2 x3 : Int32) (w7 w8 w9 w10 w11 w12 w13 w14 w15 w16 w17 : Value) (h5 : (0 : Int32) ≤ x2) (h6 : (2 : Int32) < x2) (sz : Nat) : Met l yL_addCall [Cond.codeWith yL_addCall cL_addCall 6 (some .int) [(0, 12, 15, 13), (0, 12, 19, 15), (0, 12, 23, 17)]] ({ frames := 8, cells := 1, slots := 6, locals := 145 } : Room) (va_Pc [.ref q1, .int 3, .int x2, .int x3, .ref q4] (PZ g sz [(q1, .inr (11, [w7, w8, w9, w10, w11, w12, w13, w14, w15, w16, w17]))])) (QI g [(q1, .inr (11, [w7, w8, w9, w10, w11, w12, w13, w14, w15, w16, w17]))] sz 2 (fun _ => [])) 1 6 (va_A [(q1, .inr (11, [w7, w8, w9, w10, w11, w12, w13, w14, w15, w16, w17]))] sz) := by
  refine ofH (by decide) (Nat.le_of_ble_eq_true rfl) rfl ?_
  intro p e s m args below meth c A ls hAe hsz hx hb hml hr hlocks hin hown hE hP hD hA hS hl htb hz
  have hown : s.vm.findClass RL = some m.cls := hown
  refine lv_aload hx hb dL_addCall_0 (lv_at hl 4 rfl) ?_
  refine lv_iconst (v := 0) hx hb dL_addCall_2 (by decide) ?_
  refine lv_aload_n hx hb dL_addCall_3 rfl (lv_at hl 0 rfl) ?_
  refine lv_iload_n hx hb dL_addCall_4 rfl (lv_at hl 1 rfl) ?_
  refine lv_iload_n hx hb dL_addCall_5 rfl (lv_at hl 2 rfl) ?_
  refine lv_iload_n hx hb dL_addCall_6 rfl (lv_at hl 3 rfl) ?_
  refine gx_i (wr := [(q1, .inr (11, [w7, w8, w9, w10, w11, w12, w13, w14, w15, w16, w17]))]) (rVx (rest := [.int 0, .ref q4]) hx hb hml hown hE hP hD hS hA hz 0 rfl rfl (c809_X9_addCall l g hlx q1 x2 x3 h5 h6 s.heap.size) (kV_X9_addCall hE (e737 hE) rfl rfl ⟨(Nat.le_of_ble_eq_true rfl), (Nat.le_of_ble_eq_true rfl)⟩) [] rfl (by decide) rfl hl.1 rfl (lv_room (Nat.le_of_ble_eq_true rfl)) dL_addCall_7 ⟨(Nat.le_of_ble_eq_true rfl), (Nat.le_of_ble_eq_true rfl)⟩) hP hD hS hA [] [0] rfl rfl (by decide) (by decide) (fun ce9 q9 H locs hP hD hS hq1 hq2 hq3 => ?_)
  have hP : va_P g.1 vwCl [(q1, .inr (11, [w7, w8, w9, w10, w11, w12, w13, w14, w15, w16, w17]))] H := hP
  have hD : va_D A [(q1, .inr (11, [w7, w8, w9, w10, w11, w12, w13, w14, w15, w16, w17]))] := hD
  refine x_catch (name := "java/lang/IllegalArgumentException") (hh := [(0, 12, 15, 13), (0, 12, 19, 15), (0, 12, 23, 17)]) (tgt := 19) hown htb [⟨0, 12, 15, 13⟩] ⟨0, 12, 19, 15⟩ [⟨0, 12, 23, 17⟩] rfl (fun z hz => by
    rcases List.mem_cons.mp hz with rfl | hz
    · exact Or.inr ⟨by decide, "java/lang/IndexOutOfBoundsException", e532 hE, hE.2.2.2.2.2 ("java/lang/IllegalArgumentException", "java/lang/IndexOutOfBoundsException") (by decide +kernel)⟩
    exact nomatch hz) rfl (by decide) (e611 hE) (e641 hE) hq1 hq2 hq3 rfl ?_
  refine lv_astore (lv' := [(5, .ref q9), (0, .ref q1), (1, .int 3), (2, .int x2), (3, .int x3), (4, .ref q4)]) hx hb dL_addCall_19 hl (by decide) rfl (fun ls hl => ?_)
  refine lv_iconst (v := 2) hx hb dL_addCall_21 (by decide) ?_
  exact x_zret hx hb hr rfl rfl hlocks hP hD hS hAe hsz (Nat.le_of_ble_eq_true rfl) (Nat.le_of_ble_eq_true rfl) (fun _ => 0) [] (by decide) rfl dL_addCall_22

set_option maxHeartbeats 4000000 in
set_option maxRecDepth 100000 in
theorem c811_X10_in (l : Launch) (g : gG) (x1 : Int32) (h2 : (0 : Int32) ≤ x1) (h3 : (2 : Int32) < x1) (sz : Nat) : Met l yX10_in [Cond.code yX10_in cX10_in 3 (some .boolean)] ({ frames := 0, cells := 0, slots := 0, locals := 0 } : Room) (va_Pc [.int x1, .int 0, .int 2] (PX g sz [])) (QI g [] sz 0 (fun _ => [])) 0 0 (va_A [] sz) := by
  refine ofN (by decide) (Nat.le_of_ble_eq_true rfl) rfl ?_
  intro p e s m args below meth c A ls hAe hsz hx hb hml hr hlocks hin hown hE hP hD hA hS hl
  have hown : s.vm.findClass RX10 = some m.cls := hown
  refine lv_iload_n hx hb dX10_in_0 rfl (lv_at hl 0 rfl) ?_
  refine lv_iload_n hx hb dX10_in_1 rfl (lv_at hl 1 rfl) ?_
  refine lv_icmp_lt (tgt := 14) hx hb dX10_in_2 (by decide) (fun h => absurd h (i_nlt h2)) (fun _ => ?_)
  refine lv_iload_n hx hb dX10_in_5 rfl (lv_at hl 0 rfl) ?_
  refine lv_iload_n hx hb dX10_in_6 rfl (lv_at hl 2 rfl) ?_
  refine lv_icmp_gt (tgt := 14) hx hb dX10_in_7 (by decide) (fun _ => ?_) (fun h => absurd h3 h)
  refine lv_iconst (v := 0) hx hb dX10_in_14 (by decide) ?_
  exact x_zret hx hb hr rfl rfl hlocks hP hD hS hAe hsz (Nat.le_of_ble_eq_true rfl) (Nat.le_of_ble_eq_true rfl) (fun _ => 0) [] (by decide) rfl dX10_in_15

set_option maxHeartbeats 4000000 in
set_option maxRecDepth 100000 in
theorem c812_X10_isRanged (l : Launch) (g : gG) (x1 x2 : Int32) (h3 : (0 : Int32) ≤ x1) (h4 : (2 : Int32) < x1) (sz : Nat) : Met l yX10_isRanged [Cond.code yX10_isRanged cX10_isRanged 5 (some .boolean)] ({ frames := 1, cells := 0, slots := 0, locals := 22 } : Room) (va_Pc [.int 3, .int 2, .int x1, .int x2, .int (-1)] (PX g sz [])) (QI g [] sz 0 (fun _ => [])) 0 0 (va_A [] sz) := by
  refine ofN (by decide) (Nat.le_of_ble_eq_true rfl) rfl ?_
  intro p e s m args below meth c A ls hAe hsz hx hb hml hr hlocks hin hown hE hP hD hA hS hl
  have hown : s.vm.findClass RX10 = some m.cls := hown
  refine lv_iload_n hx hb dX10_isRanged_0 rfl (lv_at hl 1 rfl) ?_
  refine lv_if_ne (tgt := 43) hx hb dX10_isRanged_1 (by decide) (fun _ => ?_) (fun h => absurd h (by decide))
  refine lv_iload_n hx hb dX10_isRanged_43 rfl (lv_at hl 1 rfl) ?_
  refine lv_iconst (v := 1) hx hb dX10_isRanged_44 (by decide) ?_
  refine lv_icmp_ne (tgt := 58) hx hb dX10_isRanged_45 (by decide) (fun _ => ?_) (fun h => absurd h (by decide))
  refine lv_iload_n hx hb dX10_isRanged_58 rfl (lv_at hl 2 rfl) ?_
  refine lv_iconst (v := 0) hx hb dX10_isRanged_59 (by decide) ?_
  refine lv_iload_n hx hb dX10_isRanged_60 rfl (lv_at hl 0 rfl) ?_
  refine lv_iconst (v := 1) hx hb dX10_isRanged_61 (by decide) ?_
  refine x_isub (v := 2) hx hb dX10_isRanged_62 (by decide) ?_
  refine g0_i (rS (rest := []) hx hb hml hown hE hP hD (c811_X10_in l g x1 h3 h4 s.heap.size) (kS_X10_in hE (e1431 hE) rfl rfl ⟨(Nat.le_of_ble_eq_true rfl), (Nat.le_of_ble_eq_true rfl)⟩) [] rfl (by decide) rfl hl.1 rfl (lv_room (Nat.le_of_ble_eq_true rfl)) dX10_isRanged_63 ⟨(Nat.le_of_ble_eq_true rfl), (Nat.le_of_ble_eq_true rfl)⟩) hP hD hS hA (fun u9 H locs hP hS => ?_)
  refine lv_if_eq (tgt := 83) hx hb dX10_isRanged_66 (by decide) (fun _ => ?_) (fun h => absurd (by decide) h)
  refine lv_iconst (v := 0) hx hb dX10_isRanged_83 (by decide) ?_
  exact x_zret hx hb hr rfl rfl hlocks hP hD hS hAe hsz (Nat.le_of_ble_eq_true rfl) (Nat.le_of_ble_eq_true rfl) (fun _ => 0) [] (by decide) rfl dX10_isRanged_84

set_option maxHeartbeats 4000000 in
set_option maxRecDepth 100000 in
theorem c813_X10_added (l : Launch) (g : gG) (q1 : Nat) (x2 x3 : Int32) (w6 w7 w8 w9 w10 w11 w12 w13 w14 w15 w16 w17 w18 w19 w20 w21 w22 w23 w24 w25 w26 w27 w28 w29 w30 w31 w32 w33 w34 w35 w36 w37 w38 w39 w40 w41 w42 : Value) (h4 : (0 : Int32) ≤ x2) (h5 : (2 : Int32) < x2) (sz : Nat) : Met l yX10_added [Cond.code yX10_added cX10_added 6 (some .int)] ({ frames := 2, cells := 0, slots := 0, locals := 46 } : Room) (va_Pc [.ref q1, .int 3, .int 2, .int x2, .int x3, .int (-1)] (PX g sz [(q1, .inr (12, [w6, w7, w8, w9, w10, w11, w12, w13, w14, w15, w16, w17, w18, w19, w20, w21, w22, w23, w24, w25, w26, w27, w28, w29, w30, w31, w32, w33, w34, w35, w36, w37, w38, w39, w40, w41, w42]))])) (QI g [(q1, .inr (12, [w6, w7, w8, w9, w10, w11, w12, w13, w14, w15, w16, w17, w18, w19, w20, w21, w22, w23, w24, w25, w26, w27, w28, w29, w30, w31, w32, w33, w34, w35, w36, w37, w38, w39, w40, w41, w42]))] sz 0 (fun _ => [(q1, .inr (12, [w6, w7, w8, w9, w10, w11, .int 2, w13, w14, w15, w16, w17, w18, w19, w20, w21, w22, w23, w24, w25, w26, w27, w28, w29, w30, w31, w32, w33, w34, w35, w36, w37, w38, w39, w40, w41, w42]))])) 0 0 (va_A [(q1, .inr (12, [w6, w7, w8, w9, w10, w11, w12, w13, w14, w15, w16, w17, w18, w19, w20, w21, w22, w23, w24, w25, w26, w27, w28, w29, w30, w31, w32, w33, w34, w35, w36, w37, w38, w39, w40, w41, w42]))] sz) := by
  refine ofN (by decide) (Nat.le_of_ble_eq_true rfl) rfl ?_
  intro p e s m args below meth c A ls hAe hsz hx hb hml hr hlocks hin hown hE hP hD hA hS hl
  have hown : s.vm.findClass RX10 = some m.cls := hown
  refine lv_aload_n hx hb dX10_added_0 rfl (lv_at hl 0 rfl) ?_
  refine lv_iload_n hx hb dX10_added_1 rfl (lv_at hl 1 rfl) ?_
  refine g0_i (rS (rest := [.ref q1]) hx hb hml hown hE hP hD (c94_X10_isPattern l g 3 (by decide) (by decide) s.heap.size) (kS_X10_isPattern hE (e1428 hE) rfl rfl ⟨(Nat.le_of_ble_eq_true rfl), (Nat.le_of_ble_eq_true rfl)⟩) [] rfl (by decide) rfl hl.1 rfl (lv_room (Nat.le_of_ble_eq_true rfl)) dX10_added_2 ⟨(Nat.le_of_ble_eq_true rfl), (Nat.le_of_ble_eq_true rfl)⟩) hP hD hS hA (fun u9 H locs hP hS => ?_)
  refine lv_if_ne (tgt := 12) hx hb dX10_added_5 (by decide) (fun _ => ?_) (fun h => absurd h (by decide))
  refine lv_iload_n hx hb dX10_added_12 rfl (lv_at hl 1 rfl) ?_
  refine lv_iload_n hx hb dX10_added_13 rfl (lv_at hl 2 rfl) ?_
  refine lv_iload_n hx hb dX10_added_14 rfl (lv_at hl 3 rfl) ?_
  refine lv_iload hx hb dX10_added_15 (lv_at hl 4 rfl) ?_
  refine lv_iload hx hb dX10_added_17 (lv_at hl 5 rfl) ?_
  refine g0_i (rS (rest := [.ref q1]) hx hb hml hown hE hP hD (c812_X10_isRanged l g x2 x3 h4 h5 H.size) (kS_X10_isRanged hE (e1434 hE) rfl rfl ⟨(Nat.le_of_ble_eq_true rfl), (Nat.le_of_ble_eq_true rfl)⟩) [] rfl (by decide) rfl hl.1 rfl (lv_room (Nat.le_of_ble_eq_true rfl)) dX10_added_19 ⟨(Nat.le_of_ble_eq_true rfl), (Nat.le_of_ble_eq_true rfl)⟩) hP hD hS hA (fun u9 H locs hP hS => ?_)
  refine lv_if_ne (tgt := 29) hx hb dX10_added_22 (by decide) (fun h => absurd h (by decide)) (fun _ => ?_)
  refine lv_iconst (v := 2) hx hb dX10_added_25 (by decide) ?_
  refine lv_goto (tgt := 30) hx hb dX10_added_26 (by decide) ?_
  refine pf_RX10_86 (ws' := [(q1, .inr (12, [w6, w7, w8, w9, w10, w11, .int 2, w13, w14, w15, w16, w17, w18, w19, w20, w21, w22, w23, w24, w25, w26, w27, w28, w29, w30, w31, w32, w33, w34, w35, w36, w37, w38, w39, w40, w41, w42]))]) hx hb hown hE hP hD hS 0 rfl rfl rfl (Nat.le_of_ble_eq_true rfl) dX10_added_30 rfl (fun H locs hP hD hS => ?_)
  refine lv_aload_n hx hb dX10_added_33 rfl (lv_at hl 0 rfl) ?_
  refine gf_RX10_86 hx hb hown hE hP 0 rfl rfl dX10_added_34 ?_
  refine lv_if_le (tgt := 42) hx hb dX10_added_37 (by decide) (fun h => absurd h (by decide)) (fun _ => ?_)
  refine lv_iconst (v := 0) hx hb dX10_added_40 (by decide) ?_
  exact x_zret hx hb hr rfl rfl hlocks hP hD hS hAe hsz (Nat.le_of_ble_eq_true rfl) (Nat.le_of_ble_eq_true rfl) (fun _ => 0) [0] (by decide) rfl dX10_added_41

set_option maxHeartbeats 4000000 in
set_option maxRecDepth 100000 in
theorem c814_X10_addCall (l : Launch) (g : gG) (q1 q43 q44 q45 q46 q47 : Nat) (x2 x3 : Int32) (w5 w7 w10 w13 w14 w15 w16 w17 w18 w19 w20 w21 w22 w23 w24 w25 w26 w27 w28 w29 w30 w31 w32 w33 w34 w35 w36 w37 w38 w39 w40 : Value) (f48 : Nat → Int32) (hf49 : f48 147 = 0) (hf50 : f48 0 = 0) (hf51 : f48 49 = 0) (hf52 : f48 98 = 0) (hf53 : f48 196 = 0) (hf54 : f48 245 = 0) (hf55 : f48 294 = 0) (hf56 : f48 343 = 0) (hf57 : f48 392 = 0) (h41 : (0 : Int32) ≤ x2) (h42 : (2 : Int32) < x2) (sz : Nat) : Met l yX10_addCall [Cond.code yX10_addCall cX10_addCall 4 (some .int)] ({ frames := 3, cells := 0, slots := 0, locals := 71 } : Room) (va_Pc [.ref q1, .int 3, .int x2, .int x3] (PX g sz [(q45, .inl (g.2 0, 3976, .inl (fun _ => 0))), (q47, .inl (g.2 0, 8, .inl (fun _ => 0))), (q46, .inl (g.2 0, 8, .inl (fun _ => 0))), (q44, .inl (g.2 0, 497, .inl (fun _ => 0))), (q43, .inl (g.2 0, 497, .inl f48)), (q1, .inr (12, [.ref q43, w5, .ref q44, w7, .ref q45, .int 0, w10, .ref q46, .ref q47, w13, w14, w15, w16, w17, w18, w19, w20, w21, w22, w23, w24, w25, w26, w27, w28, w29, w30, w31, w32, w33, w34, w35, w36, w37, w38, w39, w40]))])) (QI g [(q45, .inl (g.2 0, 3976, .inl (fun _ => 0))), (q47, .inl (g.2 0, 8, .inl (fun _ => 0))), (q46, .inl (g.2 0, 8, .inl (fun _ => 0))), (q44, .inl (g.2 0, 497, .inl (fun _ => 0))), (q43, .inl (g.2 0, 497, .inl f48)), (q1, .inr (12, [.ref q43, w5, .ref q44, w7, .ref q45, .int 0, w10, .ref q46, .ref q47, w13, w14, w15, w16, w17, w18, w19, w20, w21, w22, w23, w24, w25, w26, w27, w28, w29, w30, w31, w32, w33, w34, w35, w36, w37, w38, w39, w40]))] sz 0 (fun _ => [(q1, .inr (12, [.ref q43, w5, .ref q44, w7, .ref q45, .int 0, .int 2, .ref q46, .ref q47, w13, w14, w15, w16, w17, w18, w19, w20, w21, w22, w23, w24, w25, w26, w27, w28, w29, w30, w31, w32, w33, w34, w35, w36, w37, w38, w39, w40]))])) 0 0 (va_A [(q45, .inl (g.2 0, 3976, .inl (fun _ => 0))), (q47, .inl (g.2 0, 8, .inl (fun _ => 0))), (q46, .inl (g.2 0, 8, .inl (fun _ => 0))), (q44, .inl (g.2 0, 497, .inl (fun _ => 0))), (q43, .inl (g.2 0, 497, .inl f48)), (q1, .inr (12, [.ref q43, w5, .ref q44, w7, .ref q45, .int 0, w10, .ref q46, .ref q47, w13, w14, w15, w16, w17, w18, w19, w20, w21, w22, w23, w24, w25, w26, w27, w28, w29, w30, w31, w32, w33, w34, w35, w36, w37, w38, w39, w40]))] sz) := by
  refine ofN (by decide) (Nat.le_of_ble_eq_true rfl) rfl ?_
  intro p e s m args below meth c A ls hAe hsz hx hb hml hr hlocks hin hown hE hP hD hA hS hl
  have hown : s.vm.findClass RX10 = some m.cls := hown
  refine lv_aload_n hx hb dX10_addCall_0 rfl (lv_at hl 0 rfl) ?_
  refine lv_iload_n hx hb dX10_addCall_1 rfl (lv_at hl 1 rfl) ?_
  refine lv_iconst (v := 2) hx hb dX10_addCall_2 (by decide) ?_
  refine lv_iload_n hx hb dX10_addCall_3 rfl (lv_at hl 2 rfl) ?_
  refine lv_iload_n hx hb dX10_addCall_4 rfl (lv_at hl 3 rfl) ?_
  refine lv_iconst (v := (-1)) hx hb dX10_addCall_5 (by decide) ?_
  refine g_i (wr := [(q45, .inl (g.2 0, 3976, .inl (fun _ => 0))), (q47, .inl (g.2 0, 8, .inl (fun _ => 0))), (q46, .inl (g.2 0, 8, .inl (fun _ => 0))), (q44, .inl (g.2 0, 497, .inl (fun _ => 0))), (q43, .inl (g.2 0, 497, .inl f48))]) (rV (rest := []) hx hb hml hown hE hP hD 5 rfl rfl (c813_X10_added l g q1 x2 x3 (.ref q43) w5 (.ref q44) w7 (.ref q45) (.int 0) w10 (.ref q46) (.ref q47) w13 w14 w15 w16 w17 w18 w19 w20 w21 w22 w23 w24 w25 w26 w27 w28 w29 w30 w31 w32 w33 w34 w35 w36 w37 w38 w39 w40 h41 h42 s.heap.size) (kV_X10_added hE (e1424 hE) rfl rfl ⟨(Nat.le_of_ble_eq_true rfl), (Nat.le_of_ble_eq_true rfl)⟩) [5] rfl (by decide) rfl hl.1 rfl (lv_room (Nat.le_of_ble_eq_true rfl)) dX10_addCall_6 ⟨(Nat.le_of_ble_eq_true rfl), (Nat.le_of_ble_eq_true rfl)⟩) hP hD hS hA [5] [0, 1, 2, 3, 4] rfl rfl (by decide) (by decide) (fun u1 H locs hP hD hS => ?_)
  have hP : va_P g.1 vwCl [(q45, .inl (g.2 0, 3976, .inl (fun _ => 0))), (q47, .inl (g.2 0, 8, .inl (fun _ => 0))), (q46, .inl (g.2 0, 8, .inl (fun _ => 0))), (q44, .inl (g.2 0, 497, .inl (fun _ => 0))), (q43, .inl (g.2 0, 497, .inl f48)), (q1, .inr (12, [.ref q43, w5, .ref q44, w7, .ref q45, .int 0, .int 2, .ref q46, .ref q47, w13, w14, w15, w16, w17, w18, w19, w20, w21, w22, w23, w24, w25, w26, w27, w28, w29, w30, w31, w32, w33, w34, w35, w36, w37, w38, w39, w40]))] H := hP
  have hD : va_D A [(q45, .inl (g.2 0, 3976, .inl (fun _ => 0))), (q47, .inl (g.2 0, 8, .inl (fun _ => 0))), (q46, .inl (g.2 0, 8, .inl (fun _ => 0))), (q44, .inl (g.2 0, 497, .inl (fun _ => 0))), (q43, .inl (g.2 0, 497, .inl f48)), (q1, .inr (12, [.ref q43, w5, .ref q44, w7, .ref q45, .int 0, .int 2, .ref q46, .ref q47, w13, w14, w15, w16, w17, w18, w19, w20, w21, w22, w23, w24, w25, w26, w27, w28, w29, w30, w31, w32, w33, w34, w35, w36, w37, w38, w39, w40]))] := hD
  exact x_zret hx hb hr rfl rfl hlocks hP hD hS hAe hsz (Nat.le_of_ble_eq_true rfl) (Nat.le_of_ble_eq_true rfl) (fun _ => 0) [5] (by decide) rfl dX10_addCall_9

set_option maxHeartbeats 4000000 in
set_option maxRecDepth 100000 in
theorem c815_X9_requireRange (l : Launch) (g : gG) (x1 : Int32) (h2 : (0 : Int32) ≤ x1) (h3 : x1 ≤ 3) (sz : Nat) : Met l yX9_requireRange [Cond.code yX9_requireRange cX9_requireRange 3 none] ({ frames := 0, cells := 0, slots := 0, locals := 0 } : Room) (va_Pc [.int x1, .int 0, .int 3] (PX g sz [])) (QV g [] sz (fun _ => [])) 0 0 (va_A [] sz) := by
  refine ofN (by decide) (Nat.le_of_ble_eq_true rfl) rfl ?_
  intro p e s m args below meth c A ls hAe hsz hx hb hml hr hlocks hin hown hE hP hD hA hS hl
  have hown : s.vm.findClass RX9 = some m.cls := hown
  refine lv_iload_n hx hb dX9_requireRange_0 rfl (lv_at hl 0 rfl) ?_
  refine lv_iload_n hx hb dX9_requireRange_1 rfl (lv_at hl 1 rfl) ?_
  refine lv_icmp_lt (tgt := 10) hx hb dX9_requireRange_2 (by decide) (fun h => absurd h (i_nlt h2)) (fun _ => ?_)
  refine lv_iload_n hx hb dX9_requireRange_5 rfl (lv_at hl 0 rfl) ?_
  refine lv_iload_n hx hb dX9_requireRange_6 rfl (lv_at hl 2 rfl) ?_
  refine lv_icmp_le (tgt := 21) hx hb dX9_requireRange_7 (by decide) (fun _ => ?_) (fun h => absurd h3 h)
  exact x_vret hx hb hr hlocks hP hD hS hAe hsz (Nat.le_of_ble_eq_true rfl) (Nat.le_of_ble_eq_true rfl) (fun _ => 0) [] (by decide) rfl dX9_requireRange_21

set_option maxHeartbeats 4000000 in
set_option maxRecDepth 100000 in
theorem c816_X9_addCall (l : Launch) (g : gG) (hlx : l.stackTraces = false) (q1 : Nat) (x2 x3 : Int32) (h4 : (0 : Int32) ≤ x2) (h5 : x2 ≤ 3) (h6 : x3 < 1) (sz : Nat) : vx_Met l yX9_addCall [Cond.code yX9_addCall cX9_addCall 4 (some .int)] ({ frames := 7, cells := 1, slots := 6, locals := 122 } : Room) (va_Pc [.ref q1, .int 4, .int x2, .int x3] (PZ g sz [])) NI (XW g [] sz "java/lang/IllegalArgumentException" []) 1 6 (va_A [] sz) := by
  refine ofX (by decide) (Nat.le_of_ble_eq_true rfl) rfl ?_
  intro p e s m args below meth c A ls hAe hsz hx hb hml hr hlocks hin hown hE hP hD hA hS hl hex hz
  have hown : s.vm.findClass RX9 = some m.cls := hown
  refine lv_iload_n hx hb dX9_addCall_0 rfl (lv_at hl 1 rfl) ?_
  refine g0_v (rS (rest := []) hx hb hml hown hE hP hD (c89_X9_requirePattern l g 4 (by decide) (by decide) s.heap.size) (kS_X9_requirePattern hE (e617 hE) rfl rfl ⟨(Nat.le_of_ble_eq_true rfl), (Nat.le_of_ble_eq_true rfl)⟩) [] rfl (by decide) rfl hl.1 rfl (lv_room (Nat.le_of_ble_eq_true rfl)) dX9_addCall_1 ⟨(Nat.le_of_ble_eq_true rfl), (Nat.le_of_ble_eq_true rfl)⟩) hP hD hS hA (fun u9 H locs hP hS => ?_)
  refine lv_iload_n hx hb dX9_addCall_4 rfl (lv_at hl 2 rfl) ?_
  refine lv_iconst (v := 0) hx hb dX9_addCall_5 (by decide) ?_
  refine lv_iload_n hx hb dX9_addCall_6 rfl (lv_at hl 1 rfl) ?_
  refine lv_iconst (v := 1) hx hb dX9_addCall_7 (by decide) ?_
  refine x_isub (v := 3) hx hb dX9_addCall_8 (by decide) ?_
  refine g0_v (rS (rest := []) hx hb hml hown hE hP hD (c815_X9_requireRange l g x2 h4 h5 H.size) (kS_X9_requireRange hE (e636 hE) rfl rfl ⟨(Nat.le_of_ble_eq_true rfl), (Nat.le_of_ble_eq_true rfl)⟩) [] rfl (by decide) rfl hl.1 rfl (lv_room (Nat.le_of_ble_eq_true rfl)) dX9_addCall_9 ⟨(Nat.le_of_ble_eq_true rfl), (Nat.le_of_ble_eq_true rfl)⟩) hP hD hS hA (fun u9 H locs hP hS => ?_)
  refine lv_iload_n hx hb dX9_addCall_12 rfl (lv_at hl 3 rfl) ?_
  refine lv_iconst (v := 1) hx hb dX9_addCall_13 (by decide) ?_
  refine lv_bipush (v := 9) hx hb dX9_addCall_14 (by decide) ?_
  refine gx_v (wr := []) (rSx (rest := []) hx hb hml hown hE hP hD hS hA hz (c109_X9_requireRange l g hlx x3 h6 H.size) (kS_X9_requireRange hE (e636 hE) rfl rfl ⟨(Nat.le_of_ble_eq_true rfl), (Nat.le_of_ble_eq_true rfl)⟩) [] rfl (by decide) rfl hl.1 rfl (lv_room (Nat.le_of_ble_eq_true rfl)) dX9_addCall_16 ⟨(Nat.le_of_ble_eq_true rfl), (Nat.le_of_ble_eq_true rfl)⟩) hP hD hS hA [] [] rfl rfl (by decide) (by decide) (fun ce9 q9 H locs hP hD hS hq1 hq2 hq3 => ?_)
  exact x_out hex hlocks hq1 hq2 hq3 hP hD hS hAe hsz (Nat.le_of_ble_eq_true rfl) (Nat.le_of_ble_eq_true rfl) [] (by decide) rfl

set_option maxHeartbeats 4000000 in
set_option maxRecDepth 100000 in
theorem c817_L_addCall (l : Launch) (g : gG) (hlx : l.stackTraces = false) (q1 q4 : Nat) (x2 x3 : Int32) (w8 w9 w10 w11 w12 w13 w14 w15 w16 w17 w18 : Value) (h5 : (0 : Int32) ≤ x2) (h6 : x2 ≤ 3) (h7 : x3 < 1) (sz : Nat) : Met l yL_addCall [Cond.codeWith yL_addCall cL_addCall 6 (some .int) [(0, 12, 15, 13), (0, 12, 19, 15), (0, 12, 23, 17)]] ({ frames := 8, cells := 1, slots := 6, locals := 145 } : Room) (va_Pc [.ref q1, .int 4, .int x2, .int x3, .ref q4] (PZ g sz [(q1, .inr (11, [w8, w9, w10, w11, w12, w13, w14, w15, w16, w17, w18]))])) (QI g [(q1, .inr (11, [w8, w9, w10, w11, w12, w13, w14, w15, w16, w17, w18]))] sz 2 (fun _ => [])) 1 6 (va_A [(q1, .inr (11, [w8, w9, w10, w11, w12, w13, w14, w15, w16, w17, w18]))] sz) := by
  refine ofH (by decide) (Nat.le_of_ble_eq_true rfl) rfl ?_
  intro p e s m args below meth c A ls hAe hsz hx hb hml hr hlocks hin hown hE hP hD hA hS hl htb hz
  have hown : s.vm.findClass RL = some m.cls := hown
  refine lv_aload hx hb dL_addCall_0 (lv_at hl 4 rfl) ?_
  refine lv_iconst (v := 0) hx hb dL_addCall_2 (by decide) ?_
  refine lv_aload_n hx hb dL_addCall_3 rfl (lv_at hl 0 rfl) ?_
  refine lv_iload_n hx hb dL_addCall_4 rfl (lv_at hl 1 rfl) ?_
  refine lv_iload_n hx hb dL_addCall_5 rfl (lv_at hl 2 rfl) ?_
  refine lv_iload_n hx hb dL_addCall_6 rfl (lv_at hl 3 rfl) ?_
  refine gx_i (wr := [(q1, .inr (11, [w8, w9, w10, w11, w12, w13, w14, w15, w16, w17, w18]))]) (rVx (rest := [.int 0, .ref q4]) hx hb hml hown hE hP hD hS hA hz 0 rfl rfl (c816_X9_addCall l g hlx q1 x2 x3 h5 h6 h7 s.heap.size) (kV_X9_addCall hE (e737 hE) rfl rfl ⟨(Nat.le_of_ble_eq_true rfl), (Nat.le_of_ble_eq_true rfl)⟩) [] rfl (by decide) rfl hl.1 rfl (lv_room (Nat.le_of_ble_eq_true rfl)) dL_addCall_7 ⟨(Nat.le_of_ble_eq_true rfl), (Nat.le_of_ble_eq_true rfl)⟩) hP hD hS hA [] [0] rfl rfl (by decide) (by decide) (fun ce9 q9 H locs hP hD hS hq1 hq2 hq3 => ?_)
  have hP : va_P g.1 vwCl [(q1, .inr (11, [w8, w9, w10, w11, w12, w13, w14, w15, w16, w17, w18]))] H := hP
  have hD : va_D A [(q1, .inr (11, [w8, w9, w10, w11, w12, w13, w14, w15, w16, w17, w18]))] := hD
  refine x_catch (name := "java/lang/IllegalArgumentException") (hh := [(0, 12, 15, 13), (0, 12, 19, 15), (0, 12, 23, 17)]) (tgt := 19) hown htb [⟨0, 12, 15, 13⟩] ⟨0, 12, 19, 15⟩ [⟨0, 12, 23, 17⟩] rfl (fun z hz => by
    rcases List.mem_cons.mp hz with rfl | hz
    · exact Or.inr ⟨by decide, "java/lang/IndexOutOfBoundsException", e532 hE, hE.2.2.2.2.2 ("java/lang/IllegalArgumentException", "java/lang/IndexOutOfBoundsException") (by decide +kernel)⟩
    exact nomatch hz) rfl (by decide) (e611 hE) (e641 hE) hq1 hq2 hq3 rfl ?_
  refine lv_astore (lv' := [(5, .ref q9), (0, .ref q1), (1, .int 4), (2, .int x2), (3, .int x3), (4, .ref q4)]) hx hb dL_addCall_19 hl (by decide) rfl (fun ls hl => ?_)
  refine lv_iconst (v := 2) hx hb dL_addCall_21 (by decide) ?_
  exact x_zret hx hb hr rfl rfl hlocks hP hD hS hAe hsz (Nat.le_of_ble_eq_true rfl) (Nat.le_of_ble_eq_true rfl) (fun _ => 0) [] (by decide) rfl dL_addCall_22

set_option maxHeartbeats 4000000 in
set_option maxRecDepth 100000 in
theorem c818_X10_in (l : Launch) (g : gG) (x1 : Int32) (h2 : (0 : Int32) ≤ x1) (h3 : x1 ≤ 3) (sz : Nat) : Met l yX10_in [Cond.code yX10_in cX10_in 3 (some .boolean)] ({ frames := 0, cells := 0, slots := 0, locals := 0 } : Room) (va_Pc [.int x1, .int 0, .int 3] (PX g sz [])) (QI g [] sz 1 (fun _ => [])) 0 0 (va_A [] sz) := by
  refine ofN (by decide) (Nat.le_of_ble_eq_true rfl) rfl ?_
  intro p e s m args below meth c A ls hAe hsz hx hb hml hr hlocks hin hown hE hP hD hA hS hl
  have hown : s.vm.findClass RX10 = some m.cls := hown
  refine lv_iload_n hx hb dX10_in_0 rfl (lv_at hl 0 rfl) ?_
  refine lv_iload_n hx hb dX10_in_1 rfl (lv_at hl 1 rfl) ?_
  refine lv_icmp_lt (tgt := 14) hx hb dX10_in_2 (by decide) (fun h => absurd h (i_nlt h2)) (fun _ => ?_)
  refine lv_iload_n hx hb dX10_in_5 rfl (lv_at hl 0 rfl) ?_
  refine lv_iload_n hx hb dX10_in_6 rfl (lv_at hl 2 rfl) ?_
  refine lv_icmp_gt (tgt := 14) hx hb dX10_in_7 (by decide) (fun h => absurd h (i_nlt h3)) (fun _ => ?_)
  refine lv_iconst (v := 1) hx hb dX10_in_10 (by decide) ?_
  refine lv_goto (tgt := 15) hx hb dX10_in_11 (by decide) ?_
  exact x_zret hx hb hr rfl rfl hlocks hP hD hS hAe hsz (Nat.le_of_ble_eq_true rfl) (Nat.le_of_ble_eq_true rfl) (fun _ => 0) [] (by decide) rfl dX10_in_15

set_option maxHeartbeats 4000000 in
set_option maxRecDepth 100000 in
theorem c819_X10_isRanged (l : Launch) (g : gG) (x1 x2 : Int32) (h3 : (0 : Int32) ≤ x1) (h4 : x1 ≤ 3) (h5 : x2 < 1) (sz : Nat) : Met l yX10_isRanged [Cond.code yX10_isRanged cX10_isRanged 5 (some .boolean)] ({ frames := 1, cells := 0, slots := 0, locals := 22 } : Room) (va_Pc [.int 4, .int 2, .int x1, .int x2, .int (-1)] (PX g sz [])) (QI g [] sz 0 (fun _ => [])) 0 0 (va_A [] sz) := by
  refine ofN (by decide) (Nat.le_of_ble_eq_true rfl) rfl ?_
  intro p e s m args below meth c A ls hAe hsz hx hb hml hr hlocks hin hown hE hP hD hA hS hl
  have hown : s.vm.findClass RX10 = some m.cls := hown
  refine lv_iload_n hx hb dX10_isRanged_0 rfl (lv_at hl 1 rfl) ?_
  refine lv_if_ne (tgt := 43) hx hb dX10_isRanged_1 (by decide) (fun _ => ?_) (fun h => absurd h (by decide))
  refine lv_iload_n hx hb dX10_isRanged_43 rfl (lv_at hl 1 rfl) ?_
  refine lv_iconst (v := 1) hx hb dX10_isRanged_44 (by decide) ?_
  refine lv_icmp_ne (tgt := 58) hx hb dX10_isRanged_45 (by decide) (fun _ => ?_) (fun h => absurd h (by decide))
  refine lv_iload_n hx hb dX10_isRanged_58 rfl (lv_at hl 2 rfl) ?_
  refine lv_iconst (v := 0) hx hb dX10_isRanged_59 (by decide) ?_
  refine lv_iload_n hx hb dX10_isRanged_60 rfl (lv_at hl 0 rfl) ?_
  refine lv_iconst (v := 1) hx hb dX10_isRanged_61 (by decide) ?_
  refine x_isub (v := 3) hx hb dX10_isRanged_62 (by decide) ?_
  refine g0_i (rS (rest := []) hx hb hml hown hE hP hD (c818_X10_in l g x1 h3 h4 s.heap.size) (kS_X10_in hE (e1431 hE) rfl rfl ⟨(Nat.le_of_ble_eq_true rfl), (Nat.le_of_ble_eq_true rfl)⟩) [] rfl (by decide) rfl hl.1 rfl (lv_room (Nat.le_of_ble_eq_true rfl)) dX10_isRanged_63 ⟨(Nat.le_of_ble_eq_true rfl), (Nat.le_of_ble_eq_true rfl)⟩) hP hD hS hA (fun u9 H locs hP hS => ?_)
  refine lv_if_eq (tgt := 83) hx hb dX10_isRanged_66 (by decide) (fun h => absurd h (by decide)) (fun _ => ?_)
  refine lv_iload_n hx hb dX10_isRanged_69 rfl (lv_at hl 3 rfl) ?_
  refine lv_iconst (v := 1) hx hb dX10_isRanged_70 (by decide) ?_
  refine lv_bipush (v := 9) hx hb dX10_isRanged_71 (by decide) ?_
  refine g0_i (rS (rest := []) hx hb hml hown hE hP hD (c113_X10_in l g x2 h5 H.size) (kS_X10_in hE (e1431 hE) rfl rfl ⟨(Nat.le_of_ble_eq_true rfl), (Nat.le_of_ble_eq_true rfl)⟩) [] rfl (by decide) rfl hl.1 rfl (lv_room (Nat.le_of_ble_eq_true rfl)) dX10_isRanged_73 ⟨(Nat.le_of_ble_eq_true rfl), (Nat.le_of_ble_eq_true rfl)⟩) hP hD hS hA (fun u9 H locs hP hS => ?_)
  refine lv_if_eq (tgt := 83) hx hb dX10_isRanged_76 (by decide) (fun _ => ?_) (fun h => absurd (by decide) h)
  refine lv_iconst (v := 0) hx hb dX10_isRanged_83 (by decide) ?_
  exact x_zret hx hb hr rfl rfl hlocks hP hD hS hAe hsz (Nat.le_of_ble_eq_true rfl) (Nat.le_of_ble_eq_true rfl) (fun _ => 0) [] (by decide) rfl dX10_isRanged_84

set_option maxHeartbeats 4000000 in
set_option maxRecDepth 100000 in
theorem c820_X10_added (l : Launch) (g : gG) (q1 : Nat) (x2 x3 : Int32) (w7 w8 w9 w10 w11 w12 w13 w14 w15 w16 w17 w18 w19 w20 w21 w22 w23 w24 w25 w26 w27 w28 w29 w30 w31 w32 w33 w34 w35 w36 w37 w38 w39 w40 w41 w42 w43 : Value) (h4 : (0 : Int32) ≤ x2) (h5 : x2 ≤ 3) (h6 : x3 < 1) (sz : Nat) : Met l yX10_added [Cond.code yX10_added cX10_added 6 (some .int)] ({ frames := 2, cells := 0, slots := 0, locals := 46 } : Room) (va_Pc [.ref q1, .int 4, .int 2, .int x2, .int x3, .int (-1)] (PX g sz [(q1, .inr (12, [w7, w8, w9, w10, w11, w12, w13, w14, w15, w16, w17, w18, w19, w20, w21, w22, w23, w24, w25, w26, w27, w28, w29, w30, w31, w32, w33, w34, w35, w36, w37, w38, w39, w40, w41, w42, w43]))])) (QI g [(q1, .inr (12, [w7, w8, w9, w10, w11, w12, w13, w14, w15, w16, w17, w18, w19, w20, w21, w22, w23, w24, w25, w26, w27, w28, w29, w30, w31, w32, w33, w34, w35, w36, w37, w38, w39, w40, w41, w42, w43]))] sz 0 (fun _ => [(q1, .inr (12, [w7, w8, w9, w10, w11, w12, .int 2, w14, w15, w16, w17, w18, w19, w20, w21, w22, w23, w24, w25, w26, w27, w28, w29, w30, w31, w32, w33, w34, w35, w36, w37, w38, w39, w40, w41, w42, w43]))])) 0 0 (va_A [(q1, .inr (12, [w7, w8, w9, w10, w11, w12, w13, w14, w15, w16, w17, w18, w19, w20, w21, w22, w23, w24, w25, w26, w27, w28, w29, w30, w31, w32, w33, w34, w35, w36, w37, w38, w39, w40, w41, w42, w43]))] sz) := by
  refine ofN (by decide) (Nat.le_of_ble_eq_true rfl) rfl ?_
  intro p e s m args below meth c A ls hAe hsz hx hb hml hr hlocks hin hown hE hP hD hA hS hl
  have hown : s.vm.findClass RX10 = some m.cls := hown
  refine lv_aload_n hx hb dX10_added_0 rfl (lv_at hl 0 rfl) ?_
  refine lv_iload_n hx hb dX10_added_1 rfl (lv_at hl 1 rfl) ?_
  refine g0_i (rS (rest := [.ref q1]) hx hb hml hown hE hP hD (c94_X10_isPattern l g 4 (by decide) (by decide) s.heap.size) (kS_X10_isPattern hE (e1428 hE) rfl rfl ⟨(Nat.le_of_ble_eq_true rfl), (Nat.le_of_ble_eq_true rfl)⟩) [] rfl (by decide) rfl hl.1 rfl (lv_room (Nat.le_of_ble_eq_true rfl)) dX10_added_2 ⟨(Nat.le_of_ble_eq_true rfl), (Nat.le_of_ble_eq_true rfl)⟩) hP hD hS hA (fun u9 H locs hP hS => ?_)
  refine lv_if_ne (tgt := 12) hx hb dX10_added_5 (by decide) (fun _ => ?_) (fun h => absurd h (by decide))
  refine lv_iload_n hx hb dX10_added_12 rfl (lv_at hl 1 rfl) ?_
  refine lv_iload_n hx hb dX10_added_13 rfl (lv_at hl 2 rfl) ?_
  refine lv_iload_n hx hb dX10_added_14 rfl (lv_at hl 3 rfl) ?_
  refine lv_iload hx hb dX10_added_15 (lv_at hl 4 rfl) ?_
  refine lv_iload hx hb dX10_added_17 (lv_at hl 5 rfl) ?_
  refine g0_i (rS (rest := [.ref q1]) hx hb hml hown hE hP hD (c819_X10_isRanged l g x2 x3 h4 h5 h6 H.size) (kS_X10_isRanged hE (e1434 hE) rfl rfl ⟨(Nat.le_of_ble_eq_true rfl), (Nat.le_of_ble_eq_true rfl)⟩) [] rfl (by decide) rfl hl.1 rfl (lv_room (Nat.le_of_ble_eq_true rfl)) dX10_added_19 ⟨(Nat.le_of_ble_eq_true rfl), (Nat.le_of_ble_eq_true rfl)⟩) hP hD hS hA (fun u9 H locs hP hS => ?_)
  refine lv_if_ne (tgt := 29) hx hb dX10_added_22 (by decide) (fun h => absurd h (by decide)) (fun _ => ?_)
  refine lv_iconst (v := 2) hx hb dX10_added_25 (by decide) ?_
  refine lv_goto (tgt := 30) hx hb dX10_added_26 (by decide) ?_
  refine pf_RX10_86 (ws' := [(q1, .inr (12, [w7, w8, w9, w10, w11, w12, .int 2, w14, w15, w16, w17, w18, w19, w20, w21, w22, w23, w24, w25, w26, w27, w28, w29, w30, w31, w32, w33, w34, w35, w36, w37, w38, w39, w40, w41, w42, w43]))]) hx hb hown hE hP hD hS 0 rfl rfl rfl (Nat.le_of_ble_eq_true rfl) dX10_added_30 rfl (fun H locs hP hD hS => ?_)
  refine lv_aload_n hx hb dX10_added_33 rfl (lv_at hl 0 rfl) ?_
  refine gf_RX10_86 hx hb hown hE hP 0 rfl rfl dX10_added_34 ?_
  refine lv_if_le (tgt := 42) hx hb dX10_added_37 (by decide) (fun h => absurd h (by decide)) (fun _ => ?_)
  refine lv_iconst (v := 0) hx hb dX10_added_40 (by decide) ?_
  exact x_zret hx hb hr rfl rfl hlocks hP hD hS hAe hsz (Nat.le_of_ble_eq_true rfl) (Nat.le_of_ble_eq_true rfl) (fun _ => 0) [0] (by decide) rfl dX10_added_41

set_option maxHeartbeats 4000000 in
set_option maxRecDepth 100000 in
theorem c821_X10_addCall (l : Launch) (g : gG) (q1 : Nat) (x2 x3 : Int32) (w4 w5 w6 w7 w8 w9 w10 w11 w12 w13 w14 w15 w16 w17 w18 w19 w20 w21 w22 w23 w24 w25 w26 w27 w28 w29 w30 w31 w32 w33 w34 w35 w36 w37 w38 w39 w40 : Value) (h41 : (0 : Int32) ≤ x2) (h42 : x2 ≤ 3) (h43 : x3 < 1) (sz : Nat) : Met l yX10_addCall [Cond.code yX10_addCall cX10_addCall 4 (some .int)] ({ frames := 3, cells := 0, slots := 0, locals := 71 } : Room) (va_Pc [.ref q1, .int 4, .int x2, .int x3] (PX g sz [(q1, .inr (12, [w4, w5, w6, w7, w8, w9, w10, w11, w12, w13, w14, w15, w16, w17, w18, w19, w20, w21, w22, w23, w24, w25, w26, w27, w28, w29, w30, w31, w32, w33, w34, w35, w36, w37, w38, w39, w40]))])) (QI g [(q1, .inr (12, [w4, w5, w6, w7, w8, w9, w10, w11, w12, w13, w14, w15, w16, w17, w18, w19, w20, w21, w22, w23, w24, w25, w26, w27, w28, w29, w30, w31, w32, w33, w34, w35, w36, w37, w38, w39, w40]))] sz 0 (fun _ => [(q1, .inr (12, [w4, w5, w6, w7, w8, w9, .int 2, w11, w12, w13, w14, w15, w16, w17, w18, w19, w20, w21, w22, w23, w24, w25, w26, w27, w28, w29, w30, w31, w32, w33, w34, w35, w36, w37, w38, w39, w40]))])) 0 0 (va_A [(q1, .inr (12, [w4, w5, w6, w7, w8, w9, w10, w11, w12, w13, w14, w15, w16, w17, w18, w19, w20, w21, w22, w23, w24, w25, w26, w27, w28, w29, w30, w31, w32, w33, w34, w35, w36, w37, w38, w39, w40]))] sz) := by
  refine ofN (by decide) (Nat.le_of_ble_eq_true rfl) rfl ?_
  intro p e s m args below meth c A ls hAe hsz hx hb hml hr hlocks hin hown hE hP hD hA hS hl
  have hown : s.vm.findClass RX10 = some m.cls := hown
  refine lv_aload_n hx hb dX10_addCall_0 rfl (lv_at hl 0 rfl) ?_
  refine lv_iload_n hx hb dX10_addCall_1 rfl (lv_at hl 1 rfl) ?_
  refine lv_iconst (v := 2) hx hb dX10_addCall_2 (by decide) ?_
  refine lv_iload_n hx hb dX10_addCall_3 rfl (lv_at hl 2 rfl) ?_
  refine lv_iload_n hx hb dX10_addCall_4 rfl (lv_at hl 3 rfl) ?_
  refine lv_iconst (v := (-1)) hx hb dX10_addCall_5 (by decide) ?_
  refine g_i (wr := []) (rV (rest := []) hx hb hml hown hE hP hD 0 rfl rfl (c820_X10_added l g q1 x2 x3 w4 w5 w6 w7 w8 w9 w10 w11 w12 w13 w14 w15 w16 w17 w18 w19 w20 w21 w22 w23 w24 w25 w26 w27 w28 w29 w30 w31 w32 w33 w34 w35 w36 w37 w38 w39 w40 h41 h42 h43 s.heap.size) (kV_X10_added hE (e1424 hE) rfl rfl ⟨(Nat.le_of_ble_eq_true rfl), (Nat.le_of_ble_eq_true rfl)⟩) [0] rfl (by decide) rfl hl.1 rfl (lv_room (Nat.le_of_ble_eq_true rfl)) dX10_addCall_6 ⟨(Nat.le_of_ble_eq_true rfl), (Nat.le_of_ble_eq_true rfl)⟩) hP hD hS hA [0] [] rfl rfl (by decide) (by decide) (fun u1 H locs hP hD hS => ?_)
  have hP : va_P g.1 vwCl [(q1, .inr (12, [w4, w5, w6, w7, w8, w9, .int 2, w11, w12, w13, w14, w15, w16, w17, w18, w19, w20, w21, w22, w23, w24, w25, w26, w27, w28, w29, w30, w31, w32, w33, w34, w35, w36, w37, w38, w39, w40]))] H := hP
  have hD : va_D A [(q1, .inr (12, [w4, w5, w6, w7, w8, w9, .int 2, w11, w12, w13, w14, w15, w16, w17, w18, w19, w20, w21, w22, w23, w24, w25, w26, w27, w28, w29, w30, w31, w32, w33, w34, w35, w36, w37, w38, w39, w40]))] := hD
  exact x_zret hx hb hr rfl rfl hlocks hP hD hS hAe hsz (Nat.le_of_ble_eq_true rfl) (Nat.le_of_ble_eq_true rfl) (fun _ => 0) [0] (by decide) rfl dX10_addCall_9

set_option maxHeartbeats 4000000 in
set_option maxRecDepth 100000 in
theorem c822_X9_putAt (l : Launch) (g : gG) (q1 : Nat) (f2 : Nat → Int32) (sz : Nat) : Met l yX9_putAt [Cond.code yX9_putAt cX9_putAt 3 none] ({ frames := 0, cells := 0, slots := 0, locals := 0 } : Room) (va_Pc [.ref q1, .int 192, .int 2] (PX g sz [(q1, .inl (g.2 0, 384, .inl f2))])) (QV g [(q1, .inl (g.2 0, 384, .inl f2))] sz (fun _ => [(q1, .inl (g.2 0, 384, .inl (upd f2 192 2)))])) 0 0 (va_A [(q1, .inl (g.2 0, 384, .inl f2))] sz) := by
  refine ofN (by decide) (Nat.le_of_ble_eq_true rfl) rfl ?_
  intro p e s m args below meth c A ls hAe hsz hx hb hml hr hlocks hin hown hE hP hD hA hS hl
  have hown : s.vm.findClass RX9 = some m.cls := hown
  refine lv_iload_n hx hb dX9_putAt_0 rfl (lv_at hl 1 rfl) ?_
  refine lv_if_lt (tgt := 14) hx hb dX9_putAt_1 (by decide) (fun h => absurd h (by decide)) (fun _ => ?_)
  refine lv_iload_n hx hb dX9_putAt_4 rfl (lv_at hl 1 rfl) ?_
  refine lv_aload_n hx hb dX9_putAt_5 rfl (lv_at hl 0 rfl) ?_
  refine x_aleni (v := 384) hx hb hE hP 0 rfl rfl dX9_putAt_6 ?_
  refine lv_icmp_ge (tgt := 14) hx hb dX9_putAt_7 (by decide) (fun h => absurd h (by decide)) (fun _ => ?_)
  refine lv_aload_n hx hb dX9_putAt_10 rfl (lv_at hl 0 rfl) ?_
  refine lv_iload_n hx hb dX9_putAt_11 rfl (lv_at hl 1 rfl) ?_
  refine lv_iload_n hx hb dX9_putAt_12 rfl (lv_at hl 2 rfl) ?_
  refine x_iast (ws' := [(q1, .inl (g.2 0, 384, .inl (upd f2 192 2)))]) hx hb hE hP hD hS 0 rfl 192 (x_in (by decide)) (by decide) dX9_putAt_13 rfl (fun H locs hP hD hS => ?_)
  exact x_vret hx hb hr hlocks hP hD hS hAe hsz (Nat.le_of_ble_eq_true rfl) (Nat.le_of_ble_eq_true rfl) (fun _ => 0) [0] (by decide) rfl dX9_putAt_14

set_option maxHeartbeats 4000000 in
set_option maxRecDepth 100000 in
theorem c823_X3_putItem (l : Launch) (g : gG) (q1 q6 q9 : Nat) (x2 x3 : Int32) (f7 : Nat → Int32) (f10 : Nat → Int32) (hf8 : f7 20 = 0) (sz : Nat) : Met l yX3_putItem [Cond.code yX3_putItem cX3_putItem 8 none] ({ frames := 1, cells := 0, slots := 0, locals := 24 } : Room) (va_Pc [.ref q1, .int 4, .int 2, .int x2, .int x3, .int (-1)] (PX g sz [(q9, .inl (g.2 0, 384, .inl f10)), (q6, .inl (g.2 0, 40, .inl f7)), (q1, .inr (5, [.ref q9, .ref q6]))])) (QV g [(q9, .inl (g.2 0, 384, .inl f10)), (q6, .inl (g.2 0, 40, .inl f7)), (q1, .inr (5, [.ref q9, .ref q6]))] sz (fun _ => [(q9, .inl (g.2 0, 384, .inl (upd (upd (upd (upd f10 192 2) 193 x2) 194 x3) 195 (-1)))), (q6, .inl (g.2 0, 40, .inl (upd f7 20 1))), (q1, .inr (5, [.ref q9, .ref q6]))])) 0 0 (va_A [(q9, .inl (g.2 0, 384, .inl f10)), (q6, .inl (g.2 0, 40, .inl f7)), (q1, .inr (5, [.ref q9, .ref q6]))] sz) := by
  refine ofN (by decide) (Nat.le_of_ble_eq_true rfl) rfl ?_
  intro p e s m args below meth c A ls hAe hsz hx hb hml hr hlocks hin hown hE hP hD hA hS hl
  have hown : s.vm.findClass RX3 = some m.cls := hown
  refine lv_aload_n hx hb dX3_putItem_0 rfl (lv_at hl 0 rfl) ?_
  refine lv_iload_n hx hb dX3_putItem_1 rfl (lv_at hl 1 rfl) ?_
  refine lv_iconst (v := 0) hx hb dX3_putItem_2 (by decide) ?_
  refine g_i (wr := [(q9, .inl (g.2 0, 384, .inl f10))]) (rV (rest := []) hx hb hml hown hE hP hD 2 rfl rfl (c164_X3_figure l g q1 q6 (.ref q9) f7 (hf8) s.heap.size) (kV_X3_figure hE (e343 hE) rfl rfl ⟨(Nat.le_of_ble_eq_true rfl), (Nat.le_of_ble_eq_true rfl)⟩) [1, 2] rfl (by decide) rfl hl.1 rfl (lv_room (Nat.le_of_ble_eq_true rfl)) dX3_putItem_3 ⟨(Nat.le_of_ble_eq_true rfl), (Nat.le_of_ble_eq_true rfl)⟩) hP hD hS hA [1, 2] [0] rfl rfl (by decide) (by decide) (fun u1 H locs hP hD hS => ?_)
  have hP : va_P g.1 vwCl [(q9, .inl (g.2 0, 384, .inl f10)), (q6, .inl (g.2 0, 40, .inl f7)), (q1, .inr (5, [.ref q9, .ref q6]))] H := hP
  have hD : va_D A [(q9, .inl (g.2 0, 384, .inl f10)), (q6, .inl (g.2 0, 40, .inl f7)), (q1, .inr (5, [.ref q9, .ref q6]))] := hD
  refine lv_istore (lv' := [(6, .int 0), (0, .ref q1), (1, .int 4), (2, .int 2), (3, .int x2), (4, .int x3), (5, .int (-1))]) hx hb dX3_putItem_6 hl (by decide) rfl (fun ls hl => ?_)
  refine lv_iload_n hx hb dX3_putItem_8 rfl (lv_at hl 2 rfl) ?_
  refine lv_bipush (v := 12) hx hb dX3_putItem_9 (by decide) ?_
  refine x_imul (v := 48) hx hb dX3_putItem_11 (by decide) ?_
  refine lv_iload hx hb dX3_putItem_12 (lv_at hl 0 rfl) ?_
  refine x_iadd (v := 48) hx hb dX3_putItem_14 (by decide) ?_
  refine lv_iconst (v := 4) hx hb dX3_putItem_15 (by decide) ?_
  refine x_imul (v := 192) hx hb dX3_putItem_16 (by decide) ?_
  refine lv_istore (lv' := [(7, .int 192), (6, .int 0), (0, .ref q1), (1, .int 4), (2, .int 2), (3, .int x2), (4, .int x3), (5, .int (-1))]) hx hb dX3_putItem_17 hl (by decide) rfl (fun ls hl => ?_)
  refine lv_aload_n hx hb dX3_putItem_19 rfl (lv_at hl 2 rfl) ?_
  refine gf_RX3_9 hx hb hown hE hP 2 rfl rfl dX3_putItem_20 ?_
  refine lv_iload hx hb dX3_putItem_23 (lv_at hl 0 rfl) ?_
  refine lv_iconst (v := 0) hx hb dX3_putItem_25 (by decide) ?_
  refine x_iadd (v := 192) hx hb dX3_putItem_26 (by decide) ?_
  refine lv_iload_n hx hb dX3_putItem_27 rfl (lv_at hl 4 rfl) ?_
  refine g_v (wr := [(q6, .inl (g.2 0, 40, .inl f7)), (q1, .inr (5, [.ref q9, .ref q6]))]) (rSN (rest := []) hx hb hml hown hE hP hD (c822_X9_putAt l g q9 f10 H.size) (kSN_X9_putAt hE (e689 hE) rfl rfl ⟨(Nat.le_of_ble_eq_true rfl), (Nat.le_of_ble_eq_true rfl)⟩) [0] rfl (by decide) rfl hl.1 rfl (lv_room (Nat.le_of_ble_eq_true rfl)) dX3_putItem_28 ⟨(Nat.le_of_ble_eq_true rfl), (Nat.le_of_ble_eq_true rfl)⟩) hP hD hS hA [0] [1, 2] rfl rfl (by decide) (by decide) (fun u2 H locs hP hD hS => ?_)
  have hP : va_P g.1 vwCl [(q6, .inl (g.2 0, 40, .inl f7)), (q1, .inr (5, [.ref q9, .ref q6])), (q9, .inl (g.2 0, 384, .inl (upd f10 192 2)))] H := hP
  have hD : va_D A [(q6, .inl (g.2 0, 40, .inl f7)), (q1, .inr (5, [.ref q9, .ref q6])), (q9, .inl (g.2 0, 384, .inl (upd f10 192 2)))] := hD
  refine lv_aload_n hx hb dX3_putItem_31 rfl (lv_at hl 2 rfl) ?_
  refine gf_RX3_9 hx hb hown hE hP 1 rfl rfl dX3_putItem_32 ?_
  refine lv_iload hx hb dX3_putItem_35 (lv_at hl 0 rfl) ?_
  refine lv_iconst (v := 1) hx hb dX3_putItem_37 (by decide) ?_
  refine x_iadd (v := 193) hx hb dX3_putItem_38 (by decide) ?_
  refine lv_iload_n hx hb dX3_putItem_39 rfl (lv_at hl 5 rfl) ?_
  refine g_v (wr := [(q6, .inl (g.2 0, 40, .inl f7)), (q1, .inr (5, [.ref q9, .ref q6]))]) (rSN (rest := []) hx hb hml hown hE hP hD (c317_X9_putAt l g q9 x2 (upd f10 192 2) H.size) (kSN_X9_putAt hE (e689 hE) rfl rfl ⟨(Nat.le_of_ble_eq_true rfl), (Nat.le_of_ble_eq_true rfl)⟩) [2] rfl (by decide) rfl hl.1 rfl (lv_room (Nat.le_of_ble_eq_true rfl)) dX3_putItem_40 ⟨(Nat.le_of_ble_eq_true rfl), (Nat.le_of_ble_eq_true rfl)⟩) hP hD hS hA [2] [0, 1] rfl rfl (by decide) (by decide) (fun u3 H locs hP hD hS => ?_)
  have hP : va_P g.1 vwCl [(q6, .inl (g.2 0, 40, .inl f7)), (q1, .inr (5, [.ref q9, .ref q6])), (q9, .inl (g.2 0, 384, .inl (upd (upd f10 192 2) 193 x2)))] H := hP
  have hD : va_D A [(q6, .inl (g.2 0, 40, .inl f7)), (q1, .inr (5, [.ref q9, .ref q6])), (q9, .inl (g.2 0, 384, .inl (upd (upd f10 192 2) 193 x2)))] := hD
  refine lv_aload_n hx hb dX3_putItem_43 rfl (lv_at hl 2 rfl) ?_
  refine gf_RX3_9 hx hb hown hE hP 1 rfl rfl dX3_putItem_44 ?_
  refine lv_iload hx hb dX3_putItem_47 (lv_at hl 0 rfl) ?_
  refine lv_iconst (v := 2) hx hb dX3_putItem_49 (by decide) ?_
  refine x_iadd (v := 194) hx hb dX3_putItem_50 (by decide) ?_
  refine lv_iload hx hb dX3_putItem_51 (lv_at hl 6 rfl) ?_
  refine g_v (wr := [(q6, .inl (g.2 0, 40, .inl f7)), (q1, .inr (5, [.ref q9, .ref q6]))]) (rSN (rest := []) hx hb hml hown hE hP hD (c318_X9_putAt l g q9 x3 (upd (upd f10 192 2) 193 x2) H.size) (kSN_X9_putAt hE (e689 hE) rfl rfl ⟨(Nat.le_of_ble_eq_true rfl), (Nat.le_of_ble_eq_true rfl)⟩) [2] rfl (by decide) rfl hl.1 rfl (lv_room (Nat.le_of_ble_eq_true rfl)) dX3_putItem_53 ⟨(Nat.le_of_ble_eq_true rfl), (Nat.le_of_ble_eq_true rfl)⟩) hP hD hS hA [2] [0, 1] rfl rfl (by decide) (by decide) (fun u4 H locs hP hD hS => ?_)
  have hP : va_P g.1 vwCl [(q6, .inl (g.2 0, 40, .inl f7)), (q1, .inr (5, [.ref q9, .ref q6])), (q9, .inl (g.2 0, 384, .inl (upd (upd (upd f10 192 2) 193 x2) 194 x3)))] H := hP
  have hD : va_D A [(q6, .inl (g.2 0, 40, .inl f7)), (q1, .inr (5, [.ref q9, .ref q6])), (q9, .inl (g.2 0, 384, .inl (upd (upd (upd f10 192 2) 193 x2) 194 x3)))] := hD
  refine lv_aload_n hx hb dX3_putItem_56 rfl (lv_at hl 2 rfl) ?_
  refine gf_RX3_9 hx hb hown hE hP 1 rfl rfl dX3_putItem_57 ?_
  refine lv_iload hx hb dX3_putItem_60 (lv_at hl 0 rfl) ?_
  refine lv_iconst (v := 3) hx hb dX3_putItem_62 (by decide) ?_
  refine x_iadd (v := 195) hx hb dX3_putItem_63 (by decide) ?_
  refine lv_iload hx hb dX3_putItem_64 (lv_at hl 7 rfl) ?_
  refine g_v (wr := [(q6, .inl (g.2 0, 40, .inl f7)), (q1, .inr (5, [.ref q9, .ref q6]))]) (rSN (rest := []) hx hb hml hown hE hP hD (c319_X9_putAt l g q9 (-1) (upd (upd (upd f10 192 2) 193 x2) 194 x3) H.size) (kSN_X9_putAt hE (e689 hE) rfl rfl ⟨(Nat.le_of_ble_eq_true rfl), (Nat.le_of_ble_eq_true rfl)⟩) [2] rfl (by decide) rfl hl.1 rfl (lv_room (Nat.le_of_ble_eq_true rfl)) dX3_putItem_66 ⟨(Nat.le_of_ble_eq_true rfl), (Nat.le_of_ble_eq_true rfl)⟩) hP hD hS hA [2] [0, 1] rfl rfl (by decide) (by decide) (fun u5 H locs hP hD hS => ?_)
  have hP : va_P g.1 vwCl [(q6, .inl (g.2 0, 40, .inl f7)), (q1, .inr (5, [.ref q9, .ref q6])), (q9, .inl (g.2 0, 384, .inl (upd (upd (upd (upd f10 192 2) 193 x2) 194 x3) 195 (-1))))] H := hP
  have hD : va_D A [(q6, .inl (g.2 0, 40, .inl f7)), (q1, .inr (5, [.ref q9, .ref q6])), (q9, .inl (g.2 0, 384, .inl (upd (upd (upd (upd f10 192 2) 193 x2) 194 x3) 195 (-1))))] := hD
  refine lv_aload_n hx hb dX3_putItem_69 rfl (lv_at hl 2 rfl) ?_
  refine lv_iload_n hx hb dX3_putItem_70 rfl (lv_at hl 3 rfl) ?_
  refine lv_iconst (v := 0) hx hb dX3_putItem_71 (by decide) ?_
  refine lv_iload hx hb dX3_putItem_72 (lv_at hl 1 rfl) ?_
  refine lv_iconst (v := 1) hx hb dX3_putItem_74 (by decide) ?_
  refine x_iadd (v := 1) hx hb dX3_putItem_75 (by decide) ?_
  refine g_v (wr := [(q9, .inl (g.2 0, 384, .inl (upd (upd (upd (upd f10 192 2) 193 x2) 194 x3) 195 (-1))))]) (rV (rest := []) hx hb hml hown hE hP hD 1 rfl rfl (c320_X3_putFigure l g q1 q6 (.ref q9) f7 H.size) (kV_X3_putFigure hE (e91 hE) rfl rfl ⟨(Nat.le_of_ble_eq_true rfl), (Nat.le_of_ble_eq_true rfl)⟩) [0, 1] rfl (by decide) rfl hl.1 rfl (lv_room (Nat.le_of_ble_eq_true rfl)) dX3_putItem_76 ⟨(Nat.le_of_ble_eq_true rfl), (Nat.le_of_ble_eq_true rfl)⟩) hP hD hS hA [0, 1] [2] rfl rfl (by decide) (by decide) (fun u6 H locs hP hD hS => ?_)
  have hP : va_P g.1 vwCl [(q9, .inl (g.2 0, 384, .inl (upd (upd (upd (upd f10 192 2) 193 x2) 194 x3) 195 (-1)))), (q6, .inl (g.2 0, 40, .inl (upd f7 20 1))), (q1, .inr (5, [.ref q9, .ref q6]))] H := hP
  have hD : va_D A [(q9, .inl (g.2 0, 384, .inl (upd (upd (upd (upd f10 192 2) 193 x2) 194 x3) 195 (-1)))), (q6, .inl (g.2 0, 40, .inl (upd f7 20 1))), (q1, .inr (5, [.ref q9, .ref q6]))] := hD
  exact x_vret hx hb hr hlocks hP hD hS hAe hsz (Nat.le_of_ble_eq_true rfl) (Nat.le_of_ble_eq_true rfl) (fun _ => 0) [0, 1, 2] (by decide) rfl dX3_putItem_79

set_option maxHeartbeats 4000000 in
set_option maxRecDepth 100000 in
theorem c824_X9_putItem (l : Launch) (g : gG) (q1 q11 q14 q17 : Nat) (x2 x3 : Int32) (w5 w6 w7 w8 w9 w10 : Value) (f15 : Nat → Int32) (f18 : Nat → Int32) (hf16 : f15 20 = 0) (sz : Nat) : Met l yX9_putItem [Cond.code yX9_putItem cX9_putItem 6 none] ({ frames := 2, cells := 0, slots := 0, locals := 51 } : Room) (va_Pc [.ref q1, .int 4, .int 2, .int x2, .int x3, .int (-1)] (PX g sz [(q17, .inl (g.2 0, 384, .inl f18)), (q14, .inl (g.2 0, 40, .inl f15)), (q11, .inr (5, [.ref q17, .ref q14])), (q1, .inr (8, [.ref q11, w5, w6, w7, w8, w9, w10]))])) (QV g [(q17, .inl (g.2 0, 384, .inl f18)), (q14, .inl (g.2 0, 40, .inl f15)), (q11, .inr (5, [.ref q17, .ref q14])), (q1, .inr (8, [.ref q11, w5, w6, w7, w8, w9, w10]))] sz (fun _ => [(q1, .inr (8, [.ref q11, w5, w6, w7, w8, w9, w10])), (q17, .inl (g.2 0, 384, .inl (upd (upd (upd (upd f18 192 2) 193 x2) 194 x3) 195 (-1)))), (q14, .inl (g.2 0, 40, .inl (upd f15 20 1))), (q11, .inr (5, [.ref q17, .ref q14]))])) 0 0 (va_A [(q17, .inl (g.2 0, 384, .inl f18)), (q14, .inl (g.2 0, 40, .inl f15)), (q11, .inr (5, [.ref q17, .ref q14])), (q1, .inr (8, [.ref q11, w5, w6, w7, w8, w9, w10]))] sz) := by
  refine ofN (by decide) (Nat.le_of_ble_eq_true rfl) rfl ?_
  intro p e s m args below meth c A ls hAe hsz hx hb hml hr hlocks hin hown hE hP hD hA hS hl
  have hown : s.vm.findClass RX9 = some m.cls := hown
  refine lv_aload_n hx hb dX9_putItem_0 rfl (lv_at hl 0 rfl) ?_
  refine gf_RX9_108 hx hb hown hE hP 3 rfl rfl dX9_putItem_1 ?_
  refine lv_iload_n hx hb dX9_putItem_4 rfl (lv_at hl 1 rfl) ?_
  refine lv_iconst (v := 0) hx hb dX9_putItem_5 (by decide) ?_
  refine g_i (wr := [(q17, .inl (g.2 0, 384, .inl f18)), (q1, .inr (8, [.ref q11, w5, w6, w7, w8, w9, w10]))]) (rV (rest := []) hx hb hml hown hE hP hD 2 rfl rfl (c164_X3_figure l g q11 q14 (.ref q17) f15 (hf16) s.heap.size) (kV_X3_figure hE (e668 hE) rfl rfl ⟨(Nat.le_of_ble_eq_true rfl), (Nat.le_of_ble_eq_true rfl)⟩) [1, 2] rfl (by decide) rfl hl.1 rfl (lv_room (Nat.le_of_ble_eq_true rfl)) dX9_putItem_6 ⟨(Nat.le_of_ble_eq_true rfl), (Nat.le_of_ble_eq_true rfl)⟩) hP hD hS hA [1, 2] [0, 3] rfl rfl (by decide) (by decide) (fun u1 H locs hP hD hS => ?_)
  have hP : va_P g.1 vwCl [(q17, .inl (g.2 0, 384, .inl f18)), (q1, .inr (8, [.ref q11, w5, w6, w7, w8, w9, w10])), (q14, .inl (g.2 0, 40, .inl f15)), (q11, .inr (5, [.ref q17, .ref q14]))] H := hP
  have hD : va_D A [(q17, .inl (g.2 0, 384, .inl f18)), (q1, .inr (8, [.ref q11, w5, w6, w7, w8, w9, w10])), (q14, .inl (g.2 0, 40, .inl f15)), (q11, .inr (5, [.ref q17, .ref q14]))] := hD
  refine lv_bipush (v := 12) hx hb dX9_putItem_9 (by decide) ?_
  refine lv_icmp_lt (tgt := 25) hx hb dX9_putItem_11 (by decide) (fun _ => ?_) (fun h => absurd (by decide) h)
  refine lv_aload_n hx hb dX9_putItem_25 rfl (lv_at hl 0 rfl) ?_
  refine gf_RX9_108 hx hb hown hE hP 1 rfl rfl dX9_putItem_26 ?_
  refine lv_iload_n hx hb dX9_putItem_29 rfl (lv_at hl 1 rfl) ?_
  refine lv_iload_n hx hb dX9_putItem_30 rfl (lv_at hl 2 rfl) ?_
  refine lv_iload_n hx hb dX9_putItem_31 rfl (lv_at hl 3 rfl) ?_
  refine lv_iload hx hb dX9_putItem_32 (lv_at hl 4 rfl) ?_
  refine lv_iload hx hb dX9_putItem_34 (lv_at hl 5 rfl) ?_
  refine g_v (wr := [(q1, .inr (8, [.ref q11, w5, w6, w7, w8, w9, w10]))]) (rV (rest := []) hx hb hml hown hE hP hD 3 rfl rfl (c823_X3_putItem l g q11 q14 q17 x2 x3 f15 f18 (hf16) H.size) (kV_X3_putItem hE (e685 hE) rfl rfl ⟨(Nat.le_of_ble_eq_true rfl), (Nat.le_of_ble_eq_true rfl)⟩) [0, 2, 3] rfl (by decide) rfl hl.1 rfl (lv_room (Nat.le_of_ble_eq_true rfl)) dX9_putItem_36 ⟨(Nat.le_of_ble_eq_true rfl), (Nat.le_of_ble_eq_true rfl)⟩) hP hD hS hA [0, 2, 3] [1] rfl rfl (by decide) (by decide) (fun u2 H locs hP hD hS => ?_)
  have hP : va_P g.1 vwCl [(q1, .inr (8, [.ref q11, w5, w6, w7, w8, w9, w10])), (q17, .inl (g.2 0, 384, .inl (upd (upd (upd (upd f18 192 2) 193 x2) 194 x3) 195 (-1)))), (q14, .inl (g.2 0, 40, .inl (upd f15 20 1))), (q11, .inr (5, [.ref q17, .ref q14]))] H := hP
  have hD : va_D A [(q1, .inr (8, [.ref q11, w5, w6, w7, w8, w9, w10])), (q17, .inl (g.2 0, 384, .inl (upd (upd (upd (upd f18 192 2) 193 x2) 194 x3) 195 (-1)))), (q14, .inl (g.2 0, 40, .inl (upd f15 20 1))), (q11, .inr (5, [.ref q17, .ref q14]))] := hD
  exact x_vret hx hb hr hlocks hP hD hS hAe hsz (Nat.le_of_ble_eq_true rfl) (Nat.le_of_ble_eq_true rfl) (fun _ => 0) [0, 1, 2, 3] (by decide) rfl dX9_putItem_39

set_option maxHeartbeats 4000000 in
set_option maxRecDepth 100000 in
theorem c825_X3_itemNumber (l : Launch) (g : gG) (q1 q4 : Nat) (w3 : Value) (f5 : Nat → Int32) (hf6 : f5 192 = 2) (sz : Nat) : Met l yX3_itemNumber [Cond.code yX3_itemNumber cX3_itemNumber 5 (some .int)] ({ frames := 0, cells := 0, slots := 0, locals := 0 } : Room) (va_Pc [.ref q1, .int 4, .int 0, .int 0] (PX g sz [(q4, .inl (g.2 0, 384, .inl f5)), (q1, .inr (5, [.ref q4, w3]))])) (QI g [(q4, .inl (g.2 0, 384, .inl f5)), (q1, .inr (5, [.ref q4, w3]))] sz 2 (fun _ => [(q4, .inl (g.2 0, 384, .inl f5)), (q1, .inr (5, [.ref q4, w3]))])) 0 0 (va_A [(q4, .inl (g.2 0, 384, .inl f5)), (q1, .inr (5, [.ref q4, w3]))] sz) := by
  refine ofN (by decide) (Nat.le_of_ble_eq_true rfl) rfl ?_
  intro p e s m args below meth c A ls hAe hsz hx hb hml hr hlocks hin hown hE hP hD hA hS hl
  have hown : s.vm.findClass RX3 = some m.cls := hown
  refine lv_iload_n hx hb dX3_itemNumber_0 rfl (lv_at hl 1 rfl) ?_
  refine lv_bipush (v := 12) hx hb dX3_itemNumber_1 (by decide) ?_
  refine x_imul (v := 48) hx hb dX3_itemNumber_3 (by decide) ?_
  refine lv_iload_n hx hb dX3_itemNumber_4 rfl (lv_at hl 2 rfl) ?_
  refine x_iadd (v := 48) hx hb dX3_itemNumber_5 (by decide) ?_
  refine lv_iconst (v := 4) hx hb dX3_itemNumber_6 (by decide) ?_
  refine x_imul (v := 192) hx hb dX3_itemNumber_7 (by decide) ?_
  refine lv_iload_n hx hb dX3_itemNumber_8 rfl (lv_at hl 3 rfl) ?_
  refine x_iadd (v := 192) hx hb dX3_itemNumber_9 (by decide) ?_
  refine lv_istore (lv' := [(4, .int 192), (0, .ref q1), (1, .int 4), (2, .int 0), (3, .int 0)]) hx hb dX3_itemNumber_10 hl (by decide) rfl (fun ls hl => ?_)
  refine lv_iload hx hb dX3_itemNumber_12 (lv_at hl 0 rfl) ?_
  refine lv_if_lt (tgt := 37) hx hb dX3_itemNumber_14 (by decide) (fun h => absurd h (by decide)) (fun _ => ?_)
  refine lv_iload hx hb dX3_itemNumber_17 (lv_at hl 0 rfl) ?_
  refine lv_aload_n hx hb dX3_itemNumber_19 rfl (lv_at hl 1 rfl) ?_
  refine gf_RX3_9 hx hb hown hE hP 1 rfl rfl dX3_itemNumber_20 ?_
  refine x_aleni (v := 384) hx hb hE hP 0 rfl rfl dX3_itemNumber_23 ?_
  refine lv_icmp_ge (tgt := 37) hx hb dX3_itemNumber_24 (by decide) (fun h => absurd h (by decide)) (fun _ => ?_)
  refine lv_aload_n hx hb dX3_itemNumber_27 rfl (lv_at hl 1 rfl) ?_
  refine gf_RX3_9 hx hb hown hE hP 1 rfl rfl dX3_itemNumber_28 ?_
  refine lv_iload hx hb dX3_itemNumber_31 (lv_at hl 0 rfl) ?_
  refine x_iald (v := 2) hx hb hE hP 0 rfl 192 (x_in (by decide)) (by decide) hf6 dX3_itemNumber_33 ?_
  refine lv_goto (tgt := 38) hx hb dX3_itemNumber_34 (by decide) ?_
  exact x_zret hx hb hr rfl rfl hlocks hP hD hS hAe hsz (Nat.le_of_ble_eq_true rfl) (Nat.le_of_ble_eq_true rfl) (fun _ => 0) [0, 1] (by decide) rfl dX3_itemNumber_38

set_option maxHeartbeats 4000000 in
set_option maxRecDepth 100000 in
theorem c826_X3_itemNumber (l : Launch) (g : gG) (q1 q4 : Nat) (x7 : Int32) (w3 : Value) (f5 : Nat → Int32) (hf6 : f5 193 = x7) (sz : Nat) : Met l yX3_itemNumber [Cond.code yX3_itemNumber cX3_itemNumber 5 (some .int)] ({ frames := 0, cells := 0, slots := 0, locals := 0 } : Room) (va_Pc [.ref q1, .int 4, .int 0, .int 1] (PX g sz [(q4, .inl (g.2 0, 384, .inl f5)), (q1, .inr (5, [.ref q4, w3]))])) (QI g [(q4, .inl (g.2 0, 384, .inl f5)), (q1, .inr (5, [.ref q4, w3]))] sz x7 (fun _ => [(q4, .inl (g.2 0, 384, .inl f5)), (q1, .inr (5, [.ref q4, w3]))])) 0 0 (va_A [(q4, .inl (g.2 0, 384, .inl f5)), (q1, .inr (5, [.ref q4, w3]))] sz) := by
  refine ofN (by decide) (Nat.le_of_ble_eq_true rfl) rfl ?_
  intro p e s m args below meth c A ls hAe hsz hx hb hml hr hlocks hin hown hE hP hD hA hS hl
  have hown : s.vm.findClass RX3 = some m.cls := hown
  refine lv_iload_n hx hb dX3_itemNumber_0 rfl (lv_at hl 1 rfl) ?_
  refine lv_bipush (v := 12) hx hb dX3_itemNumber_1 (by decide) ?_
  refine x_imul (v := 48) hx hb dX3_itemNumber_3 (by decide) ?_
  refine lv_iload_n hx hb dX3_itemNumber_4 rfl (lv_at hl 2 rfl) ?_
  refine x_iadd (v := 48) hx hb dX3_itemNumber_5 (by decide) ?_
  refine lv_iconst (v := 4) hx hb dX3_itemNumber_6 (by decide) ?_
  refine x_imul (v := 192) hx hb dX3_itemNumber_7 (by decide) ?_
  refine lv_iload_n hx hb dX3_itemNumber_8 rfl (lv_at hl 3 rfl) ?_
  refine x_iadd (v := 193) hx hb dX3_itemNumber_9 (by decide) ?_
  refine lv_istore (lv' := [(4, .int 193), (0, .ref q1), (1, .int 4), (2, .int 0), (3, .int 1)]) hx hb dX3_itemNumber_10 hl (by decide) rfl (fun ls hl => ?_)
  refine lv_iload hx hb dX3_itemNumber_12 (lv_at hl 0 rfl) ?_
  refine lv_if_lt (tgt := 37) hx hb dX3_itemNumber_14 (by decide) (fun h => absurd h (by decide)) (fun _ => ?_)
  refine lv_iload hx hb dX3_itemNumber_17 (lv_at hl 0 rfl) ?_
  refine lv_aload_n hx hb dX3_itemNumber_19 rfl (lv_at hl 1 rfl) ?_
  refine gf_RX3_9 hx hb hown hE hP 1 rfl rfl dX3_itemNumber_20 ?_
  refine x_aleni (v := 384) hx hb hE hP 0 rfl rfl dX3_itemNumber_23 ?_
  refine lv_icmp_ge (tgt := 37) hx hb dX3_itemNumber_24 (by decide) (fun h => absurd h (by decide)) (fun _ => ?_)
  refine lv_aload_n hx hb dX3_itemNumber_27 rfl (lv_at hl 1 rfl) ?_
  refine gf_RX3_9 hx hb hown hE hP 1 rfl rfl dX3_itemNumber_28 ?_
  refine lv_iload hx hb dX3_itemNumber_31 (lv_at hl 0 rfl) ?_
  refine x_iald (v := x7) hx hb hE hP 0 rfl 193 (x_in (by decide)) (by decide) hf6 dX3_itemNumber_33 ?_
  refine lv_goto (tgt := 38) hx hb dX3_itemNumber_34 (by decide) ?_
  exact x_zret hx hb hr rfl rfl hlocks hP hD hS hAe hsz (Nat.le_of_ble_eq_true rfl) (Nat.le_of_ble_eq_true rfl) (fun _ => 0) [0, 1] (by decide) rfl dX3_itemNumber_38

set_option maxHeartbeats 4000000 in
set_option maxRecDepth 100000 in
theorem c827_X3_lengthOf (l : Launch) (g : gG) (q1 q4 q10 : Nat) (x7 : Int32) (f5 : Nat → Int32) (f11 : Nat → Int32) (hf6 : f5 194 = x7) (hf8 : f5 192 = 2) (hf9 : f5 193 = 0) (hf12 : f11 1 = 0) (sz : Nat) : Met l yX3_lengthOf [Cond.code yX3_lengthOf cX3_lengthOf 4 (some .int)] ({ frames := 1, cells := 0, slots := 0, locals := 24 } : Room) (va_Pc [.ref q1, .int 4, .int 0] (PX g sz [(q10, .inl (g.2 0, 40, .inl f11)), (q4, .inl (g.2 0, 384, .inl f5)), (q1, .inr (5, [.ref q4, .ref q10]))])) (QI g [(q10, .inl (g.2 0, 40, .inl f11)), (q4, .inl (g.2 0, 384, .inl f5)), (q1, .inr (5, [.ref q4, .ref q10]))] sz 0 (fun _ => [(q4, .inl (g.2 0, 384, .inl f5)), (q10, .inl (g.2 0, 40, .inl f11)), (q1, .inr (5, [.ref q4, .ref q10]))])) 0 0 (va_A [(q10, .inl (g.2 0, 40, .inl f11)), (q4, .inl (g.2 0, 384, .inl f5)), (q1, .inr (5, [.ref q4, .ref q10]))] sz) := by
  refine ofN (by decide) (Nat.le_of_ble_eq_true rfl) rfl ?_
  intro p e s m args below meth c A ls hAe hsz hx hb hml hr hlocks hin hown hE hP hD hA hS hl
  have hown : s.vm.findClass RX3 = some m.cls := hown
  refine lv_aload_n hx hb dX3_lengthOf_0 rfl (lv_at hl 0 rfl) ?_
  refine lv_iload_n hx hb dX3_lengthOf_1 rfl (lv_at hl 1 rfl) ?_
  refine lv_iload_n hx hb dX3_lengthOf_2 rfl (lv_at hl 2 rfl) ?_
  refine lv_iconst (v := 2) hx hb dX3_lengthOf_3 (by decide) ?_
  refine g_i (wr := [(q10, .inl (g.2 0, 40, .inl f11))]) (rV (rest := []) hx hb hml hown hE hP hD 2 rfl rfl (c324_X3_itemNumber l g q1 q4 x7 (.ref q10) f5 (hf6) s.heap.size) (kV_X3_itemNumber hE (e348 hE) rfl rfl ⟨(Nat.le_of_ble_eq_true rfl), (Nat.le_of_ble_eq_true rfl)⟩) [1, 2] rfl (by decide) rfl hl.1 rfl (lv_room (Nat.le_of_ble_eq_true rfl)) dX3_lengthOf_4 ⟨(Nat.le_of_ble_eq_true rfl), (Nat.le_of_ble_eq_true rfl)⟩) hP hD hS hA [1, 2] [0] rfl rfl (by decide) (by decide) (fun u1 H locs hP hD hS => ?_)
  have hP : va_P g.1 vwCl [(q10, .inl (g.2 0, 40, .inl f11)), (q4, .inl (g.2 0, 384, .inl f5)), (q1, .inr (5, [.ref q4, .ref q10]))] H := hP
  have hD : va_D A [(q10, .inl (g.2 0, 40, .inl f11)), (q4, .inl (g.2 0, 384, .inl f5)), (q1, .inr (5, [.ref q4, .ref q10]))] := hD
  refine lv_istore_n (lv' := [(3, .int x7), (0, .ref q1), (1, .int 4), (2, .int 0)]) hx hb dX3_lengthOf_7 rfl hl (by decide) rfl (fun ls hl => ?_)
  refine lv_aload_n hx hb dX3_lengthOf_8 rfl (lv_at hl 1 rfl) ?_
  refine lv_iload_n hx hb dX3_lengthOf_9 rfl (lv_at hl 2 rfl) ?_
  refine lv_iload_n hx hb dX3_lengthOf_10 rfl (lv_at hl 3 rfl) ?_
  refine lv_iconst (v := 0) hx hb dX3_lengthOf_11 (by decide) ?_
  refine g_i (wr := [(q10, .inl (g.2 0, 40, .inl f11))]) (rV (rest := []) hx hb hml hown hE hP hD 2 rfl rfl (c825_X3_itemNumber l g q1 q4 (.ref q10) f5 (hf8) H.size) (kV_X3_itemNumber hE (e348 hE) rfl rfl ⟨(Nat.le_of_ble_eq_true rfl), (Nat.le_of_ble_eq_true rfl)⟩) [1, 2] rfl (by decide) rfl hl.1 rfl (lv_room (Nat.le_of_ble_eq_true rfl)) dX3_lengthOf_12 ⟨(Nat.le_of_ble_eq_true rfl), (Nat.le_of_ble_eq_true rfl)⟩) hP hD hS hA [1, 2] [0] rfl rfl (by decide) (by decide) (fun u2 H locs hP hD hS => ?_)
  have hP : va_P g.1 vwCl [(q10, .inl (g.2 0, 40, .inl f11)), (q4, .inl (g.2 0, 384, .inl f5)), (q1, .inr (5, [.ref q4, .ref q10]))] H := hP
  have hD : va_D A [(q10, .inl (g.2 0, 40, .inl f11)), (q4, .inl (g.2 0, 384, .inl f5)), (q1, .inr (5, [.ref q4, .ref q10]))] := hD
  refine lv_iconst (v := 2) hx hb dX3_lengthOf_15 (by decide) ?_
  refine lv_icmp_ne (tgt := 34) hx hb dX3_lengthOf_16 (by decide) (fun h => absurd h (by decide)) (fun _ => ?_)
  refine lv_iload_n hx hb dX3_lengthOf_19 rfl (lv_at hl 0 rfl) ?_
  refine lv_aload_n hx hb dX3_lengthOf_20 rfl (lv_at hl 1 rfl) ?_
  refine lv_aload_n hx hb dX3_lengthOf_21 rfl (lv_at hl 1 rfl) ?_
  refine lv_iload_n hx hb dX3_lengthOf_22 rfl (lv_at hl 2 rfl) ?_
  refine lv_iload_n hx hb dX3_lengthOf_23 rfl (lv_at hl 3 rfl) ?_
  refine lv_iconst (v := 1) hx hb dX3_lengthOf_24 (by decide) ?_
  refine g_i (wr := [(q10, .inl (g.2 0, 40, .inl f11))]) (rV (rest := [.ref q1, .int x7]) hx hb hml hown hE hP hD 2 rfl rfl (c826_X3_itemNumber l g q1 q4 0 (.ref q10) f5 (hf9) H.size) (kV_X3_itemNumber hE (e348 hE) rfl rfl ⟨(Nat.le_of_ble_eq_true rfl), (Nat.le_of_ble_eq_true rfl)⟩) [1, 2] rfl (by decide) rfl hl.1 rfl (lv_room (Nat.le_of_ble_eq_true rfl)) dX3_lengthOf_25 ⟨(Nat.le_of_ble_eq_true rfl), (Nat.le_of_ble_eq_true rfl)⟩) hP hD hS hA [1, 2] [0] rfl rfl (by decide) (by decide) (fun u3 H locs hP hD hS => ?_)
  have hP : va_P g.1 vwCl [(q10, .inl (g.2 0, 40, .inl f11)), (q4, .inl (g.2 0, 384, .inl f5)), (q1, .inr (5, [.ref q4, .ref q10]))] H := hP
  have hD : va_D A [(q10, .inl (g.2 0, 40, .inl f11)), (q4, .inl (g.2 0, 384, .inl f5)), (q1, .inr (5, [.ref q4, .ref q10]))] := hD
  refine lv_iconst (v := 1) hx hb dX3_lengthOf_28 (by decide) ?_
  refine g_i (wr := [(q4, .inl (g.2 0, 384, .inl f5))]) (rV (rest := [.int x7]) hx hb hml hown hE hP hD 2 rfl rfl (c145_X3_figure l g q1 q10 0 (.ref q4) f11 (hf12) H.size) (kV_X3_figure hE (e343 hE) rfl rfl ⟨(Nat.le_of_ble_eq_true rfl), (Nat.le_of_ble_eq_true rfl)⟩) [0, 2] rfl (by decide) rfl hl.1 rfl (lv_room (Nat.le_of_ble_eq_true rfl)) dX3_lengthOf_29 ⟨(Nat.le_of_ble_eq_true rfl), (Nat.le_of_ble_eq_true rfl)⟩) hP hD hS hA [0, 2] [1] rfl rfl (by decide) (by decide) (fun u4 H locs hP hD hS => ?_)
  have hP : va_P g.1 vwCl [(q4, .inl (g.2 0, 384, .inl f5)), (q10, .inl (g.2 0, 40, .inl f11)), (q1, .inr (5, [.ref q4, .ref q10]))] H := hP
  have hD : va_D A [(q4, .inl (g.2 0, 384, .inl f5)), (q10, .inl (g.2 0, 40, .inl f11)), (q1, .inr (5, [.ref q4, .ref q10]))] := hD
  refine x_imul (v := 0) hx hb dX3_lengthOf_32 (Int32.mul_zero) ?_
  exact x_zret hx hb hr rfl rfl hlocks hP hD hS hAe hsz (Nat.le_of_ble_eq_true rfl) (Nat.le_of_ble_eq_true rfl) (fun _ => 0) [0, 1, 2] (by decide) rfl dX3_lengthOf_33

set_option maxHeartbeats 4000000 in
set_option maxRecDepth 100000 in
theorem c828_X3_notesOf (l : Launch) (g : gG) (q1 q4 q10 : Nat) (x8 : Int32) (f5 : Nat → Int32) (f11 : Nat → Int32) (hf6 : f5 192 = 2) (hf7 : f5 194 = x8) (hf9 : f5 193 = 0) (hf12 : f11 2 = 0) (sz : Nat) : Met l yX3_notesOf [Cond.code yX3_notesOf cX3_notesOf 4 (some .int)] ({ frames := 1, cells := 0, slots := 0, locals := 24 } : Room) (va_Pc [.ref q1, .int 4, .int 0] (PX g sz [(q10, .inl (g.2 0, 40, .inl f11)), (q4, .inl (g.2 0, 384, .inl f5)), (q1, .inr (5, [.ref q4, .ref q10]))])) (QI g [(q10, .inl (g.2 0, 40, .inl f11)), (q4, .inl (g.2 0, 384, .inl f5)), (q1, .inr (5, [.ref q4, .ref q10]))] sz 0 (fun _ => [(q4, .inl (g.2 0, 384, .inl f5)), (q10, .inl (g.2 0, 40, .inl f11)), (q1, .inr (5, [.ref q4, .ref q10]))])) 0 0 (va_A [(q10, .inl (g.2 0, 40, .inl f11)), (q4, .inl (g.2 0, 384, .inl f5)), (q1, .inr (5, [.ref q4, .ref q10]))] sz) := by
  refine ofN (by decide) (Nat.le_of_ble_eq_true rfl) rfl ?_
  intro p e s m args below meth c A ls hAe hsz hx hb hml hr hlocks hin hown hE hP hD hA hS hl
  have hown : s.vm.findClass RX3 = some m.cls := hown
  refine lv_aload_n hx hb dX3_notesOf_0 rfl (lv_at hl 0 rfl) ?_
  refine lv_iload_n hx hb dX3_notesOf_1 rfl (lv_at hl 1 rfl) ?_
  refine lv_iload_n hx hb dX3_notesOf_2 rfl (lv_at hl 2 rfl) ?_
  refine lv_iconst (v := 0) hx hb dX3_notesOf_3 (by decide) ?_
  refine g_i (wr := [(q10, .inl (g.2 0, 40, .inl f11))]) (rV (rest := []) hx hb hml hown hE hP hD 2 rfl rfl (c825_X3_itemNumber l g q1 q4 (.ref q10) f5 (hf6) s.heap.size) (kV_X3_itemNumber hE (e348 hE) rfl rfl ⟨(Nat.le_of_ble_eq_true rfl), (Nat.le_of_ble_eq_true rfl)⟩) [1, 2] rfl (by decide) rfl hl.1 rfl (lv_room (Nat.le_of_ble_eq_true rfl)) dX3_notesOf_4 ⟨(Nat.le_of_ble_eq_true rfl), (Nat.le_of_ble_eq_true rfl)⟩) hP hD hS hA [1, 2] [0] rfl rfl (by decide) (by decide) (fun u1 H locs hP hD hS => ?_)
  have hP : va_P g.1 vwCl [(q10, .inl (g.2 0, 40, .inl f11)), (q4, .inl (g.2 0, 384, .inl f5)), (q1, .inr (5, [.ref q4, .ref q10]))] H := hP
  have hD : va_D A [(q10, .inl (g.2 0, 40, .inl f11)), (q4, .inl (g.2 0, 384, .inl f5)), (q1, .inr (5, [.ref q4, .ref q10]))] := hD
  refine lv_istore_n (lv' := [(3, .int 2), (0, .ref q1), (1, .int 4), (2, .int 0)]) hx hb dX3_notesOf_7 rfl hl (by decide) rfl (fun ls hl => ?_)
  refine lv_iload_n hx hb dX3_notesOf_8 rfl (lv_at hl 0 rfl) ?_
  refine lv_iconst (v := 2) hx hb dX3_notesOf_9 (by decide) ?_
  refine lv_icmp_ne (tgt := 34) hx hb dX3_notesOf_10 (by decide) (fun h => absurd h (by decide)) (fun _ => ?_)
  refine lv_aload_n hx hb dX3_notesOf_13 rfl (lv_at hl 1 rfl) ?_
  refine lv_iload_n hx hb dX3_notesOf_14 rfl (lv_at hl 2 rfl) ?_
  refine lv_iload_n hx hb dX3_notesOf_15 rfl (lv_at hl 3 rfl) ?_
  refine lv_iconst (v := 2) hx hb dX3_notesOf_16 (by decide) ?_
  refine g_i (wr := [(q10, .inl (g.2 0, 40, .inl f11))]) (rV (rest := []) hx hb hml hown hE hP hD 2 rfl rfl (c324_X3_itemNumber l g q1 q4 x8 (.ref q10) f5 (hf7) H.size) (kV_X3_itemNumber hE (e348 hE) rfl rfl ⟨(Nat.le_of_ble_eq_true rfl), (Nat.le_of_ble_eq_true rfl)⟩) [1, 2] rfl (by decide) rfl hl.1 rfl (lv_room (Nat.le_of_ble_eq_true rfl)) dX3_notesOf_17 ⟨(Nat.le_of_ble_eq_true rfl), (Nat.le_of_ble_eq_true rfl)⟩) hP hD hS hA [1, 2] [0] rfl rfl (by decide) (by decide) (fun u2 H locs hP hD hS => ?_)
  have hP : va_P g.1 vwCl [(q10, .inl (g.2 0, 40, .inl f11)), (q4, .inl (g.2 0, 384, .inl f5)), (q1, .inr (5, [.ref q4, .ref q10]))] H := hP
  have hD : va_D A [(q10, .inl (g.2 0, 40, .inl f11)), (q4, .inl (g.2 0, 384, .inl f5)), (q1, .inr (5, [.ref q4, .ref q10]))] := hD
  refine lv_aload_n hx hb dX3_notesOf_20 rfl (lv_at hl 1 rfl) ?_
  refine lv_aload_n hx hb dX3_notesOf_21 rfl (lv_at hl 1 rfl) ?_
  refine lv_iload_n hx hb dX3_notesOf_22 rfl (lv_at hl 2 rfl) ?_
  refine lv_iload_n hx hb dX3_notesOf_23 rfl (lv_at hl 3 rfl) ?_
  refine lv_iconst (v := 1) hx hb dX3_notesOf_24 (by decide) ?_
  refine g_i (wr := [(q10, .inl (g.2 0, 40, .inl f11))]) (rV (rest := [.ref q1, .int x8]) hx hb hml hown hE hP hD 2 rfl rfl (c826_X3_itemNumber l g q1 q4 0 (.ref q10) f5 (hf9) H.size) (kV_X3_itemNumber hE (e348 hE) rfl rfl ⟨(Nat.le_of_ble_eq_true rfl), (Nat.le_of_ble_eq_true rfl)⟩) [1, 2] rfl (by decide) rfl hl.1 rfl (lv_room (Nat.le_of_ble_eq_true rfl)) dX3_notesOf_25 ⟨(Nat.le_of_ble_eq_true rfl), (Nat.le_of_ble_eq_true rfl)⟩) hP hD hS hA [1, 2] [0] rfl rfl (by decide) (by decide) (fun u3 H locs hP hD hS => ?_)
  have hP : va_P g.1 vwCl [(q10, .inl (g.2 0, 40, .inl f11)), (q4, .inl (g.2 0, 384, .inl f5)), (q1, .inr (5, [.ref q4, .ref q10]))] H := hP
  have hD : va_D A [(q10, .inl (g.2 0, 40, .inl f11)), (q4, .inl (g.2 0, 384, .inl f5)), (q1, .inr (5, [.ref q4, .ref q10]))] := hD
  refine lv_iconst (v := 2) hx hb dX3_notesOf_28 (by decide) ?_
  refine g_i (wr := [(q4, .inl (g.2 0, 384, .inl f5))]) (rV (rest := [.int x8]) hx hb hml hown hE hP hD 2 rfl rfl (c666_X3_figure l g q1 q10 (.ref q4) f11 (hf12) H.size) (kV_X3_figure hE (e343 hE) rfl rfl ⟨(Nat.le_of_ble_eq_true rfl), (Nat.le_of_ble_eq_true rfl)⟩) [0, 2] rfl (by decide) rfl hl.1 rfl (lv_room (Nat.le_of_ble_eq_true rfl)) dX3_notesOf_29 ⟨(Nat.le_of_ble_eq_true rfl), (Nat.le_of_ble_eq_true rfl)⟩) hP hD hS hA [0, 2] [1] rfl rfl (by decide) (by decide) (fun u4 H locs hP hD hS => ?_)
  have hP : va_P g.1 vwCl [(q4, .inl (g.2 0, 384, .inl f5)), (q10, .inl (g.2 0, 40, .inl f11)), (q1, .inr (5, [.ref q4, .ref q10]))] H := hP
  have hD : va_D A [(q4, .inl (g.2 0, 384, .inl f5)), (q10, .inl (g.2 0, 40, .inl f11)), (q1, .inr (5, [.ref q4, .ref q10]))] := hD
  refine x_imul (v := 0) hx hb dX3_notesOf_32 (Int32.mul_zero) ?_
  exact x_zret hx hb hr rfl rfl hlocks hP hD hS hAe hsz (Nat.le_of_ble_eq_true rfl) (Nat.le_of_ble_eq_true rfl) (fun _ => 0) [0, 1, 2] (by decide) rfl dX3_notesOf_33

set_option maxHeartbeats 4000000 in
set_option maxRecDepth 100000 in
theorem c829_X3_putFigure (l : Launch) (g : gG) (q1 q4 : Nat) (w2 : Value) (f5 : Nat → Int32) (sz : Nat) : Met l yX3_putFigure [Cond.code yX3_putFigure cX3_putFigure 5 none] ({ frames := 0, cells := 0, slots := 0, locals := 0 } : Room) (va_Pc [.ref q1, .int 4, .int 3, .int 1] (PX g sz [(q4, .inl (g.2 0, 40, .inl f5)), (q1, .inr (5, [w2, .ref q4]))])) (QV g [(q4, .inl (g.2 0, 40, .inl f5)), (q1, .inr (5, [w2, .ref q4]))] sz (fun _ => [(q4, .inl (g.2 0, 40, .inl (upd f5 23 1))), (q1, .inr (5, [w2, .ref q4]))])) 0 0 (va_A [(q4, .inl (g.2 0, 40, .inl f5)), (q1, .inr (5, [w2, .ref q4]))] sz) := by
  refine ofN (by decide) (Nat.le_of_ble_eq_true rfl) rfl ?_
  intro p e s m args below meth c A ls hAe hsz hx hb hml hr hlocks hin hown hE hP hD hA hS hl
  have hown : s.vm.findClass RX3 = some m.cls := hown
  refine lv_iload_n hx hb dX3_putFigure_0 rfl (lv_at hl 1 rfl) ?_
  refine lv_iconst (v := 5) hx hb dX3_putFigure_1 (by decide) ?_
  refine x_imul (v := 20) hx hb dX3_putFigure_2 (by decide) ?_
  refine lv_iload_n hx hb dX3_putFigure_3 rfl (lv_at hl 2 rfl) ?_
  refine x_iadd (v := 23) hx hb dX3_putFigure_4 (by decide) ?_
  refine lv_istore (lv' := [(4, .int 23), (0, .ref q1), (1, .int 4), (2, .int 3), (3, .int 1)]) hx hb dX3_putFigure_5 hl (by decide) rfl (fun ls hl => ?_)
  refine lv_iload hx hb dX3_putFigure_7 (lv_at hl 0 rfl) ?_
  refine lv_if_lt (tgt := 30) hx hb dX3_putFigure_9 (by decide) (fun h => absurd h (by decide)) (fun _ => ?_)
  refine lv_iload hx hb dX3_putFigure_12 (lv_at hl 0 rfl) ?_
  refine lv_aload_n hx hb dX3_putFigure_14 rfl (lv_at hl 1 rfl) ?_
  refine gf_RX3_15 hx hb hown hE hP 1 rfl rfl dX3_putFigure_15 ?_
  refine x_aleni (v := 40) hx hb hE hP 0 rfl rfl dX3_putFigure_18 ?_
  refine lv_icmp_ge (tgt := 30) hx hb dX3_putFigure_19 (by decide) (fun h => absurd h (by decide)) (fun _ => ?_)
  refine lv_aload_n hx hb dX3_putFigure_22 rfl (lv_at hl 1 rfl) ?_
  refine gf_RX3_15 hx hb hown hE hP 1 rfl rfl dX3_putFigure_23 ?_
  refine lv_iload hx hb dX3_putFigure_26 (lv_at hl 0 rfl) ?_
  refine lv_iload_n hx hb dX3_putFigure_28 rfl (lv_at hl 4 rfl) ?_
  refine x_iast (ws' := [(q4, .inl (g.2 0, 40, .inl (upd f5 23 1))), (q1, .inr (5, [w2, .ref q4]))]) hx hb hE hP hD hS 0 rfl 23 (x_in (by decide)) (by decide) dX3_putFigure_29 rfl (fun H locs hP hD hS => ?_)
  exact x_vret hx hb hr hlocks hP hD hS hAe hsz (Nat.le_of_ble_eq_true rfl) (Nat.le_of_ble_eq_true rfl) (fun _ => 0) [0, 1] (by decide) rfl dX3_putFigure_30

set_option maxHeartbeats 4000000 in
set_option maxRecDepth 100000 in
theorem c830_X3_putFigure (l : Launch) (g : gG) (q1 q4 : Nat) (w2 : Value) (f5 : Nat → Int32) (sz : Nat) : Met l yX3_putFigure [Cond.code yX3_putFigure cX3_putFigure 5 none] ({ frames := 0, cells := 0, slots := 0, locals := 0 } : Room) (va_Pc [.ref q1, .int 4, .int 4, .int 2] (PX g sz [(q4, .inl (g.2 0, 40, .inl f5)), (q1, .inr (5, [w2, .ref q4]))])) (QV g [(q4, .inl (g.2 0, 40, .inl f5)), (q1, .inr (5, [w2, .ref q4]))] sz (fun _ => [(q4, .inl (g.2 0, 40, .inl (upd f5 24 2))), (q1, .inr (5, [w2, .ref q4]))])) 0 0 (va_A [(q4, .inl (g.2 0, 40, .inl f5)), (q1, .inr (5, [w2, .ref q4]))] sz) := by
  refine ofN (by decide) (Nat.le_of_ble_eq_true rfl) rfl ?_
  intro p e s m args below meth c A ls hAe hsz hx hb hml hr hlocks hin hown hE hP hD hA hS hl
  have hown : s.vm.findClass RX3 = some m.cls := hown
  refine lv_iload_n hx hb dX3_putFigure_0 rfl (lv_at hl 1 rfl) ?_
  refine lv_iconst (v := 5) hx hb dX3_putFigure_1 (by decide) ?_
  refine x_imul (v := 20) hx hb dX3_putFigure_2 (by decide) ?_
  refine lv_iload_n hx hb dX3_putFigure_3 rfl (lv_at hl 2 rfl) ?_
  refine x_iadd (v := 24) hx hb dX3_putFigure_4 (by decide) ?_
  refine lv_istore (lv' := [(4, .int 24), (0, .ref q1), (1, .int 4), (2, .int 4), (3, .int 2)]) hx hb dX3_putFigure_5 hl (by decide) rfl (fun ls hl => ?_)
  refine lv_iload hx hb dX3_putFigure_7 (lv_at hl 0 rfl) ?_
  refine lv_if_lt (tgt := 30) hx hb dX3_putFigure_9 (by decide) (fun h => absurd h (by decide)) (fun _ => ?_)
  refine lv_iload hx hb dX3_putFigure_12 (lv_at hl 0 rfl) ?_
  refine lv_aload_n hx hb dX3_putFigure_14 rfl (lv_at hl 1 rfl) ?_
  refine gf_RX3_15 hx hb hown hE hP 1 rfl rfl dX3_putFigure_15 ?_
  refine x_aleni (v := 40) hx hb hE hP 0 rfl rfl dX3_putFigure_18 ?_
  refine lv_icmp_ge (tgt := 30) hx hb dX3_putFigure_19 (by decide) (fun h => absurd h (by decide)) (fun _ => ?_)
  refine lv_aload_n hx hb dX3_putFigure_22 rfl (lv_at hl 1 rfl) ?_
  refine gf_RX3_15 hx hb hown hE hP 1 rfl rfl dX3_putFigure_23 ?_
  refine lv_iload hx hb dX3_putFigure_26 (lv_at hl 0 rfl) ?_
  refine lv_iload_n hx hb dX3_putFigure_28 rfl (lv_at hl 4 rfl) ?_
  refine x_iast (ws' := [(q4, .inl (g.2 0, 40, .inl (upd f5 24 2))), (q1, .inr (5, [w2, .ref q4]))]) hx hb hE hP hD hS 0 rfl 24 (x_in (by decide)) (by decide) dX3_putFigure_29 rfl (fun H locs hP hD hS => ?_)
  exact x_vret hx hb hr hlocks hP hD hS hAe hsz (Nat.le_of_ble_eq_true rfl) (Nat.le_of_ble_eq_true rfl) (fun _ => 0) [0, 1] (by decide) rfl dX3_putFigure_30

set_option maxHeartbeats 4000000 in
set_option maxRecDepth 100000 in
theorem c831_X3_measureOne (l : Launch) (g : gG) (q1 q4 q7 : Nat) (x10 : Int32) (f5 : Nat → Int32) (f8 : Nat → Int32) (hf6 : f5 20 = 1) (hf9 : f8 194 = x10) (hf11 : f8 192 = 2) (hf12 : f8 193 = 0) (hf13 : f5 1 = 0) (hf14 : f5 2 = 0) (hf15 : f5 3 = 0) (hf16 : f5 4 = 1) (hf17 : f5 21 = 0) (hf18 : f5 22 = 0) (sz : Nat) : Met l yX3_measureOne [Cond.code yX3_measureOne cX3_measureOne 9 none] ({ frames := 2, cells := 0, slots := 0, locals := 47 } : Room) (va_Pc [.ref q1, .int 4] (PX g sz [(q7, .inl (g.2 0, 384, .inl f8)), (q4, .inl (g.2 0, 40, .inl f5)), (q1, .inr (5, [.ref q7, .ref q4]))])) (QV g [(q7, .inl (g.2 0, 384, .inl f8)), (q4, .inl (g.2 0, 40, .inl f5)), (q1, .inr (5, [.ref q7, .ref q4]))] sz (fun _ => [(q7, .inl (g.2 0, 384, .inl f8)), (q4, .inl (g.2 0, 40, .inl (upd (upd f5 23 1) 24 2))), (q1, .inr (5, [.ref q7, .ref q4]))])) 0 0 (va_A [(q7, .inl (g.2 0, 384, .inl f8)), (q4, .inl (g.2 0, 40, .inl f5)), (q1, .inr (5, [.ref q7, .ref q4]))] sz) := by
  refine ofN (by decide) (Nat.le_of_ble_eq_true rfl) rfl ?_
  intro p e s m args below meth c A ls hAe hsz hx hb hml hr hlocks hin hown hE hP hD hA hS hl
  have hown : s.vm.findClass RX3 = some m.cls := hown
  refine lv_iconst (v := 0) hx hb dX3_measureOne_0 (by decide) ?_
  refine lv_istore_n (lv' := [(2, .int 0), (0, .ref q1), (1, .int 4)]) hx hb dX3_measureOne_1 rfl hl (by decide) rfl (fun ls hl => ?_)
  refine lv_iconst (v := 0) hx hb dX3_measureOne_2 (by decide) ?_
  refine lv_istore_n (lv' := [(3, .int 0), (2, .int 0), (0, .ref q1), (1, .int 4)]) hx hb dX3_measureOne_3 rfl hl (by decide) rfl (fun ls hl => ?_)
  refine lv_iconst (v := 0) hx hb dX3_measureOne_4 (by decide) ?_
  refine lv_istore (lv' := [(4, .int 0), (3, .int 0), (2, .int 0), (0, .ref q1), (1, .int 4)]) hx hb dX3_measureOne_5 hl (by decide) rfl (fun ls hl => ?_)
  refine lv_iconst (v := 1) hx hb dX3_measureOne_7 (by decide) ?_
  refine lv_istore (lv' := [(5, .int 1), (4, .int 0), (3, .int 0), (2, .int 0), (0, .ref q1), (1, .int 4)]) hx hb dX3_measureOne_8 hl (by decide) rfl (fun ls hl => ?_)
  refine lv_aload_n hx hb dX3_measureOne_10 rfl (lv_at hl 4 rfl) ?_
  refine lv_iload_n hx hb dX3_measureOne_11 rfl (lv_at hl 5 rfl) ?_
  refine lv_iconst (v := 0) hx hb dX3_measureOne_12 (by decide) ?_
  refine g_i (wr := [(q7, .inl (g.2 0, 384, .inl f8))]) (rV (rest := []) hx hb hml hown hE hP hD 2 rfl rfl (c323_X3_figure l g q1 q4 (.ref q7) f5 (hf6) s.heap.size) (kV_X3_figure hE (e343 hE) rfl rfl ⟨(Nat.le_of_ble_eq_true rfl), (Nat.le_of_ble_eq_true rfl)⟩) [1, 2] rfl (by decide) rfl hl.1 rfl (lv_room (Nat.le_of_ble_eq_true rfl)) dX3_measureOne_13 ⟨(Nat.le_of_ble_eq_true rfl), (Nat.le_of_ble_eq_true rfl)⟩) hP hD hS hA [1, 2] [0] rfl rfl (by decide) (by decide) (fun u1 H locs hP hD hS => ?_)
  have hP : va_P g.1 vwCl [(q7, .inl (g.2 0, 384, .inl f8)), (q4, .inl (g.2 0, 40, .inl f5)), (q1, .inr (5, [.ref q7, .ref q4]))] H := hP
  have hD : va_D A [(q7, .inl (g.2 0, 384, .inl f8)), (q4, .inl (g.2 0, 40, .inl f5)), (q1, .inr (5, [.ref q7, .ref q4]))] := hD
  refine lv_istore (lv' := [(6, .int 1), (5, .int 1), (4, .int 0), (3, .int 0), (2, .int 0), (0, .ref q1), (1, .int 4)]) hx hb dX3_measureOne_16 hl (by decide) rfl (fun ls hl => ?_)
  refine lv_iconst (v := 0) hx hb dX3_measureOne_18 (by decide) ?_
  refine lv_istore (lv' := [(7, .int 0), (6, .int 1), (5, .int 1), (4, .int 0), (3, .int 0), (2, .int 0), (0, .ref q1), (1, .int 4)]) hx hb dX3_measureOne_19 hl (by decide) rfl (fun ls hl => ?_)
  refine lv_iload hx hb dX3_measureOne_21 (lv_at hl 0 rfl) ?_
  refine lv_iload hx hb dX3_measureOne_23 (lv_at hl 1 rfl) ?_
  refine lv_icmp_ge (tgt := 109) hx hb dX3_measureOne_25 (by decide) (fun h => absurd h (by decide)) (fun _ => ?_)
  refine lv_iload_n hx hb dX3_measureOne_28 rfl (lv_at hl 5 rfl) ?_
  refine lv_aload_n hx hb dX3_measureOne_29 rfl (lv_at hl 6 rfl) ?_
  refine lv_iload_n hx hb dX3_measureOne_30 rfl (lv_at hl 7 rfl) ?_
  refine lv_iload hx hb dX3_measureOne_31 (lv_at hl 0 rfl) ?_
  refine g_i (wr := []) (rV (rest := [.int 0]) hx hb hml hown hE hP hD 2 rfl rfl (c827_X3_lengthOf l g q1 q7 q4 x10 f8 f5 (hf9) (hf11) (hf12) (hf13) H.size) (kV_X3_lengthOf hE (e352 hE) rfl rfl ⟨(Nat.le_of_ble_eq_true rfl), (Nat.le_of_ble_eq_true rfl)⟩) [1, 0, 2] rfl (by decide) rfl hl.1 rfl (lv_room (Nat.le_of_ble_eq_true rfl)) dX3_measureOne_33 ⟨(Nat.le_of_ble_eq_true rfl), (Nat.le_of_ble_eq_true rfl)⟩) hP hD hS hA [1, 0, 2] [] rfl rfl (by decide) (by decide) (fun u2 H locs hP hD hS => ?_)
  have hP : va_P g.1 vwCl [(q7, .inl (g.2 0, 384, .inl f8)), (q4, .inl (g.2 0, 40, .inl f5)), (q1, .inr (5, [.ref q7, .ref q4]))] H := hP
  have hD : va_D A [(q7, .inl (g.2 0, 384, .inl f8)), (q4, .inl (g.2 0, 40, .inl f5)), (q1, .inr (5, [.ref q7, .ref q4]))] := hD
  refine x_iadd (v := 0) hx hb dX3_measureOne_36 (by decide) ?_
  refine lv_istore_n (lv' := [(2, .int 0), (7, .int 0), (6, .int 1), (5, .int 1), (4, .int 0), (3, .int 0), (0, .ref q1), (1, .int 4)]) hx hb dX3_measureOne_37 rfl hl (by decide) rfl (fun ls hl => ?_)
  refine lv_iload_n hx hb dX3_measureOne_38 rfl (lv_at hl 5 rfl) ?_
  refine lv_aload_n hx hb dX3_measureOne_39 rfl (lv_at hl 6 rfl) ?_
  refine lv_iload_n hx hb dX3_measureOne_40 rfl (lv_at hl 7 rfl) ?_
  refine lv_iload hx hb dX3_measureOne_41 (lv_at hl 1 rfl) ?_
  refine g_i (wr := []) (rV (rest := [.int 0]) hx hb hml hown hE hP hD 2 rfl rfl (c828_X3_notesOf l g q1 q7 q4 x10 f8 f5 (hf11) (hf9) (hf12) (hf14) H.size) (kV_X3_notesOf hE (e344 hE) rfl rfl ⟨(Nat.le_of_ble_eq_true rfl), (Nat.le_of_ble_eq_true rfl)⟩) [1, 0, 2] rfl (by decide) rfl hl.1 rfl (lv_room (Nat.le_of_ble_eq_true rfl)) dX3_measureOne_43 ⟨(Nat.le_of_ble_eq_true rfl), (Nat.le_of_ble_eq_true rfl)⟩) hP hD hS hA [1, 0, 2] [] rfl rfl (by decide) (by decide) (fun u3 H locs hP hD hS => ?_)
  have hP : va_P g.1 vwCl [(q7, .inl (g.2 0, 384, .inl f8)), (q4, .inl (g.2 0, 40, .inl f5)), (q1, .inr (5, [.ref q7, .ref q4]))] H := hP
  have hD : va_D A [(q7, .inl (g.2 0, 384, .inl f8)), (q4, .inl (g.2 0, 40, .inl f5)), (q1, .inr (5, [.ref q7, .ref q4]))] := hD
  refine x_iadd (v := 0) hx hb dX3_measureOne_46 (by decide) ?_
  refine lv_istore_n (lv' := [(3, .int 0), (2, .int 0), (7, .int 0), (6, .int 1), (5, .int 1), (4, .int 0), (0, .ref q1), (1, .int 4)]) hx hb dX3_measureOne_47 rfl hl (by decide) rfl (fun ls hl => ?_)
  refine lv_aload_n hx hb dX3_measureOne_48 rfl (lv_at hl 6 rfl) ?_
  refine lv_iload_n hx hb dX3_measureOne_49 rfl (lv_at hl 7 rfl) ?_
  refine lv_iload hx hb dX3_measureOne_50 (lv_at hl 2 rfl) ?_
  refine lv_iconst (v := 0) hx hb dX3_measureOne_52 (by decide) ?_
  refine g_i (wr := [(q4, .inl (g.2 0, 40, .inl f5))]) (rV (rest := []) hx hb hml hown hE hP hD 2 rfl rfl (c825_X3_itemNumber l g q1 q7 (.ref q4) f8 (hf11) H.size) (kV_X3_itemNumber hE (e348 hE) rfl rfl ⟨(Nat.le_of_ble_eq_true rfl), (Nat.le_of_ble_eq_true rfl)⟩) [0, 2] rfl (by decide) rfl hl.1 rfl (lv_room (Nat.le_of_ble_eq_true rfl)) dX3_measureOne_53 ⟨(Nat.le_of_ble_eq_true rfl), (Nat.le_of_ble_eq_true rfl)⟩) hP hD hS hA [0, 2] [1] rfl rfl (by decide) (by decide) (fun u4 H locs hP hD hS => ?_)
  have hP : va_P g.1 vwCl [(q4, .inl (g.2 0, 40, .inl f5)), (q7, .inl (g.2 0, 384, .inl f8)), (q1, .inr (5, [.ref q7, .ref q4]))] H := hP
  have hD : va_D A [(q4, .inl (g.2 0, 40, .inl f5)), (q7, .inl (g.2 0, 384, .inl f8)), (q1, .inr (5, [.ref q7, .ref q4]))] := hD
  refine lv_iconst (v := 2) hx hb dX3_measureOne_56 (by decide) ?_
  refine lv_icmp_ne (tgt := 103) hx hb dX3_measureOne_57 (by decide) (fun h => absurd h (by decide)) (fun _ => ?_)
  refine lv_aload_n hx hb dX3_measureOne_60 rfl (lv_at hl 6 rfl) ?_
  refine lv_iload_n hx hb dX3_measureOne_61 rfl (lv_at hl 7 rfl) ?_
  refine lv_iload hx hb dX3_measureOne_62 (lv_at hl 2 rfl) ?_
  refine lv_iconst (v := 1) hx hb dX3_measureOne_64 (by decide) ?_
  refine g_i (wr := [(q4, .inl (g.2 0, 40, .inl f5))]) (rV (rest := []) hx hb hml hown hE hP hD 2 rfl rfl (c826_X3_itemNumber l g q1 q7 0 (.ref q4) f8 (hf12) H.size) (kV_X3_itemNumber hE (e348 hE) rfl rfl ⟨(Nat.le_of_ble_eq_true rfl), (Nat.le_of_ble_eq_true rfl)⟩) [1, 2] rfl (by decide) rfl hl.1 rfl (lv_room (Nat.le_of_ble_eq_true rfl)) dX3_measureOne_65 ⟨(Nat.le_of_ble_eq_true rfl), (Nat.le_of_ble_eq_true rfl)⟩) hP hD hS hA [1, 2] [0] rfl rfl (by decide) (by decide) (fun u5 H locs hP hD hS => ?_)
  have hP : va_P g.1 vwCl [(q4, .inl (g.2 0, 40, .inl f5)), (q7, .inl (g.2 0, 384, .inl f8)), (q1, .inr (5, [.ref q7, .ref q4]))] H := hP
  have hD : va_D A [(q4, .inl (g.2 0, 40, .inl f5)), (q7, .inl (g.2 0, 384, .inl f8)), (q1, .inr (5, [.ref q7, .ref q4]))] := hD
  refine lv_istore (lv' := [(8, .int 0), (3, .int 0), (2, .int 0), (7, .int 0), (6, .int 1), (5, .int 1), (4, .int 0), (0, .ref q1), (1, .int 4)]) hx hb dX3_measureOne_68 hl (by decide) rfl (fun ls hl => ?_)
  refine lv_iload hx hb dX3_measureOne_70 (lv_at hl 6 rfl) ?_
  refine lv_iconst (v := 1) hx hb dX3_measureOne_72 (by decide) ?_
  refine lv_iload hx hb dX3_measureOne_73 (lv_at hl 0 rfl) ?_
  refine lv_ishl hx hb dX3_measureOne_75 ?_
  refine x_top (v := 1) (by decide) ?_
  refine lv_aload_n hx hb dX3_measureOne_76 rfl (lv_at hl 7 rfl) ?_
  refine lv_iload hx hb dX3_measureOne_77 (lv_at hl 0 rfl) ?_
  refine lv_iconst (v := 3) hx hb dX3_measureOne_79 (by decide) ?_
  refine g_i (wr := [(q7, .inl (g.2 0, 384, .inl f8))]) (rV (rest := [.int 1, .int 0]) hx hb hml hown hE hP hD 2 rfl rfl (c668_X3_figure l g q1 q4 (.ref q7) f5 (hf15) H.size) (kV_X3_figure hE (e343 hE) rfl rfl ⟨(Nat.le_of_ble_eq_true rfl), (Nat.le_of_ble_eq_true rfl)⟩) [0, 2] rfl (by decide) rfl hl.1 rfl (lv_room (Nat.le_of_ble_eq_true rfl)) dX3_measureOne_80 ⟨(Nat.le_of_ble_eq_true rfl), (Nat.le_of_ble_eq_true rfl)⟩) hP hD hS hA [0, 2] [1] rfl rfl (by decide) (by decide) (fun u6 H locs hP hD hS => ?_)
  have hP : va_P g.1 vwCl [(q7, .inl (g.2 0, 384, .inl f8)), (q4, .inl (g.2 0, 40, .inl f5)), (q1, .inr (5, [.ref q7, .ref q4]))] H := hP
  have hD : va_D A [(q7, .inl (g.2 0, 384, .inl f8)), (q4, .inl (g.2 0, 40, .inl f5)), (q1, .inr (5, [.ref q7, .ref q4]))] := hD
  refine x_ior (v := 1) hx hb dX3_measureOne_83 (by decide) ?_
  refine x_ior (v := 1) hx hb dX3_measureOne_84 (by decide) ?_
  refine lv_istore (lv' := [(4, .int 1), (8, .int 0), (3, .int 0), (2, .int 0), (7, .int 0), (6, .int 1), (5, .int 1), (0, .ref q1), (1, .int 4)]) hx hb dX3_measureOne_85 hl (by decide) rfl (fun ls hl => ?_)
  refine lv_iload hx hb dX3_measureOne_87 (lv_at hl 6 rfl) ?_
  refine lv_iconst (v := 1) hx hb dX3_measureOne_89 (by decide) ?_
  refine lv_aload_n hx hb dX3_measureOne_90 rfl (lv_at hl 7 rfl) ?_
  refine lv_iload hx hb dX3_measureOne_91 (lv_at hl 1 rfl) ?_
  refine lv_iconst (v := 4) hx hb dX3_measureOne_93 (by decide) ?_
  refine g_i (wr := [(q7, .inl (g.2 0, 384, .inl f8))]) (rV (rest := [.int 1, .int 1]) hx hb hml hown hE hP hD 2 rfl rfl (c669_X3_figure l g q1 q4 (.ref q7) f5 (hf16) H.size) (kV_X3_figure hE (e343 hE) rfl rfl ⟨(Nat.le_of_ble_eq_true rfl), (Nat.le_of_ble_eq_true rfl)⟩) [1, 2] rfl (by decide) rfl hl.1 rfl (lv_room (Nat.le_of_ble_eq_true rfl)) dX3_measureOne_94 ⟨(Nat.le_of_ble_eq_true rfl), (Nat.le_of_ble_eq_true rfl)⟩) hP hD hS hA [1, 2] [0] rfl rfl (by decide) (by decide) (fun u7 H locs hP hD hS => ?_)
  have hP : va_P g.1 vwCl [(q7, .inl (g.2 0, 384, .inl f8)), (q4, .inl (g.2 0, 40, .inl f5)), (q1, .inr (5, [.ref q7, .ref q4]))] H := hP
  have hD : va_D A [(q7, .inl (g.2 0, 384, .inl f8)), (q4, .inl (g.2 0, 40, .inl f5)), (q1, .inr (5, [.ref q7, .ref q4]))] := hD
  refine x_iadd (v := 2) hx hb dX3_measureOne_97 (by decide) ?_
  refine x_mmax (v := 2) hx hb (by rw [hml]; exact hl.1.symm) hown (e702 hE) (e165 hE) (e9 hE) (e166 hE) (Nat.le_of_ble_eq_true rfl) (Nat.le_of_ble_eq_true rfl) (Nat.le_of_ble_eq_true rfl) (Nat.le_of_ble_eq_true rfl) (by decide) dX3_measureOne_98 ?_
  refine lv_istore (lv' := [(5, .int 2), (4, .int 1), (8, .int 0), (3, .int 0), (2, .int 0), (7, .int 0), (6, .int 1), (0, .ref q1), (1, .int 4)]) hx hb dX3_measureOne_101 hl (by decide) rfl (fun ls hl => ?_)
  refine lv_iinc (v := 1) (lv' := [(7, .int 1), (5, .int 2), (4, .int 1), (8, .int 0), (3, .int 0), (2, .int 0), (6, .int 1), (0, .ref q1), (1, .int 4)]) hx hb dX3_measureOne_103 hl (k := 5) rfl (by decide) (by decide) rfl (fun ls hl => ?_)
  refine lv_goto (tgt := 21) hx hb dX3_measureOne_106 (by decide) ?_
  refine lv_iload hx hb dX3_measureOne_21 (lv_at hl 0 rfl) ?_
  refine lv_iload hx hb dX3_measureOne_23 (lv_at hl 6 rfl) ?_
  refine lv_icmp_ge (tgt := 109) hx hb dX3_measureOne_25 (by decide) (fun _ => ?_) (fun h => absurd (by decide) h)
  refine lv_aload_n hx hb dX3_measureOne_109 rfl (lv_at hl 7 rfl) ?_
  refine lv_iload_n hx hb dX3_measureOne_110 rfl (lv_at hl 8 rfl) ?_
  refine lv_iconst (v := 1) hx hb dX3_measureOne_111 (by decide) ?_
  refine lv_iload_n hx hb dX3_measureOne_112 rfl (lv_at hl 5 rfl) ?_
  refine g_v (wr := [(q7, .inl (g.2 0, 384, .inl f8))]) (rV (rest := []) hx hb hml hown hE hP hD 2 rfl rfl (c165_X3_putFigure l g q1 q4 (.ref q7) f5 (hf17) H.size) (kV_X3_putFigure hE (e91 hE) rfl rfl ⟨(Nat.le_of_ble_eq_true rfl), (Nat.le_of_ble_eq_true rfl)⟩) [1, 2] rfl (by decide) rfl hl.1 rfl (lv_room (Nat.le_of_ble_eq_true rfl)) dX3_measureOne_113 ⟨(Nat.le_of_ble_eq_true rfl), (Nat.le_of_ble_eq_true rfl)⟩) hP hD hS hA [1, 2] [0] rfl rfl (by decide) (by decide) (fun u8 H locs hP hD hS => ?_)
  have hP : va_P g.1 vwCl [(q7, .inl (g.2 0, 384, .inl f8)), (q4, .inl (g.2 0, 40, .inl f5)), (q1, .inr (5, [.ref q7, .ref q4]))] H := hP
  have hD : va_D A [(q7, .inl (g.2 0, 384, .inl f8)), (q4, .inl (g.2 0, 40, .inl f5)), (q1, .inr (5, [.ref q7, .ref q4]))] := hD
  refine lv_aload_n hx hb dX3_measureOne_116 rfl (lv_at hl 7 rfl) ?_
  refine lv_iload_n hx hb dX3_measureOne_117 rfl (lv_at hl 8 rfl) ?_
  refine lv_iconst (v := 2) hx hb dX3_measureOne_118 (by decide) ?_
  refine lv_iload_n hx hb dX3_measureOne_119 rfl (lv_at hl 4 rfl) ?_
  refine g_v (wr := [(q7, .inl (g.2 0, 384, .inl f8))]) (rV (rest := []) hx hb hml hown hE hP hD 2 rfl rfl (c166_X3_putFigure l g q1 q4 (.ref q7) f5 (hf18) H.size) (kV_X3_putFigure hE (e91 hE) rfl rfl ⟨(Nat.le_of_ble_eq_true rfl), (Nat.le_of_ble_eq_true rfl)⟩) [1, 2] rfl (by decide) rfl hl.1 rfl (lv_room (Nat.le_of_ble_eq_true rfl)) dX3_measureOne_120 ⟨(Nat.le_of_ble_eq_true rfl), (Nat.le_of_ble_eq_true rfl)⟩) hP hD hS hA [1, 2] [0] rfl rfl (by decide) (by decide) (fun u9 H locs hP hD hS => ?_)
  have hP : va_P g.1 vwCl [(q7, .inl (g.2 0, 384, .inl f8)), (q4, .inl (g.2 0, 40, .inl f5)), (q1, .inr (5, [.ref q7, .ref q4]))] H := hP
  have hD : va_D A [(q7, .inl (g.2 0, 384, .inl f8)), (q4, .inl (g.2 0, 40, .inl f5)), (q1, .inr (5, [.ref q7, .ref q4]))] := hD
  refine lv_aload_n hx hb dX3_measureOne_123 rfl (lv_at hl 7 rfl) ?_
  refine lv_iload_n hx hb dX3_measureOne_124 rfl (lv_at hl 8 rfl) ?_
  refine lv_iconst (v := 3) hx hb dX3_measureOne_125 (by decide) ?_
  refine lv_iload hx hb dX3_measureOne_126 (lv_at hl 2 rfl) ?_
  refine g_v (wr := [(q7, .inl (g.2 0, 384, .inl f8))]) (rV (rest := []) hx hb hml hown hE hP hD 2 rfl rfl (c829_X3_putFigure l g q1 q4 (.ref q7) f5 H.size) (kV_X3_putFigure hE (e91 hE) rfl rfl ⟨(Nat.le_of_ble_eq_true rfl), (Nat.le_of_ble_eq_true rfl)⟩) [1, 2] rfl (by decide) rfl hl.1 rfl (lv_room (Nat.le_of_ble_eq_true rfl)) dX3_measureOne_128 ⟨(Nat.le_of_ble_eq_true rfl), (Nat.le_of_ble_eq_true rfl)⟩) hP hD hS hA [1, 2] [0] rfl rfl (by decide) (by decide) (fun u10 H locs hP hD hS => ?_)
  have hP : va_P g.1 vwCl [(q7, .inl (g.2 0, 384, .inl f8)), (q4, .inl (g.2 0, 40, .inl (upd f5 23 1))), (q1, .inr (5, [.ref q7, .ref q4]))] H := hP
  have hD : va_D A [(q7, .inl (g.2 0, 384, .inl f8)), (q4, .inl (g.2 0, 40, .inl (upd f5 23 1))), (q1, .inr (5, [.ref q7, .ref q4]))] := hD
  refine lv_aload_n hx hb dX3_measureOne_131 rfl (lv_at hl 7 rfl) ?_
  refine lv_iload_n hx hb dX3_measureOne_132 rfl (lv_at hl 8 rfl) ?_
  refine lv_iconst (v := 4) hx hb dX3_measureOne_133 (by decide) ?_
  refine lv_iload hx hb dX3_measureOne_134 (lv_at hl 1 rfl) ?_
  refine g_v (wr := [(q7, .inl (g.2 0, 384, .inl f8))]) (rV (rest := []) hx hb hml hown hE hP hD 2 rfl rfl (c830_X3_putFigure l g q1 q4 (.ref q7) (upd f5 23 1) H.size) (kV_X3_putFigure hE (e91 hE) rfl rfl ⟨(Nat.le_of_ble_eq_true rfl), (Nat.le_of_ble_eq_true rfl)⟩) [1, 2] rfl (by decide) rfl hl.1 rfl (lv_room (Nat.le_of_ble_eq_true rfl)) dX3_measureOne_136 ⟨(Nat.le_of_ble_eq_true rfl), (Nat.le_of_ble_eq_true rfl)⟩) hP hD hS hA [1, 2] [0] rfl rfl (by decide) (by decide) (fun u11 H locs hP hD hS => ?_)
  have hP : va_P g.1 vwCl [(q7, .inl (g.2 0, 384, .inl f8)), (q4, .inl (g.2 0, 40, .inl (upd (upd f5 23 1) 24 2))), (q1, .inr (5, [.ref q7, .ref q4]))] H := hP
  have hD : va_D A [(q7, .inl (g.2 0, 384, .inl f8)), (q4, .inl (g.2 0, 40, .inl (upd (upd f5 23 1) 24 2))), (q1, .inr (5, [.ref q7, .ref q4]))] := hD
  exact x_vret hx hb hr hlocks hP hD hS hAe hsz (Nat.le_of_ble_eq_true rfl) (Nat.le_of_ble_eq_true rfl) (fun _ => 0) [0, 1, 2] (by decide) rfl dX3_measureOne_139

set_option maxHeartbeats 4000000 in
set_option maxRecDepth 100000 in
theorem c832_X3_measure (l : Launch) (g : gG) (q1 q4 q5 : Nat) (x26 : Int32) (f6 : Nat → Int32) (f24 : Nat → Int32) (hf7 : f6 0 = 0) (hf8 : f6 2 = 0) (hf9 : f6 3 = 0) (hf10 : f6 5 = 0) (hf11 : f6 6 = 0) (hf12 : f6 7 = 0) (hf13 : f6 8 = 0) (hf14 : f6 10 = 0) (hf15 : f6 11 = 0) (hf16 : f6 12 = 0) (hf17 : f6 13 = 0) (hf18 : f6 15 = 0) (hf19 : f6 16 = 0) (hf20 : f6 17 = 0) (hf21 : f6 18 = 0) (hf22 : f6 20 = 1) (hf23 : f6 23 = 0) (hf25 : f24 194 = x26) (hf27 : f6 22 = 0) (hf28 : f24 192 = 2) (hf29 : f24 193 = 0) (hf30 : f6 21 = 0) (hf31 : f6 25 = 0) (hf32 : f6 26 = 0) (hf33 : f6 27 = 0) (hf34 : f6 28 = 0) (hf35 : f6 30 = 0) (hf36 : f6 31 = 0) (hf37 : f6 32 = 0) (hf38 : f6 33 = 0) (hf39 : f6 35 = 0) (hf40 : f6 36 = 0) (hf41 : f6 37 = 0) (hf42 : f6 38 = 0) (sz : Nat) : Met l yX3_measure [Cond.code yX3_measure cX3_measure 2 (some .boolean)] ({ frames := 3, cells := 0, slots := 0, locals := 75 } : Room) (va_Pc [.ref q1] (PX g sz [(q4, .inl (g.2 0, 384, .inl f24)), (q5, .inl (g.2 0, 40, .inl f6)), (q1, .inr (5, [.ref q4, .ref q5]))])) (QI g [(q4, .inl (g.2 0, 384, .inl f24)), (q5, .inl (g.2 0, 40, .inl f6)), (q1, .inr (5, [.ref q4, .ref q5]))] sz 1 (fun _ => [(q4, .inl (g.2 0, 384, .inl f24)), (q5, .inl (g.2 0, 40, .inl (upd (upd (upd (upd (upd (upd (upd (upd (upd (upd f6 1 0) 4 1) 9 1) 14 1) 19 1) 23 1) 24 2) 29 1) 34 1) 39 1))), (q1, .inr (5, [.ref q4, .ref q5]))])) 0 0 (va_A [(q4, .inl (g.2 0, 384, .inl f24)), (q5, .inl (g.2 0, 40, .inl f6)), (q1, .inr (5, [.ref q4, .ref q5]))] sz) := by
  refine ofN (by decide) (Nat.le_of_ble_eq_true rfl) rfl ?_
  intro p e s m args below meth c A ls hAe hsz hx hb hml hr hlocks hin hown hE hP hD hA hS hl
  have hown : s.vm.findClass RX3 = some m.cls := hown
  refine lv_iconst (v := 0) hx hb dX3_measure_0 (by decide) ?_
  refine lv_istore_n (lv' := [(1, .int 0), (0, .ref q1)]) hx hb dX3_measure_1 rfl hl (by decide) rfl (fun ls hl => ?_)
  refine lv_iload_n hx hb dX3_measure_2 rfl (lv_at hl 0 rfl) ?_
  refine lv_bipush (v := 8) hx hb dX3_measure_3 (by decide) ?_
  refine lv_icmp_ge (tgt := 33) hx hb dX3_measure_5 (by decide) (fun h => absurd h (by decide)) (fun _ => ?_)
  refine lv_aload_n hx hb dX3_measure_8 rfl (lv_at hl 1 rfl) ?_
  refine lv_iload_n hx hb dX3_measure_9 rfl (lv_at hl 0 rfl) ?_
  refine g_v (wr := [(q4, .inl (g.2 0, 384, .inl f24))]) (rV (rest := []) hx hb hml hown hE hP hD 2 rfl rfl (c231_X3_measureOne l g q1 q5 (.ref q4) f6 (hf7) (hf8) (hf9) s.heap.size) (kV_X3_measureOne hE (e698 hE) rfl rfl ⟨(Nat.le_of_ble_eq_true rfl), (Nat.le_of_ble_eq_true rfl)⟩) [1, 2] rfl (by decide) rfl hl.1 rfl (lv_room (Nat.le_of_ble_eq_true rfl)) dX3_measure_10 ⟨(Nat.le_of_ble_eq_true rfl), (Nat.le_of_ble_eq_true rfl)⟩) hP hD hS hA [1, 2] [0] rfl rfl (by decide) (by decide) (fun u1 H locs hP hD hS => ?_)
  have hP : va_P g.1 vwCl [(q4, .inl (g.2 0, 384, .inl f24)), (q5, .inl (g.2 0, 40, .inl (upd (upd f6 1 0) 4 1))), (q1, .inr (5, [.ref q4, .ref q5]))] H := hP
  have hD : va_D A [(q4, .inl (g.2 0, 384, .inl f24)), (q5, .inl (g.2 0, 40, .inl (upd (upd f6 1 0) 4 1))), (q1, .inr (5, [.ref q4, .ref q5]))] := hD
  refine lv_aload_n hx hb dX3_measure_13 rfl (lv_at hl 1 rfl) ?_
  refine lv_iload_n hx hb dX3_measure_14 rfl (lv_at hl 0 rfl) ?_
  refine lv_iconst (v := 1) hx hb dX3_measure_15 (by decide) ?_
  refine g_i (wr := [(q4, .inl (g.2 0, 384, .inl f24))]) (rV (rest := []) hx hb hml hown hE hP hD 2 rfl rfl (c145_X3_figure l g q1 q5 0 (.ref q4) (upd (upd f6 1 0) 4 1) (((pk_un (by decide)).trans pk_us)) H.size) (kV_X3_figure hE (e343 hE) rfl rfl ⟨(Nat.le_of_ble_eq_true rfl), (Nat.le_of_ble_eq_true rfl)⟩) [1, 2] rfl (by decide) rfl hl.1 rfl (lv_room (Nat.le_of_ble_eq_true rfl)) dX3_measure_16 ⟨(Nat.le_of_ble_eq_true rfl), (Nat.le_of_ble_eq_true rfl)⟩) hP hD hS hA [1, 2] [0] rfl rfl (by decide) (by decide) (fun u2 H locs hP hD hS => ?_)
  have hP : va_P g.1 vwCl [(q4, .inl (g.2 0, 384, .inl f24)), (q5, .inl (g.2 0, 40, .inl (upd (upd f6 1 0) 4 1))), (q1, .inr (5, [.ref q4, .ref q5]))] H := hP
  have hD : va_D A [(q4, .inl (g.2 0, 384, .inl f24)), (q5, .inl (g.2 0, 40, .inl (upd (upd f6 1 0) 4 1))), (q1, .inr (5, [.ref q4, .ref q5]))] := hD
  refine lv_sipush (v := 20000) hx hb dX3_measure_19 (by decide) ?_
  refine lv_icmp_le (tgt := 27) hx hb dX3_measure_22 (by decide) (fun _ => ?_) (fun h => absurd (by decide) h)
  refine lv_iinc (v := 1) (lv' := [(1, .int 1), (0, .ref q1)]) hx hb dX3_measure_27 hl (k := 0) rfl (by decide) (by decide) rfl (fun ls hl => ?_)
  refine lv_goto (tgt := 2) hx hb dX3_measure_30 (by decide) ?_
  refine lv_iload_n hx hb dX3_measure_2 rfl (lv_at hl 0 rfl) ?_
  refine lv_bipush (v := 8) hx hb dX3_measure_3 (by decide) ?_
  refine lv_icmp_ge (tgt := 33) hx hb dX3_measure_5 (by decide) (fun h => absurd h (by decide)) (fun _ => ?_)
  refine lv_aload_n hx hb dX3_measure_8 rfl (lv_at hl 1 rfl) ?_
  refine lv_iload_n hx hb dX3_measure_9 rfl (lv_at hl 0 rfl) ?_
  refine g_v (wr := [(q4, .inl (g.2 0, 384, .inl f24))]) (rV (rest := []) hx hb hml hown hE hP hD 2 rfl rfl (c150_X3_measureOne l g q1 q5 (.ref q4) (upd (upd f6 1 0) 4 1) (((pk_un (by decide)).trans ((pk_un (by decide)).trans hf10))) (((pk_un (by decide)).trans ((pk_un (by decide)).trans hf11))) (((pk_un (by decide)).trans ((pk_un (by decide)).trans hf12))) (((pk_un (by decide)).trans ((pk_un (by decide)).trans hf13))) H.size) (kV_X3_measureOne hE (e698 hE) rfl rfl ⟨(Nat.le_of_ble_eq_true rfl), (Nat.le_of_ble_eq_true rfl)⟩) [1, 2] rfl (by decide) rfl hl.1 rfl (lv_room (Nat.le_of_ble_eq_true rfl)) dX3_measure_10 ⟨(Nat.le_of_ble_eq_true rfl), (Nat.le_of_ble_eq_true rfl)⟩) hP hD hS hA [1, 2] [0] rfl rfl (by decide) (by decide) (fun u3 H locs hP hD hS => ?_)
  have hP : va_P g.1 vwCl [(q4, .inl (g.2 0, 384, .inl f24)), (q5, .inl (g.2 0, 40, .inl (upd (upd (upd f6 1 0) 4 1) 9 1))), (q1, .inr (5, [.ref q4, .ref q5]))] H := hP
  have hD : va_D A [(q4, .inl (g.2 0, 384, .inl f24)), (q5, .inl (g.2 0, 40, .inl (upd (upd (upd f6 1 0) 4 1) 9 1))), (q1, .inr (5, [.ref q4, .ref q5]))] := hD
  refine lv_aload_n hx hb dX3_measure_13 rfl (lv_at hl 1 rfl) ?_
  refine lv_iload_n hx hb dX3_measure_14 rfl (lv_at hl 0 rfl) ?_
  refine lv_iconst (v := 1) hx hb dX3_measure_15 (by decide) ?_
  refine g_i (wr := [(q4, .inl (g.2 0, 384, .inl f24))]) (rV (rest := []) hx hb hml hown hE hP hD 2 rfl rfl (c151_X3_figure l g q1 q5 (.ref q4) (upd (upd (upd f6 1 0) 4 1) 9 1) (((pk_un (by decide)).trans ((pk_un (by decide)).trans ((pk_un (by decide)).trans hf11)))) H.size) (kV_X3_figure hE (e343 hE) rfl rfl ⟨(Nat.le_of_ble_eq_true rfl), (Nat.le_of_ble_eq_true rfl)⟩) [1, 2] rfl (by decide) rfl hl.1 rfl (lv_room (Nat.le_of_ble_eq_true rfl)) dX3_measure_16 ⟨(Nat.le_of_ble_eq_true rfl), (Nat.le_of_ble_eq_true rfl)⟩) hP hD hS hA [1, 2] [0] rfl rfl (by decide) (by decide) (fun u4 H locs hP hD hS => ?_)
  have hP : va_P g.1 vwCl [(q4, .inl (g.2 0, 384, .inl f24)), (q5, .inl (g.2 0, 40, .inl (upd (upd (upd f6 1 0) 4 1) 9 1))), (q1, .inr (5, [.ref q4, .ref q5]))] H := hP
  have hD : va_D A [(q4, .inl (g.2 0, 384, .inl f24)), (q5, .inl (g.2 0, 40, .inl (upd (upd (upd f6 1 0) 4 1) 9 1))), (q1, .inr (5, [.ref q4, .ref q5]))] := hD
  refine lv_sipush (v := 20000) hx hb dX3_measure_19 (by decide) ?_
  refine lv_icmp_le (tgt := 27) hx hb dX3_measure_22 (by decide) (fun _ => ?_) (fun h => absurd (by decide) h)
  refine lv_iinc (v := 2) (lv' := [(1, .int 2), (0, .ref q1)]) hx hb dX3_measure_27 hl (k := 0) rfl (by decide) (by decide) rfl (fun ls hl => ?_)
  refine lv_goto (tgt := 2) hx hb dX3_measure_30 (by decide) ?_
  refine lv_iload_n hx hb dX3_measure_2 rfl (lv_at hl 0 rfl) ?_
  refine lv_bipush (v := 8) hx hb dX3_measure_3 (by decide) ?_
  refine lv_icmp_ge (tgt := 33) hx hb dX3_measure_5 (by decide) (fun h => absurd h (by decide)) (fun _ => ?_)
  refine lv_aload_n hx hb dX3_measure_8 rfl (lv_at hl 1 rfl) ?_
  refine lv_iload_n hx hb dX3_measure_9 rfl (lv_at hl 0 rfl) ?_
  refine g_v (wr := [(q4, .inl (g.2 0, 384, .inl f24))]) (rV (rest := []) hx hb hml hown hE hP hD 2 rfl rfl (c156_X3_measureOne l g q1 q5 (.ref q4) (upd (upd (upd f6 1 0) 4 1) 9 1) (((pk_un (by decide)).trans ((pk_un (by decide)).trans ((pk_un (by decide)).trans hf14)))) (((pk_un (by decide)).trans ((pk_un (by decide)).trans ((pk_un (by decide)).trans hf15)))) (((pk_un (by decide)).trans ((pk_un (by decide)).trans ((pk_un (by decide)).trans hf16)))) (((pk_un (by decide)).trans ((pk_un (by decide)).trans ((pk_un (by decide)).trans hf17)))) H.size) (kV_X3_measureOne hE (e698 hE) rfl rfl ⟨(Nat.le_of_ble_eq_true rfl), (Nat.le_of_ble_eq_true rfl)⟩) [1, 2] rfl (by decide) rfl hl.1 rfl (lv_room (Nat.le_of_ble_eq_true rfl)) dX3_measure_10 ⟨(Nat.le_of_ble_eq_true rfl), (Nat.le_of_ble_eq_true rfl)⟩) hP hD hS hA [1, 2] [0] rfl rfl (by decide) (by decide) (fun u5 H locs hP hD hS => ?_)
  have hP : va_P g.1 vwCl [(q4, .inl (g.2 0, 384, .inl f24)), (q5, .inl (g.2 0, 40, .inl (upd (upd (upd (upd f6 1 0) 4 1) 9 1) 14 1))), (q1, .inr (5, [.ref q4, .ref q5]))] H := hP
  have hD : va_D A [(q4, .inl (g.2 0, 384, .inl f24)), (q5, .inl (g.2 0, 40, .inl (upd (upd (upd (upd f6 1 0) 4 1) 9 1) 14 1))), (q1, .inr (5, [.ref q4, .ref q5]))] := hD
  refine lv_aload_n hx hb dX3_measure_13 rfl (lv_at hl 1 rfl) ?_
  refine lv_iload_n hx hb dX3_measure_14 rfl (lv_at hl 0 rfl) ?_
  refine lv_iconst (v := 1) hx hb dX3_measure_15 (by decide) ?_
  refine g_i (wr := [(q4, .inl (g.2 0, 384, .inl f24))]) (rV (rest := []) hx hb hml hown hE hP hD 2 rfl rfl (c157_X3_figure l g q1 q5 (.ref q4) (upd (upd (upd (upd f6 1 0) 4 1) 9 1) 14 1) (((pk_un (by decide)).trans ((pk_un (by decide)).trans ((pk_un (by decide)).trans ((pk_un (by decide)).trans hf15))))) H.size) (kV_X3_figure hE (e343 hE) rfl rfl ⟨(Nat.le_of_ble_eq_true rfl), (Nat.le_of_ble_eq_true rfl)⟩) [1, 2] rfl (by decide) rfl hl.1 rfl (lv_room (Nat.le_of_ble_eq_true rfl)) dX3_measure_16 ⟨(Nat.le_of_ble_eq_true rfl), (Nat.le_of_ble_eq_true rfl)⟩) hP hD hS hA [1, 2] [0] rfl rfl (by decide) (by decide) (fun u6 H locs hP hD hS => ?_)
  have hP : va_P g.1 vwCl [(q4, .inl (g.2 0, 384, .inl f24)), (q5, .inl (g.2 0, 40, .inl (upd (upd (upd (upd f6 1 0) 4 1) 9 1) 14 1))), (q1, .inr (5, [.ref q4, .ref q5]))] H := hP
  have hD : va_D A [(q4, .inl (g.2 0, 384, .inl f24)), (q5, .inl (g.2 0, 40, .inl (upd (upd (upd (upd f6 1 0) 4 1) 9 1) 14 1))), (q1, .inr (5, [.ref q4, .ref q5]))] := hD
  refine lv_sipush (v := 20000) hx hb dX3_measure_19 (by decide) ?_
  refine lv_icmp_le (tgt := 27) hx hb dX3_measure_22 (by decide) (fun _ => ?_) (fun h => absurd (by decide) h)
  refine lv_iinc (v := 3) (lv' := [(1, .int 3), (0, .ref q1)]) hx hb dX3_measure_27 hl (k := 0) rfl (by decide) (by decide) rfl (fun ls hl => ?_)
  refine lv_goto (tgt := 2) hx hb dX3_measure_30 (by decide) ?_
  refine lv_iload_n hx hb dX3_measure_2 rfl (lv_at hl 0 rfl) ?_
  refine lv_bipush (v := 8) hx hb dX3_measure_3 (by decide) ?_
  refine lv_icmp_ge (tgt := 33) hx hb dX3_measure_5 (by decide) (fun h => absurd h (by decide)) (fun _ => ?_)
  refine lv_aload_n hx hb dX3_measure_8 rfl (lv_at hl 1 rfl) ?_
  refine lv_iload_n hx hb dX3_measure_9 rfl (lv_at hl 0 rfl) ?_
  refine g_v (wr := [(q4, .inl (g.2 0, 384, .inl f24))]) (rV (rest := []) hx hb hml hown hE hP hD 2 rfl rfl (c162_X3_measureOne l g q1 q5 (.ref q4) (upd (upd (upd (upd f6 1 0) 4 1) 9 1) 14 1) (((pk_un (by decide)).trans ((pk_un (by decide)).trans ((pk_un (by decide)).trans ((pk_un (by decide)).trans hf18))))) (((pk_un (by decide)).trans ((pk_un (by decide)).trans ((pk_un (by decide)).trans ((pk_un (by decide)).trans hf19))))) (((pk_un (by decide)).trans ((pk_un (by decide)).trans ((pk_un (by decide)).trans ((pk_un (by decide)).trans hf20))))) (((pk_un (by decide)).trans ((pk_un (by decide)).trans ((pk_un (by decide)).trans ((pk_un (by decide)).trans hf21))))) H.size) (kV_X3_measureOne hE (e698 hE) rfl rfl ⟨(Nat.le_of_ble_eq_true rfl), (Nat.le_of_ble_eq_true rfl)⟩) [1, 2] rfl (by decide) rfl hl.1 rfl (lv_room (Nat.le_of_ble_eq_true rfl)) dX3_measure_10 ⟨(Nat.le_of_ble_eq_true rfl), (Nat.le_of_ble_eq_true rfl)⟩) hP hD hS hA [1, 2] [0] rfl rfl (by decide) (by decide) (fun u7 H locs hP hD hS => ?_)
  have hP : va_P g.1 vwCl [(q4, .inl (g.2 0, 384, .inl f24)), (q5, .inl (g.2 0, 40, .inl (upd (upd (upd (upd (upd f6 1 0) 4 1) 9 1) 14 1) 19 1))), (q1, .inr (5, [.ref q4, .ref q5]))] H := hP
  have hD : va_D A [(q4, .inl (g.2 0, 384, .inl f24)), (q5, .inl (g.2 0, 40, .inl (upd (upd (upd (upd (upd f6 1 0) 4 1) 9 1) 14 1) 19 1))), (q1, .inr (5, [.ref q4, .ref q5]))] := hD
  refine lv_aload_n hx hb dX3_measure_13 rfl (lv_at hl 1 rfl) ?_
  refine lv_iload_n hx hb dX3_measure_14 rfl (lv_at hl 0 rfl) ?_
  refine lv_iconst (v := 1) hx hb dX3_measure_15 (by decide) ?_
  refine g_i (wr := [(q4, .inl (g.2 0, 384, .inl f24))]) (rV (rest := []) hx hb hml hown hE hP hD 2 rfl rfl (c163_X3_figure l g q1 q5 (.ref q4) (upd (upd (upd (upd (upd f6 1 0) 4 1) 9 1) 14 1) 19 1) (((pk_un (by decide)).trans ((pk_un (by decide)).trans ((pk_un (by decide)).trans ((pk_un (by decide)).trans ((pk_un (by decide)).trans hf19)))))) H.size) (kV_X3_figure hE (e343 hE) rfl rfl ⟨(Nat.le_of_ble_eq_true rfl), (Nat.le_of_ble_eq_true rfl)⟩) [1, 2] rfl (by decide) rfl hl.1 rfl (lv_room (Nat.le_of_ble_eq_true rfl)) dX3_measure_16 ⟨(Nat.le_of_ble_eq_true rfl), (Nat.le_of_ble_eq_true rfl)⟩) hP hD hS hA [1, 2] [0] rfl rfl (by decide) (by decide) (fun u8 H locs hP hD hS => ?_)
  have hP : va_P g.1 vwCl [(q4, .inl (g.2 0, 384, .inl f24)), (q5, .inl (g.2 0, 40, .inl (upd (upd (upd (upd (upd f6 1 0) 4 1) 9 1) 14 1) 19 1))), (q1, .inr (5, [.ref q4, .ref q5]))] H := hP
  have hD : va_D A [(q4, .inl (g.2 0, 384, .inl f24)), (q5, .inl (g.2 0, 40, .inl (upd (upd (upd (upd (upd f6 1 0) 4 1) 9 1) 14 1) 19 1))), (q1, .inr (5, [.ref q4, .ref q5]))] := hD
  refine lv_sipush (v := 20000) hx hb dX3_measure_19 (by decide) ?_
  refine lv_icmp_le (tgt := 27) hx hb dX3_measure_22 (by decide) (fun _ => ?_) (fun h => absurd (by decide) h)
  refine lv_iinc (v := 4) (lv' := [(1, .int 4), (0, .ref q1)]) hx hb dX3_measure_27 hl (k := 0) rfl (by decide) (by decide) rfl (fun ls hl => ?_)
  refine lv_goto (tgt := 2) hx hb dX3_measure_30 (by decide) ?_
  refine lv_iload_n hx hb dX3_measure_2 rfl (lv_at hl 0 rfl) ?_
  refine lv_bipush (v := 8) hx hb dX3_measure_3 (by decide) ?_
  refine lv_icmp_ge (tgt := 33) hx hb dX3_measure_5 (by decide) (fun h => absurd h (by decide)) (fun _ => ?_)
  refine lv_aload_n hx hb dX3_measure_8 rfl (lv_at hl 1 rfl) ?_
  refine lv_iload_n hx hb dX3_measure_9 rfl (lv_at hl 0 rfl) ?_
  refine g_v (wr := []) (rV (rest := []) hx hb hml hown hE hP hD 2 rfl rfl (c831_X3_measureOne l g q1 q5 q4 x26 (upd (upd (upd (upd (upd f6 1 0) 4 1) 9 1) 14 1) 19 1) f24 (((pk_un (by decide)).trans ((pk_un (by decide)).trans ((pk_un (by decide)).trans ((pk_un (by decide)).trans ((pk_un (by decide)).trans hf22)))))) (hf25) (hf28) (hf29) (((pk_un (by decide)).trans ((pk_un (by decide)).trans ((pk_un (by decide)).trans ((pk_un (by decide)).trans pk_us))))) (((pk_un (by decide)).trans ((pk_un (by decide)).trans ((pk_un (by decide)).trans ((pk_un (by decide)).trans ((pk_un (by decide)).trans hf8)))))) (((pk_un (by decide)).trans ((pk_un (by decide)).trans ((pk_un (by decide)).trans ((pk_un (by decide)).trans ((pk_un (by decide)).trans hf9)))))) (((pk_un (by decide)).trans ((pk_un (by decide)).trans ((pk_un (by decide)).trans pk_us)))) (((pk_un (by decide)).trans ((pk_un (by decide)).trans ((pk_un (by decide)).trans ((pk_un (by decide)).trans ((pk_un (by decide)).trans hf30)))))) (((pk_un (by decide)).trans ((pk_un (by decide)).trans ((pk_un (by decide)).trans ((pk_un (by decide)).trans ((pk_un (by decide)).trans hf27)))))) H.size) (kV_X3_measureOne hE (e698 hE) rfl rfl ⟨(Nat.le_of_ble_eq_true rfl), (Nat.le_of_ble_eq_true rfl)⟩) [0, 1, 2] rfl (by decide) rfl hl.1 rfl (lv_room (Nat.le_of_ble_eq_true rfl)) dX3_measure_10 ⟨(Nat.le_of_ble_eq_true rfl), (Nat.le_of_ble_eq_true rfl)⟩) hP hD hS hA [0, 1, 2] [] rfl rfl (by decide) (by decide) (fun u9 H locs hP hD hS => ?_)
  have hP : va_P g.1 vwCl [(q4, .inl (g.2 0, 384, .inl f24)), (q5, .inl (g.2 0, 40, .inl (upd (upd (upd (upd (upd (upd (upd f6 1 0) 4 1) 9 1) 14 1) 19 1) 23 1) 24 2))), (q1, .inr (5, [.ref q4, .ref q5]))] H := hP
  have hD : va_D A [(q4, .inl (g.2 0, 384, .inl f24)), (q5, .inl (g.2 0, 40, .inl (upd (upd (upd (upd (upd (upd (upd f6 1 0) 4 1) 9 1) 14 1) 19 1) 23 1) 24 2))), (q1, .inr (5, [.ref q4, .ref q5]))] := hD
  refine lv_aload_n hx hb dX3_measure_13 rfl (lv_at hl 1 rfl) ?_
  refine lv_iload_n hx hb dX3_measure_14 rfl (lv_at hl 0 rfl) ?_
  refine lv_iconst (v := 1) hx hb dX3_measure_15 (by decide) ?_
  refine g_i (wr := [(q4, .inl (g.2 0, 384, .inl f24))]) (rV (rest := []) hx hb hml hown hE hP hD 2 rfl rfl (c169_X3_figure l g q1 q5 (.ref q4) (upd (upd (upd (upd (upd (upd (upd f6 1 0) 4 1) 9 1) 14 1) 19 1) 23 1) 24 2) (((pk_un (by decide)).trans ((pk_un (by decide)).trans ((pk_un (by decide)).trans ((pk_un (by decide)).trans ((pk_un (by decide)).trans ((pk_un (by decide)).trans ((pk_un (by decide)).trans hf30)))))))) H.size) (kV_X3_figure hE (e343 hE) rfl rfl ⟨(Nat.le_of_ble_eq_true rfl), (Nat.le_of_ble_eq_true rfl)⟩) [1, 2] rfl (by decide) rfl hl.1 rfl (lv_room (Nat.le_of_ble_eq_true rfl)) dX3_measure_16 ⟨(Nat.le_of_ble_eq_true rfl), (Nat.le_of_ble_eq_true rfl)⟩) hP hD hS hA [1, 2] [0] rfl rfl (by decide) (by decide) (fun u10 H locs hP hD hS => ?_)
  have hP : va_P g.1 vwCl [(q4, .inl (g.2 0, 384, .inl f24)), (q5, .inl (g.2 0, 40, .inl (upd (upd (upd (upd (upd (upd (upd f6 1 0) 4 1) 9 1) 14 1) 19 1) 23 1) 24 2))), (q1, .inr (5, [.ref q4, .ref q5]))] H := hP
  have hD : va_D A [(q4, .inl (g.2 0, 384, .inl f24)), (q5, .inl (g.2 0, 40, .inl (upd (upd (upd (upd (upd (upd (upd f6 1 0) 4 1) 9 1) 14 1) 19 1) 23 1) 24 2))), (q1, .inr (5, [.ref q4, .ref q5]))] := hD
  refine lv_sipush (v := 20000) hx hb dX3_measure_19 (by decide) ?_
  refine lv_icmp_le (tgt := 27) hx hb dX3_measure_22 (by decide) (fun _ => ?_) (fun h => absurd (by decide) h)
  refine lv_iinc (v := 5) (lv' := [(1, .int 5), (0, .ref q1)]) hx hb dX3_measure_27 hl (k := 0) rfl (by decide) (by decide) rfl (fun ls hl => ?_)
  refine lv_goto (tgt := 2) hx hb dX3_measure_30 (by decide) ?_
  refine lv_iload_n hx hb dX3_measure_2 rfl (lv_at hl 0 rfl) ?_
  refine lv_bipush (v := 8) hx hb dX3_measure_3 (by decide) ?_
  refine lv_icmp_ge (tgt := 33) hx hb dX3_measure_5 (by decide) (fun h => absurd h (by decide)) (fun _ => ?_)
  refine lv_aload_n hx hb dX3_measure_8 rfl (lv_at hl 1 rfl) ?_
  refine lv_iload_n hx hb dX3_measure_9 rfl (lv_at hl 0 rfl) ?_
  refine g_v (wr := [(q4, .inl (g.2 0, 384, .inl f24))]) (rV (rest := []) hx hb hml hown hE hP hD 2 rfl rfl (c174_X3_measureOne l g q1 q5 (.ref q4) (upd (upd (upd (upd (upd (upd (upd f6 1 0) 4 1) 9 1) 14 1) 19 1) 23 1) 24 2) (((pk_un (by decide)).trans ((pk_un (by decide)).trans ((pk_un (by decide)).trans ((pk_un (by decide)).trans ((pk_un (by decide)).trans ((pk_un (by decide)).trans ((pk_un (by decide)).trans hf31)))))))) (((pk_un (by decide)).trans ((pk_un (by decide)).trans ((pk_un (by decide)).trans ((pk_un (by decide)).trans ((pk_un (by decide)).trans ((pk_un (by decide)).trans ((pk_un (by decide)).trans hf32)))))))) (((pk_un (by decide)).trans ((pk_un (by decide)).trans ((pk_un (by decide)).trans ((pk_un (by decide)).trans ((pk_un (by decide)).trans ((pk_un (by decide)).trans ((pk_un (by decide)).trans hf33)))))))) (((pk_un (by decide)).trans ((pk_un (by decide)).trans ((pk_un (by decide)).trans ((pk_un (by decide)).trans ((pk_un (by decide)).trans ((pk_un (by decide)).trans ((pk_un (by decide)).trans hf34)))))))) H.size) (kV_X3_measureOne hE (e698 hE) rfl rfl ⟨(Nat.le_of_ble_eq_true rfl), (Nat.le_of_ble_eq_true rfl)⟩) [1, 2] rfl (by decide) rfl hl.1 rfl (lv_room (Nat.le_of_ble_eq_true rfl)) dX3_measure_10 ⟨(Nat.le_of_ble_eq_true rfl), (Nat.le_of_ble_eq_true rfl)⟩) hP hD hS hA [1, 2] [0] rfl rfl (by decide) (by decide) (fun u11 H locs hP hD hS => ?_)
  have hP : va_P g.1 vwCl [(q4, .inl (g.2 0, 384, .inl f24)), (q5, .inl (g.2 0, 40, .inl (upd (upd (upd (upd (upd (upd (upd (upd f6 1 0) 4 1) 9 1) 14 1) 19 1) 23 1) 24 2) 29 1))), (q1, .inr (5, [.ref q4, .ref q5]))] H := hP
  have hD : va_D A [(q4, .inl (g.2 0, 384, .inl f24)), (q5, .inl (g.2 0, 40, .inl (upd (upd (upd (upd (upd (upd (upd (upd f6 1 0) 4 1) 9 1) 14 1) 19 1) 23 1) 24 2) 29 1))), (q1, .inr (5, [.ref q4, .ref q5]))] := hD
  refine lv_aload_n hx hb dX3_measure_13 rfl (lv_at hl 1 rfl) ?_
  refine lv_iload_n hx hb dX3_measure_14 rfl (lv_at hl 0 rfl) ?_
  refine lv_iconst (v := 1) hx hb dX3_measure_15 (by decide) ?_
  refine g_i (wr := [(q4, .inl (g.2 0, 384, .inl f24))]) (rV (rest := []) hx hb hml hown hE hP hD 2 rfl rfl (c175_X3_figure l g q1 q5 (.ref q4) (upd (upd (upd (upd (upd (upd (upd (upd f6 1 0) 4 1) 9 1) 14 1) 19 1) 23 1) 24 2) 29 1) (((pk_un (by decide)).trans ((pk_un (by decide)).trans ((pk_un (by decide)).trans ((pk_un (by decide)).trans ((pk_un (by decide)).trans ((pk_un (by decide)).trans ((pk_un (by decide)).trans ((pk_un (by decide)).trans hf32))))))))) H.size) (kV_X3_figure hE (e343 hE) rfl rfl ⟨(Nat.le_of_ble_eq_true rfl), (Nat.le_of_ble_eq_true rfl)⟩) [1, 2] rfl (by decide) rfl hl.1 rfl (lv_room (Nat.le_of_ble_eq_true rfl)) dX3_measure_16 ⟨(Nat.le_of_ble_eq_true rfl), (Nat.le_of_ble_eq_true rfl)⟩) hP hD hS hA [1, 2] [0] rfl rfl (by decide) (by decide) (fun u12 H locs hP hD hS => ?_)
  have hP : va_P g.1 vwCl [(q4, .inl (g.2 0, 384, .inl f24)), (q5, .inl (g.2 0, 40, .inl (upd (upd (upd (upd (upd (upd (upd (upd f6 1 0) 4 1) 9 1) 14 1) 19 1) 23 1) 24 2) 29 1))), (q1, .inr (5, [.ref q4, .ref q5]))] H := hP
  have hD : va_D A [(q4, .inl (g.2 0, 384, .inl f24)), (q5, .inl (g.2 0, 40, .inl (upd (upd (upd (upd (upd (upd (upd (upd f6 1 0) 4 1) 9 1) 14 1) 19 1) 23 1) 24 2) 29 1))), (q1, .inr (5, [.ref q4, .ref q5]))] := hD
  refine lv_sipush (v := 20000) hx hb dX3_measure_19 (by decide) ?_
  refine lv_icmp_le (tgt := 27) hx hb dX3_measure_22 (by decide) (fun _ => ?_) (fun h => absurd (by decide) h)
  refine lv_iinc (v := 6) (lv' := [(1, .int 6), (0, .ref q1)]) hx hb dX3_measure_27 hl (k := 0) rfl (by decide) (by decide) rfl (fun ls hl => ?_)
  refine lv_goto (tgt := 2) hx hb dX3_measure_30 (by decide) ?_
  refine lv_iload_n hx hb dX3_measure_2 rfl (lv_at hl 0 rfl) ?_
  refine lv_bipush (v := 8) hx hb dX3_measure_3 (by decide) ?_
  refine lv_icmp_ge (tgt := 33) hx hb dX3_measure_5 (by decide) (fun h => absurd h (by decide)) (fun _ => ?_)
  refine lv_aload_n hx hb dX3_measure_8 rfl (lv_at hl 1 rfl) ?_
  refine lv_iload_n hx hb dX3_measure_9 rfl (lv_at hl 0 rfl) ?_
  refine g_v (wr := [(q4, .inl (g.2 0, 384, .inl f24))]) (rV (rest := []) hx hb hml hown hE hP hD 2 rfl rfl (c180_X3_measureOne l g q1 q5 (.ref q4) (upd (upd (upd (upd (upd (upd (upd (upd f6 1 0) 4 1) 9 1) 14 1) 19 1) 23 1) 24 2) 29 1) (((pk_un (by decide)).trans ((pk_un (by decide)).trans ((pk_un (by decide)).trans ((pk_un (by decide)).trans ((pk_un (by decide)).trans ((pk_un (by decide)).trans ((pk_un (by decide)).trans ((pk_un (by decide)).trans hf35))))))))) (((pk_un (by decide)).trans ((pk_un (by decide)).trans ((pk_un (by decide)).trans ((pk_un (by decide)).trans ((pk_un (by decide)).trans ((pk_un (by decide)).trans ((pk_un (by decide)).trans ((pk_un (by decide)).trans hf36))))))))) (((pk_un (by decide)).trans ((pk_un (by decide)).trans ((pk_un (by decide)).trans ((pk_un (by decide)).trans ((pk_un (by decide)).trans ((pk_un (by decide)).trans ((pk_un (by decide)).trans ((pk_un (by decide)).trans hf37))))))))) (((pk_un (by decide)).trans ((pk_un (by decide)).trans ((pk_un (by decide)).trans ((pk_un (by decide)).trans ((pk_un (by decide)).trans ((pk_un (by decide)).trans ((pk_un (by decide)).trans ((pk_un (by decide)).trans hf38))))))))) H.size) (kV_X3_measureOne hE (e698 hE) rfl rfl ⟨(Nat.le_of_ble_eq_true rfl), (Nat.le_of_ble_eq_true rfl)⟩) [1, 2] rfl (by decide) rfl hl.1 rfl (lv_room (Nat.le_of_ble_eq_true rfl)) dX3_measure_10 ⟨(Nat.le_of_ble_eq_true rfl), (Nat.le_of_ble_eq_true rfl)⟩) hP hD hS hA [1, 2] [0] rfl rfl (by decide) (by decide) (fun u13 H locs hP hD hS => ?_)
  have hP : va_P g.1 vwCl [(q4, .inl (g.2 0, 384, .inl f24)), (q5, .inl (g.2 0, 40, .inl (upd (upd (upd (upd (upd (upd (upd (upd (upd f6 1 0) 4 1) 9 1) 14 1) 19 1) 23 1) 24 2) 29 1) 34 1))), (q1, .inr (5, [.ref q4, .ref q5]))] H := hP
  have hD : va_D A [(q4, .inl (g.2 0, 384, .inl f24)), (q5, .inl (g.2 0, 40, .inl (upd (upd (upd (upd (upd (upd (upd (upd (upd f6 1 0) 4 1) 9 1) 14 1) 19 1) 23 1) 24 2) 29 1) 34 1))), (q1, .inr (5, [.ref q4, .ref q5]))] := hD
  refine lv_aload_n hx hb dX3_measure_13 rfl (lv_at hl 1 rfl) ?_
  refine lv_iload_n hx hb dX3_measure_14 rfl (lv_at hl 0 rfl) ?_
  refine lv_iconst (v := 1) hx hb dX3_measure_15 (by decide) ?_
  refine g_i (wr := [(q4, .inl (g.2 0, 384, .inl f24))]) (rV (rest := []) hx hb hml hown hE hP hD 2 rfl rfl (c181_X3_figure l g q1 q5 (.ref q4) (upd (upd (upd (upd (upd (upd (upd (upd (upd f6 1 0) 4 1) 9 1) 14 1) 19 1) 23 1) 24 2) 29 1) 34 1) (((pk_un (by decide)).trans ((pk_un (by decide)).trans ((pk_un (by decide)).trans ((pk_un (by decide)).trans ((pk_un (by decide)).trans ((pk_un (by decide)).trans ((pk_un (by decide)).trans ((pk_un (by decide)).trans ((pk_un (by decide)).trans hf36)))))))))) H.size) (kV_X3_figure hE (e343 hE) rfl rfl ⟨(Nat.le_of_ble_eq_true rfl), (Nat.le_of_ble_eq_true rfl)⟩) [1, 2] rfl (by decide) rfl hl.1 rfl (lv_room (Nat.le_of_ble_eq_true rfl)) dX3_measure_16 ⟨(Nat.le_of_ble_eq_true rfl), (Nat.le_of_ble_eq_true rfl)⟩) hP hD hS hA [1, 2] [0] rfl rfl (by decide) (by decide) (fun u14 H locs hP hD hS => ?_)
  have hP : va_P g.1 vwCl [(q4, .inl (g.2 0, 384, .inl f24)), (q5, .inl (g.2 0, 40, .inl (upd (upd (upd (upd (upd (upd (upd (upd (upd f6 1 0) 4 1) 9 1) 14 1) 19 1) 23 1) 24 2) 29 1) 34 1))), (q1, .inr (5, [.ref q4, .ref q5]))] H := hP
  have hD : va_D A [(q4, .inl (g.2 0, 384, .inl f24)), (q5, .inl (g.2 0, 40, .inl (upd (upd (upd (upd (upd (upd (upd (upd (upd f6 1 0) 4 1) 9 1) 14 1) 19 1) 23 1) 24 2) 29 1) 34 1))), (q1, .inr (5, [.ref q4, .ref q5]))] := hD
  refine lv_sipush (v := 20000) hx hb dX3_measure_19 (by decide) ?_
  refine lv_icmp_le (tgt := 27) hx hb dX3_measure_22 (by decide) (fun _ => ?_) (fun h => absurd (by decide) h)
  refine lv_iinc (v := 7) (lv' := [(1, .int 7), (0, .ref q1)]) hx hb dX3_measure_27 hl (k := 0) rfl (by decide) (by decide) rfl (fun ls hl => ?_)
  refine lv_goto (tgt := 2) hx hb dX3_measure_30 (by decide) ?_
  refine lv_iload_n hx hb dX3_measure_2 rfl (lv_at hl 0 rfl) ?_
  refine lv_bipush (v := 8) hx hb dX3_measure_3 (by decide) ?_
  refine lv_icmp_ge (tgt := 33) hx hb dX3_measure_5 (by decide) (fun h => absurd h (by decide)) (fun _ => ?_)
  refine lv_aload_n hx hb dX3_measure_8 rfl (lv_at hl 1 rfl) ?_
  refine lv_iload_n hx hb dX3_measure_9 rfl (lv_at hl 0 rfl) ?_
  refine g_v (wr := [(q4, .inl (g.2 0, 384, .inl f24))]) (rV (rest := []) hx hb hml hown hE hP hD 2 rfl rfl (c186_X3_measureOne l g q1 q5 (.ref q4) (upd (upd (upd (upd (upd (upd (upd (upd (upd f6 1 0) 4 1) 9 1) 14 1) 19 1) 23 1) 24 2) 29 1) 34 1) (((pk_un (by decide)).trans ((pk_un (by decide)).trans ((pk_un (by decide)).trans ((pk_un (by decide)).trans ((pk_un (by decide)).trans ((pk_un (by decide)).trans ((pk_un (by decide)).trans ((pk_un (by decide)).trans ((pk_un (by decide)).trans hf39)))))))))) (((pk_un (by decide)).trans ((pk_un (by decide)).trans ((pk_un (by decide)).trans ((pk_un (by decide)).trans ((pk_un (by decide)).trans ((pk_un (by decide)).trans ((pk_un (by decide)).trans ((pk_un (by decide)).trans ((pk_un (by decide)).trans hf40)))))))))) (((pk_un (by decide)).trans ((pk_un (by decide)).trans ((pk_un (by decide)).trans ((pk_un (by decide)).trans ((pk_un (by decide)).trans ((pk_un (by decide)).trans ((pk_un (by decide)).trans ((pk_un (by decide)).trans ((pk_un (by decide)).trans hf41)))))))))) (((pk_un (by decide)).trans ((pk_un (by decide)).trans ((pk_un (by decide)).trans ((pk_un (by decide)).trans ((pk_un (by decide)).trans ((pk_un (by decide)).trans ((pk_un (by decide)).trans ((pk_un (by decide)).trans ((pk_un (by decide)).trans hf42)))))))))) H.size) (kV_X3_measureOne hE (e698 hE) rfl rfl ⟨(Nat.le_of_ble_eq_true rfl), (Nat.le_of_ble_eq_true rfl)⟩) [1, 2] rfl (by decide) rfl hl.1 rfl (lv_room (Nat.le_of_ble_eq_true rfl)) dX3_measure_10 ⟨(Nat.le_of_ble_eq_true rfl), (Nat.le_of_ble_eq_true rfl)⟩) hP hD hS hA [1, 2] [0] rfl rfl (by decide) (by decide) (fun u15 H locs hP hD hS => ?_)
  have hP : va_P g.1 vwCl [(q4, .inl (g.2 0, 384, .inl f24)), (q5, .inl (g.2 0, 40, .inl (upd (upd (upd (upd (upd (upd (upd (upd (upd (upd f6 1 0) 4 1) 9 1) 14 1) 19 1) 23 1) 24 2) 29 1) 34 1) 39 1))), (q1, .inr (5, [.ref q4, .ref q5]))] H := hP
  have hD : va_D A [(q4, .inl (g.2 0, 384, .inl f24)), (q5, .inl (g.2 0, 40, .inl (upd (upd (upd (upd (upd (upd (upd (upd (upd (upd f6 1 0) 4 1) 9 1) 14 1) 19 1) 23 1) 24 2) 29 1) 34 1) 39 1))), (q1, .inr (5, [.ref q4, .ref q5]))] := hD
  refine lv_aload_n hx hb dX3_measure_13 rfl (lv_at hl 1 rfl) ?_
  refine lv_iload_n hx hb dX3_measure_14 rfl (lv_at hl 0 rfl) ?_
  refine lv_iconst (v := 1) hx hb dX3_measure_15 (by decide) ?_
  refine g_i (wr := [(q4, .inl (g.2 0, 384, .inl f24))]) (rV (rest := []) hx hb hml hown hE hP hD 2 rfl rfl (c187_X3_figure l g q1 q5 (.ref q4) (upd (upd (upd (upd (upd (upd (upd (upd (upd (upd f6 1 0) 4 1) 9 1) 14 1) 19 1) 23 1) 24 2) 29 1) 34 1) 39 1) (((pk_un (by decide)).trans ((pk_un (by decide)).trans ((pk_un (by decide)).trans ((pk_un (by decide)).trans ((pk_un (by decide)).trans ((pk_un (by decide)).trans ((pk_un (by decide)).trans ((pk_un (by decide)).trans ((pk_un (by decide)).trans ((pk_un (by decide)).trans hf40))))))))))) H.size) (kV_X3_figure hE (e343 hE) rfl rfl ⟨(Nat.le_of_ble_eq_true rfl), (Nat.le_of_ble_eq_true rfl)⟩) [1, 2] rfl (by decide) rfl hl.1 rfl (lv_room (Nat.le_of_ble_eq_true rfl)) dX3_measure_16 ⟨(Nat.le_of_ble_eq_true rfl), (Nat.le_of_ble_eq_true rfl)⟩) hP hD hS hA [1, 2] [0] rfl rfl (by decide) (by decide) (fun u16 H locs hP hD hS => ?_)
  have hP : va_P g.1 vwCl [(q4, .inl (g.2 0, 384, .inl f24)), (q5, .inl (g.2 0, 40, .inl (upd (upd (upd (upd (upd (upd (upd (upd (upd (upd f6 1 0) 4 1) 9 1) 14 1) 19 1) 23 1) 24 2) 29 1) 34 1) 39 1))), (q1, .inr (5, [.ref q4, .ref q5]))] H := hP
  have hD : va_D A [(q4, .inl (g.2 0, 384, .inl f24)), (q5, .inl (g.2 0, 40, .inl (upd (upd (upd (upd (upd (upd (upd (upd (upd (upd f6 1 0) 4 1) 9 1) 14 1) 19 1) 23 1) 24 2) 29 1) 34 1) 39 1))), (q1, .inr (5, [.ref q4, .ref q5]))] := hD
  refine lv_sipush (v := 20000) hx hb dX3_measure_19 (by decide) ?_
  refine lv_icmp_le (tgt := 27) hx hb dX3_measure_22 (by decide) (fun _ => ?_) (fun h => absurd (by decide) h)
  refine lv_iinc (v := 8) (lv' := [(1, .int 8), (0, .ref q1)]) hx hb dX3_measure_27 hl (k := 0) rfl (by decide) (by decide) rfl (fun ls hl => ?_)
  refine lv_goto (tgt := 2) hx hb dX3_measure_30 (by decide) ?_
  refine lv_iload_n hx hb dX3_measure_2 rfl (lv_at hl 0 rfl) ?_
  refine lv_bipush (v := 8) hx hb dX3_measure_3 (by decide) ?_
  refine lv_icmp_ge (tgt := 33) hx hb dX3_measure_5 (by decide) (fun _ => ?_) (fun h => absurd (by decide) h)
  refine lv_iconst (v := 1) hx hb dX3_measure_33 (by decide) ?_
  exact x_zret hx hb hr rfl rfl hlocks hP hD hS hAe hsz (Nat.le_of_ble_eq_true rfl) (Nat.le_of_ble_eq_true rfl) (fun _ => 0) [0, 1, 2] (by decide) rfl dX3_measure_34
